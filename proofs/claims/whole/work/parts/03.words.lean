theorem k_0 : Cond.selects R_RC y_RC_needCalendar y_RC_needCalendar ∈ ALLW := kw 0 (by decide +kernel) rfl
theorem k_2 : Cond.selects R_RR y_RR_readRule y_RR_readRule ∈ ALLW := kw 2 (by decide +kernel) rfl
theorem k_3 : Cond.selects R_RR y_RR_takeNumber y_RR_takeNumber ∈ ALLW := kw 3 (by decide +kernel) rfl
theorem k_4 : Cond.selects R_RR y_RR_take y_RR_take ∈ ALLW := kw 4 (by decide +kernel) rfl
theorem k_5 : Cond.selects R_RR y_RR_readSpan y_RR_readSpan ∈ ALLW := kw 5 (by decide +kernel) rfl
theorem k_6 : Cond.selects R_RR y_RR_takeHalfHour y_RR_takeHalfHour ∈ ALLW := kw 6 (by decide +kernel) rfl
theorem k_7 : Cond.selects R_RR y_RR_readMatcher y_RR_readMatcher ∈ ALLW := kw 7 (by decide +kernel) rfl
theorem k_8 : Cond.selects R_RR y_RR_openMatcher y_RR_openMatcher ∈ ALLW := kw 8 (by decide +kernel) rfl
theorem k_9 : Cond.selects R_RR y_RR_takeNots y_RR_takeNots ∈ ALLW := kw 9 (by decide +kernel) rfl
theorem k_10 : Cond.selects R_RR y_RR_readAtom y_RR_readAtom ∈ ALLW := kw 10 (by decide +kernel) rfl
theorem k_11 : Cond.selects R_RR y_RR_readWeekdays y_RR_readWeekdays ∈ ALLW := kw 11 (by decide +kernel) rfl
theorem k_12 : Cond.selects R_RR y_RR_readRankedWeekday y_RR_readRankedWeekday ∈ ALLW := kw 12 (by decide +kernel) rfl
theorem k_13 : Cond.selects R_RR y_RR_readDates y_RR_readDates ∈ ALLW := kw 13 (by decide +kernel) rfl
theorem k_14 : Cond.selects R_RR y_RR_takeMonthAndDay y_RR_takeMonthAndDay ∈ ALLW := kw 14 (by decide +kernel) rfl
theorem k_15 : Cond.selects R_RR y_RR_readCycle y_RR_readCycle ∈ ALLW := kw 15 (by decide +kernel) rfl
theorem k_16 : Cond.selects R_RR y_RR_readFeast y_RR_readFeast ∈ ALLW := kw 16 (by decide +kernel) rfl
theorem k_17 : Cond.selects R_RR y_RR_readYears y_RR_readYears ∈ ALLW := kw 17 (by decide +kernel) rfl
theorem k_18 : Cond.selects R_AT y_AT_matches y_AT_matches ∈ ALLW := kw 18 (by decide +kernel) rfl
theorem k_19 : Cond.selects R_AT y_AT_isBetween y_AT_isBetween ∈ ALLW := kw 19 (by decide +kernel) rfl
theorem k_20 : Cond.selects R_RR y_RR_closeMatchers y_RR_closeMatchers ∈ ALLW := kw 20 (by decide +kernel) rfl
theorem k_21 : Cond.selects R_RR y_RR_closeAll y_RR_closeAll ∈ ALLW := kw 21 (by decide +kernel) rfl
theorem k_22 : Cond.selects R_RC y_RC_planWithCell y_RC_planWithCell ∈ ALLW := kw 22 (by decide +kernel) rfl
theorem k_23 : Cond.selects R_RC y_RC_needCell y_RC_needCell ∈ ALLW := kw 23 (by decide +kernel) rfl
theorem k_24 : Cond.selects R_RC y_RC_compiledPlan y_RC_compiledPlan ∈ ALLW := kw 24 (by decide +kernel) rfl
theorem k_25 : Cond.selects R_RC y_RC_decidesSome y_RC_decidesSome ∈ ALLW := kw 25 (by decide +kernel) rfl
theorem k_26 : Cond.selects R_RC y_RC_firstOfRun y_RC_firstOfRun ∈ ALLW := kw 26 (by decide +kernel) rfl
theorem k_27 : Cond.selects R_RC y_RC_lastOfRun y_RC_lastOfRun ∈ ALLW := kw 27 (by decide +kernel) rfl
theorem k_28 : Cond.selects R_MD y_MD_refused y_MD_refused ∈ ALLW := kw 28 (by decide +kernel) rfl
theorem k_29 : Cond.selects R_MD y_MD_readAll y_MD_readAll ∈ ALLW := kw 29 (by decide +kernel) rfl
theorem k_30 : Cond.selects R_MD y_MD_push y_MD_push ∈ ALLW := kw 30 (by decide +kernel) rfl
theorem k_31 : Cond.selects R_MD y_MD_take y_MD_take ∈ ALLW := kw 31 (by decide +kernel) rfl
theorem k_32 : Cond.selects R_MD y_MD_beginRule y_MD_beginRule ∈ ALLW := kw 32 (by decide +kernel) rfl
theorem k_33 : Cond.selects R_MD y_MD_takeSpan y_MD_takeSpan ∈ ALLW := kw 33 (by decide +kernel) rfl
theorem k_34 : Cond.selects R_MD y_MD_takeMatcher y_MD_takeMatcher ∈ ALLW := kw 34 (by decide +kernel) rfl
theorem k_35 : Cond.selects R_MD y_MD_beginOne y_MD_beginOne ∈ ALLW := kw 35 (by decide +kernel) rfl
theorem k_36 : Cond.selects R_MD y_MD_newAtom y_MD_newAtom ∈ ALLW := kw 36 (by decide +kernel) rfl
theorem k_37 : Cond.selects R_MD y_MD_emit y_MD_emit ∈ ALLW := kw 37 (by decide +kernel) rfl
theorem k_38 : Cond.selects R_MD y_MD_takeAtom y_MD_takeAtom ∈ ALLW := kw 38 (by decide +kernel) rfl
theorem k_39 : Cond.selects R_MD y_MD_go y_MD_go ∈ ALLW := kw 39 (by decide +kernel) rfl
theorem k_40 : Cond.selects R_MD y_MD_takeDates y_MD_takeDates ∈ ALLW := kw 40 (by decide +kernel) rfl
theorem k_41 : Cond.selects R_MD y_MD_takeCycle y_MD_takeCycle ∈ ALLW := kw 41 (by decide +kernel) rfl
theorem k_42 : Cond.selects R_MD y_MD_takeYears y_MD_takeYears ∈ ALLW := kw 42 (by decide +kernel) rfl
theorem k_43 : Cond.selects R_MD y_MD_isMatched y_MD_isMatched ∈ ALLW := kw 43 (by decide +kernel) rfl
theorem k_44 : Cond.selects R_MD y_MD_isAtom y_MD_isAtom ∈ ALLW := kw 44 (by decide +kernel) rfl
theorem k_45 : Cond.selects R_MD y_MD_week y_MD_week ∈ ALLW := kw 45 (by decide +kernel) rfl
theorem k_46 : Cond.selects R_MD y_MD_wrong y_MD_wrong ∈ ALLW := kw 46 (by decide +kernel) rfl
theorem k_47 : Cond.selects R_MD y_MD_isLost y_MD_isLost ∈ ALLW := kw 47 (by decide +kernel) rfl
theorem k_48 : Cond.selects R_MD y_MD_isLastSunday y_MD_isLastSunday ∈ ALLW := kw 48 (by decide +kernel) rfl
theorem k_49 : Cond.selects R_MD y_MD_tariffOf y_MD_tariffOf ∈ ALLW := kw 49 (by decide +kernel) rfl
theorem k_50 : Cond.selects R_MD y_MD_decides y_MD_decides ∈ ALLW := kw 50 (by decide +kernel) rfl
theorem k_51 : Cond.selects R_MD y_MD_isCovered y_MD_isCovered ∈ ALLW := kw 51 (by decide +kernel) rfl
theorem k_52 : Cond.selects R_MD y_MD_isMatch y_MD_isMatch ∈ ALLW := kw 52 (by decide +kernel) rfl
theorem k_53 : Cond.selects R_MD y_MD_isTwice y_MD_isTwice ∈ ALLW := kw 53 (by decide +kernel) rfl
theorem k_54 : Cond.selects R_MD y_MD_find y_MD_find ∈ ALLW := kw 54 (by decide +kernel) rfl
theorem k_55 : Cond.selects R_MD y_MD_timeOf y_MD_timeOf ∈ ALLW := kw 55 (by decide +kernel) rfl
theorem k_56 : Cond.selects R_MD y_MD_shown y_MD_shown ∈ ALLW := kw 56 (by decide +kernel) rfl
theorem k_57 : Cond.selects R_MD y_MD_wrongTwo y_MD_wrongTwo ∈ ALLW := kw 57 (by decide +kernel) rfl
theorem k_58 : Cond.initialized R_LW ∈ ALLW := kw 58 (by decide +kernel) rfl
theorem k_59 : Cond.initialized R_RC ∈ ALLW := kw 59 (by decide +kernel) rfl
theorem k_60 : Cond.initialized R_SH ∈ ALLW := kw 60 (by decide +kernel) rfl
theorem k_61 : Cond.initialized R_AL ∈ ALLW := kw 61 (by decide +kernel) rfl
theorem k_62 : Cond.initialized R_RR ∈ ALLW := kw 62 (by decide +kernel) rfl
theorem k_63 : Cond.initialized R_DS ∈ ALLW := kw 63 (by decide +kernel) rfl
theorem k_64 : Cond.initialized R_AT ∈ ALLW := kw 64 (by decide +kernel) rfl
theorem k_65 : Cond.initialized R_PL ∈ ALLW := kw 65 (by decide +kernel) rfl
theorem k_66 : Cond.initialized R_CN ∈ ALLW := kw 66 (by decide +kernel) rfl
theorem k_67 : Cond.initialized R_MD ∈ ALLW := kw 67 (by decide +kernel) rfl
theorem k_72 : Cond.initialized R_JA ∈ ALLW := kw 72 (by decide +kernel) rfl
theorem k_74 : Cond.initialized R_JL ∈ ALLW := kw 74 (by decide +kernel) rfl
theorem k_75 : Cond.classLink R_LW 8 R_RC ∈ ALLW := kw 75 (by decide +kernel) rfl
theorem k_76 : Cond.instantiable R_RC 7 ∈ ALLW := kw 76 (by decide +kernel) rfl
theorem k_77 : Cond.methodLink R_LW 49 y_RC_init ∈ ALLW := kw 77 (by decide +kernel) rfl
theorem k_78 : Cond.instanceMethod y_RC_init ∈ ALLW := kw 78 (by decide +kernel) rfl
set_option maxRecDepth 20000 in
theorem kc_RC_init : Cond.code y_RC_init b_RC_init 2 none ∈ ALLW := kw 79 (by rfl) rfl
theorem k_80 : Cond.methodLink R_RC 3 objectInit ∈ ALLW := kw 80 (by decide +kernel) rfl
theorem k_81 : Cond.instanceMethod objectInit ∈ ALLW := kw 81 (by decide +kernel) rfl
theorem k_82 : Cond.code objectInit ⟨#[0xb1]⟩ 1 none ∈ ALLW := kw 82 (by decide +kernel) rfl
theorem k_83 : Cond.classLink R_RC 13 R_SH ∈ ALLW := kw 83 (by decide +kernel) rfl
theorem k_84 : Cond.instantiable R_SH 3 ∈ ALLW := kw 84 (by decide +kernel) rfl
theorem k_85 : Cond.methodLink R_RC 15 y_SH_init ∈ ALLW := kw 85 (by decide +kernel) rfl
theorem k_86 : Cond.instanceMethod y_SH_init ∈ ALLW := kw 86 (by decide +kernel) rfl
set_option maxRecDepth 20000 in
theorem kc_SH_init : Cond.code y_SH_init b_SH_init 2 none ∈ ALLW := kw 87 (by rfl) rfl
theorem k_88 : Cond.methodLink R_SH 3 objectInit ∈ ALLW := kw 88 (by decide +kernel) rfl
theorem k_89 : Cond.methodLink R_SH 18 y_AL_lastSunday ∈ ALLW := kw 89 (by decide +kernel) rfl
theorem k_90 : Cond.static y_AL_lastSunday ∈ ALLW := kw 90 (by decide +kernel) rfl
set_option maxRecDepth 20000 in
theorem kc_AL_lastSunday : Cond.code y_AL_lastSunday b_AL_lastSunday 3 (some .int) ∈ ALLW := kw 91 (by rfl) rfl
theorem k_92 : Cond.methodLink R_AL 18 y_AL_monthLength ∈ ALLW := kw 92 (by decide +kernel) rfl
theorem k_93 : Cond.static y_AL_monthLength ∈ ALLW := kw 93 (by decide +kernel) rfl
set_option maxRecDepth 20000 in
theorem kc_AL_monthLength : Cond.code y_AL_monthLength b_AL_monthLength 2 (some .int) ∈ ALLW := kw 94 (by rfl) rfl
theorem k_95 : Cond.fieldLink R_AL 33 R_AL "LONGEST" "[I" ∈ ALLW := kw 95 (by decide +kernel) rfl
theorem k_97 : Cond.methodLink R_AL 26 y_AL_dayNumber ∈ ALLW := kw 97 (by decide +kernel) rfl
theorem k_98 : Cond.static y_AL_dayNumber ∈ ALLW := kw 98 (by decide +kernel) rfl
set_option maxRecDepth 20000 in
theorem kc_AL_dayNumber : Cond.code y_AL_dayNumber b_AL_dayNumber 5 (some .int) ∈ ALLW := kw 99 (by rfl) rfl
theorem k_100 : Cond.methodLink R_AL 36 y_AL_firstDay ∈ ALLW := kw 100 (by decide +kernel) rfl
theorem k_101 : Cond.static y_AL_firstDay ∈ ALLW := kw 101 (by decide +kernel) rfl
set_option maxRecDepth 20000 in
theorem kc_AL_firstDay : Cond.code y_AL_firstDay b_AL_firstDay 1 (some .int) ∈ ALLW := kw 102 (by rfl) rfl
theorem k_103 : Cond.methodLink R_AL 39 y_AL_weekday ∈ ALLW := kw 103 (by decide +kernel) rfl
theorem k_104 : Cond.static y_AL_weekday ∈ ALLW := kw 104 (by decide +kernel) rfl
set_option maxRecDepth 20000 in
theorem kc_AL_weekday : Cond.code y_AL_weekday b_AL_weekday 1 (some .int) ∈ ALLW := kw 105 (by rfl) rfl
theorem k_106 : Cond.fieldLink R_SH 9 R_SH "losingDays" "[I" ∈ ALLW := kw 106 (by decide +kernel) rfl
theorem k_107 : Cond.fieldLink R_SH 15 R_SH "doublingDays" "[I" ∈ ALLW := kw 107 (by decide +kernel) rfl
theorem k_108 : Cond.fieldLink R_SH 24 R_SH "on" "Z" ∈ ALLW := kw 108 (by decide +kernel) rfl
theorem k_117 : Cond.arrayClass .char ∈ ALLW := kw 117 (by decide +kernel) rfl
theorem k_118 : Cond.arrayClass .int ∈ ALLW := kw 118 (by decide +kernel) rfl
theorem k_119 : Cond.classLink R_RC 20 R_AL ∈ ALLW := kw 119 (by decide +kernel) rfl
theorem k_120 : Cond.instantiable R_AL 2 ∈ ALLW := kw 120 (by decide +kernel) rfl
theorem k_121 : Cond.methodLink R_RC 22 y_AL_init ∈ ALLW := kw 121 (by decide +kernel) rfl
theorem k_122 : Cond.instanceMethod y_AL_init ∈ ALLW := kw 122 (by decide +kernel) rfl
set_option maxRecDepth 20000 in
theorem kc_AL_init : Cond.code y_AL_init b_AL_init 5 none ∈ ALLW := kw 123 (by rfl) rfl
theorem k_124 : Cond.methodLink R_AL 3 objectInit ∈ ALLW := kw 124 (by decide +kernel) rfl
theorem k_125 : Cond.methodLink R_AL 22 y_AL_feastDate ∈ ALLW := kw 125 (by decide +kernel) rfl
theorem k_126 : Cond.static y_AL_feastDate ∈ ALLW := kw 126 (by decide +kernel) rfl
set_option maxRecDepth 20000 in
theorem kc_AL_feastDate : Cond.code y_AL_feastDate b_AL_feastDate 14 (some .int) ∈ ALLW := kw 127 (by rfl) rfl
theorem k_128 : Cond.fieldLink R_AL 9 R_AL "dates" "[I" ∈ ALLW := kw 128 (by decide +kernel) rfl
theorem k_129 : Cond.fieldLink R_AL 15 R_AL "feastDays" "[I" ∈ ALLW := kw 129 (by decide +kernel) rfl
theorem k_135 : Cond.classLink R_RC 27 R_RR ∈ ALLW := kw 135 (by decide +kernel) rfl
theorem k_136 : Cond.instantiable R_RR 10 ∈ ALLW := kw 136 (by decide +kernel) rfl
theorem k_137 : Cond.methodLink R_RC 29 y_RR_init ∈ ALLW := kw 137 (by decide +kernel) rfl
theorem k_138 : Cond.instanceMethod y_RR_init ∈ ALLW := kw 138 (by decide +kernel) rfl
set_option maxRecDepth 20000 in
theorem kc_RR_init : Cond.code y_RR_init b_RR_init 3 none ∈ ALLW := kw 139 (by rfl) rfl
theorem k_140 : Cond.methodLink R_RR 3 objectInit ∈ ALLW := kw 140 (by decide +kernel) rfl
theorem k_141 : Cond.classLink R_RR 9 R_DS ∈ ALLW := kw 141 (by decide +kernel) rfl
theorem k_142 : Cond.instantiable R_DS 1 ∈ ALLW := kw 142 (by decide +kernel) rfl
theorem k_144 : Cond.instanceMethod y_DS_init ∈ ALLW := kw 144 (by decide +kernel) rfl
set_option maxRecDepth 20000 in
theorem kc_DS_init : Cond.code y_DS_init b_DS_init 1 none ∈ ALLW := kw 145 (by rfl) rfl
theorem k_146 : Cond.methodLink R_DS 3 objectInit ∈ ALLW := kw 146 (by decide +kernel) rfl
theorem k_147 : Cond.fieldLink R_DS 9 R_DS "words" "[J" ∈ ALLW := kw 147 (by decide +kernel) rfl
theorem k_151 : Cond.arrayClass .long ∈ ALLW := kw 151 (by decide +kernel) rfl
theorem k_153 : Cond.classLink R_RR 29 R_AT ∈ ALLW := kw 153 (by decide +kernel) rfl
theorem k_154 : Cond.instantiable R_AT 4 ∈ ALLW := kw 154 (by decide +kernel) rfl
theorem k_155 : Cond.methodLink R_RR 31 y_AT_init ∈ ALLW := kw 155 (by decide +kernel) rfl
theorem k_156 : Cond.instanceMethod y_AT_init ∈ ALLW := kw 156 (by decide +kernel) rfl
set_option maxRecDepth 20000 in
theorem kc_AT_init : Cond.code y_AT_init b_AT_init 2 none ∈ ALLW := kw 157 (by rfl) rfl
theorem k_158 : Cond.methodLink R_AT 3 objectInit ∈ ALLW := kw 158 (by decide +kernel) rfl
theorem k_159 : Cond.fieldLink R_AT 9 R_AT "almanac" "LRuleCalendar$Almanac;" ∈ ALLW := kw 159 (by decide +kernel) rfl
theorem k_160 : Cond.fieldLink R_AT 15 R_AT "kind" "I" ∈ ALLW := kw 160 (by decide +kernel) rfl
theorem k_161 : Cond.fieldLink R_AT 19 R_AT "first" "I" ∈ ALLW := kw 161 (by decide +kernel) rfl
theorem k_162 : Cond.fieldLink R_AT 22 R_AT "second" "I" ∈ ALLW := kw 162 (by decide +kernel) rfl
theorem k_172 : Cond.arrayClass .boolean ∈ ALLW := kw 172 (by decide +kernel) rfl
theorem k_173 : Cond.fieldLink R_RR 34 R_RR "atom" "LRuleCalendar$Atom;" ∈ ALLW := kw 173 (by decide +kernel) rfl
theorem k_174 : Cond.fieldLink R_RR 12 R_RR "atomDays" "LRuleCalendar$DaySet;" ∈ ALLW := kw 174 (by decide +kernel) rfl
theorem k_175 : Cond.fieldLink R_RR 18 R_RR "any" "[LRuleCalendar$DaySet;" ∈ ALLW := kw 175 (by decide +kernel) rfl
theorem k_176 : Cond.fieldLink R_RR 22 R_RR "every" "[LRuleCalendar$DaySet;" ∈ ALLW := kw 176 (by decide +kernel) rfl
theorem k_177 : Cond.fieldLink R_RR 25 R_RR "negated" "[Z" ∈ ALLW := kw 177 (by decide +kernel) rfl
theorem k_178 : Cond.fieldLink R_RR 38 R_RR "text" "[C" ∈ ALLW := kw 178 (by decide +kernel) rfl
theorem k_179 : Cond.fieldLink R_RR 42 R_RR "length" "I" ∈ ALLW := kw 179 (by decide +kernel) rfl
theorem k_180 : Cond.fieldLink R_RR 46 R_RR "place" "I" ∈ ALLW := kw 180 (by decide +kernel) rfl
theorem k_182 : Cond.fieldLink R_RR 66 R_RR "from" "I" ∈ ALLW := kw 182 (by decide +kernel) rfl
theorem k_183 : Cond.fieldLink R_RR 69 R_RR "to" "I" ∈ ALLW := kw 183 (by decide +kernel) rfl
theorem k_205 : Cond.classLink R_RC 36 R_PL ∈ ALLW := kw 205 (by decide +kernel) rfl
theorem k_207 : Cond.instantiable R_PL 3 ∈ ALLW := kw 207 (by decide +kernel) rfl
theorem k_209 : Cond.instanceMethod y_PL_init ∈ ALLW := kw 209 (by decide +kernel) rfl
set_option maxRecDepth 20000 in
theorem kc_PL_init : Cond.code y_PL_init b_PL_init 1 none ∈ ALLW := kw 210 (by rfl) rfl
theorem k_211 : Cond.methodLink R_PL 3 objectInit ∈ ALLW := kw 211 (by decide +kernel) rfl
theorem k_212 : Cond.classLink R_PL 9 R_CN ∈ ALLW := kw 212 (by decide +kernel) rfl
theorem k_213 : Cond.instantiable R_CN 1 ∈ ALLW := kw 213 (by decide +kernel) rfl
theorem k_215 : Cond.instanceMethod y_CN_init ∈ ALLW := kw 215 (by decide +kernel) rfl
set_option maxRecDepth 20000 in
theorem kc_CN_init : Cond.code y_CN_init b_CN_init 1 none ∈ ALLW := kw 216 (by rfl) rfl
theorem k_217 : Cond.methodLink R_CN 3 objectInit ∈ ALLW := kw 217 (by decide +kernel) rfl
theorem k_218 : Cond.classLink R_CN 11 "[[J" ∈ ALLW := kw 218 (by decide +kernel) rfl
theorem k_220 : Cond.fieldLink R_CN 13 R_CN "bits" "[[J" ∈ ALLW := kw 220 (by decide +kernel) rfl
theorem k_224 : Cond.fieldLink R_PL 12 R_PL "tariffs" "LRuleCalendar$CellNumbers;" ∈ ALLW := kw 224 (by decide +kernel) rfl
theorem k_226 : Cond.fieldLink R_PL 18 R_PL "deciders" "LRuleCalendar$CellNumbers;" ∈ ALLW := kw 226 (by decide +kernel) rfl
theorem k_228 : Cond.fieldLink R_PL 24 R_PL "rules" "I" ∈ ALLW := kw 228 (by decide +kernel) rfl
theorem k_237 : Cond.fieldLink R_RC 9 R_RC "text" "[C" ∈ ALLW := kw 237 (by decide +kernel) rfl
theorem k_238 : Cond.fieldLink R_RC 47 R_RC "length" "I" ∈ ALLW := kw 238 (by decide +kernel) rfl
theorem k_239 : Cond.fieldLink R_RC 16 R_RC "shifter" "LRuleCalendar$Shifter;" ∈ ALLW := kw 239 (by decide +kernel) rfl
theorem k_240 : Cond.fieldLink R_RC 23 R_RC "almanac" "LRuleCalendar$Almanac;" ∈ ALLW := kw 240 (by decide +kernel) rfl
theorem k_241 : Cond.fieldLink R_RC 32 R_RC "reader" "LRuleCalendar$RuleReader;" ∈ ALLW := kw 241 (by decide +kernel) rfl
theorem k_242 : Cond.fieldLink R_RC 38 R_RC "plans" "[LRuleCalendar$Plan;" ∈ ALLW := kw 242 (by decide +kernel) rfl
theorem k_243 : Cond.fieldLink R_RC 43 R_RC "spare" "LRuleCalendar$Plan;" ∈ ALLW := kw 243 (by decide +kernel) rfl
theorem k_259 : Cond.methodLink R_LW 53 y_RC_type ∈ ALLW := kw 259 (by decide +kernel) rfl
theorem k_260 : Cond.instanceMethod y_RC_type ∈ ALLW := kw 260 (by decide +kernel) rfl
theorem k_261 : Cond.selects R_RC y_RC_type y_RC_type ∈ ALLW := kw 261 (by decide +kernel) rfl
set_option maxRecDepth 20000 in
theorem kc_RC_type : Cond.code y_RC_type b_RC_type 2 (some .boolean) ∈ ALLW := kw 262 (by rfl) rfl
theorem k_263 : Cond.methodLink R_LW 58 y_RC_wipe ∈ ALLW := kw 263 (by decide +kernel) rfl
theorem k_264 : Cond.instanceMethod y_RC_wipe ∈ ALLW := kw 264 (by decide +kernel) rfl
theorem k_265 : Cond.selects R_RC y_RC_wipe y_RC_wipe ∈ ALLW := kw 265 (by decide +kernel) rfl
set_option maxRecDepth 20000 in
theorem kc_RC_wipe : Cond.code y_RC_wipe b_RC_wipe 2 (some .int) ∈ ALLW := kw 266 (by rfl) rfl
theorem k_267 : Cond.methodLink R_LW 72 y_RC_shifts ∈ ALLW := kw 267 (by decide +kernel) rfl
theorem k_268 : Cond.instanceMethod y_RC_shifts ∈ ALLW := kw 268 (by decide +kernel) rfl
theorem k_269 : Cond.selects R_RC y_RC_shifts y_RC_shifts ∈ ALLW := kw 269 (by decide +kernel) rfl
set_option maxRecDepth 20000 in
theorem kc_RC_shifts : Cond.code y_RC_shifts b_RC_shifts 2 none ∈ ALLW := kw 270 (by rfl) rfl
theorem k_271 : Cond.methodLink R_LW 91 y_RC_dayOf ∈ ALLW := kw 271 (by decide +kernel) rfl
theorem k_272 : Cond.instanceMethod y_RC_dayOf ∈ ALLW := kw 272 (by decide +kernel) rfl
theorem k_273 : Cond.selects R_RC y_RC_dayOf y_RC_dayOf ∈ ALLW := kw 273 (by decide +kernel) rfl
set_option maxRecDepth 20000 in
theorem kc_RC_dayOf : Cond.code y_RC_dayOf b_RC_dayOf 4 (some .int) ∈ ALLW := kw 274 (by rfl) rfl
theorem k_275 : Cond.methodLink R_RC 126 y_AL_dayNumber ∈ ALLW := kw 275 (by decide +kernel) rfl
theorem k_276 : Cond.methodLink R_LW 95 y_RC_dateOf ∈ ALLW := kw 276 (by decide +kernel) rfl
theorem k_277 : Cond.instanceMethod y_RC_dateOf ∈ ALLW := kw 277 (by decide +kernel) rfl
theorem k_278 : Cond.selects R_RC y_RC_dateOf y_RC_dateOf ∈ ALLW := kw 278 (by decide +kernel) rfl
set_option maxRecDepth 20000 in
theorem kc_RC_dateOf : Cond.code y_RC_dateOf b_RC_dateOf 3 (some .int) ∈ ALLW := kw 279 (by rfl) rfl
theorem k_280 : Cond.methodLink R_RC 130 y_AL_date ∈ ALLW := kw 280 (by decide +kernel) rfl
theorem k_281 : Cond.instanceMethod y_AL_date ∈ ALLW := kw 281 (by decide +kernel) rfl
theorem k_282 : Cond.selects R_AL y_AL_date y_AL_date ∈ ALLW := kw 282 (by decide +kernel) rfl
set_option maxRecDepth 20000 in
theorem kc_AL_date : Cond.code y_AL_date b_AL_date 2 (some .int) ∈ ALLW := kw 283 (by rfl) rfl
theorem k_284 : Cond.methodLink R_RC 134 y_AL_weekday ∈ ALLW := kw 284 (by decide +kernel) rfl
theorem k_285 : Cond.methodLink R_RC 137 y_AL_week ∈ ALLW := kw 285 (by decide +kernel) rfl
theorem k_286 : Cond.static y_AL_week ∈ ALLW := kw 286 (by decide +kernel) rfl
set_option maxRecDepth 20000 in
theorem kc_AL_week : Cond.code y_AL_week b_AL_week 3 (some .int) ∈ ALLW := kw 287 (by rfl) rfl
theorem k_289 : Cond.static y_RC_yearIndex ∈ ALLW := kw 289 (by decide +kernel) rfl
set_option maxRecDepth 20000 in
theorem kc_RC_yearIndex : Cond.code y_RC_yearIndex b_RC_yearIndex 1 (some .int) ∈ ALLW := kw 290 (by rfl) rfl
theorem k_291 : Cond.methodLink R_LW 99 y_RC_feast ∈ ALLW := kw 291 (by decide +kernel) rfl
theorem k_292 : Cond.instanceMethod y_RC_feast ∈ ALLW := kw 292 (by decide +kernel) rfl
theorem k_293 : Cond.selects R_RC y_RC_feast y_RC_feast ∈ ALLW := kw 293 (by decide +kernel) rfl
set_option maxRecDepth 20000 in
theorem kc_RC_feast : Cond.code y_RC_feast b_RC_feast 2 (some .int) ∈ ALLW := kw 294 (by rfl) rfl
theorem k_295 : Cond.methodLink R_RC 140 y_AL_feastDate ∈ ALLW := kw 295 (by decide +kernel) rfl
theorem k_296 : Cond.methodLink R_LW 107 y_RC_clock ∈ ALLW := kw 296 (by decide +kernel) rfl
theorem k_297 : Cond.instanceMethod y_RC_clock ∈ ALLW := kw 297 (by decide +kernel) rfl
theorem k_298 : Cond.selects R_RC y_RC_clock y_RC_clock ∈ ALLW := kw 298 (by decide +kernel) rfl
set_option maxRecDepth 20000 in
theorem kc_RC_clock : Cond.code y_RC_clock b_RC_clock 2 (some .int) ∈ ALLW := kw 299 (by rfl) rfl
theorem k_300 : Cond.constant R_RC 147 (70128) ∈ ALLW := kw 300 (by decide +kernel) rfl
theorem k_301 : Cond.methodLink R_RC 148 y_SH_tell ∈ ALLW := kw 301 (by decide +kernel) rfl
theorem k_302 : Cond.instanceMethod y_SH_tell ∈ ALLW := kw 302 (by decide +kernel) rfl
theorem k_303 : Cond.selects R_SH y_SH_tell y_SH_tell ∈ ALLW := kw 303 (by decide +kernel) rfl
set_option maxRecDepth 20000 in
theorem kc_SH_tell : Cond.code y_SH_tell b_SH_tell 4 (some .int) ∈ ALLW := kw 304 (by rfl) rfl
theorem k_305 : Cond.methodLink R_SH 63 y_SH_startOf ∈ ALLW := kw 305 (by decide +kernel) rfl
theorem k_306 : Cond.instanceMethod y_SH_startOf ∈ ALLW := kw 306 (by decide +kernel) rfl
theorem k_307 : Cond.selects R_SH y_SH_startOf y_SH_startOf ∈ ALLW := kw 307 (by decide +kernel) rfl
set_option maxRecDepth 20000 in
theorem kc_SH_startOf : Cond.code y_SH_startOf b_SH_startOf 4 (some .int) ∈ ALLW := kw 308 (by rfl) rfl
theorem k_310 : Cond.methodLink R_SH 36 y_SH_loses ∈ ALLW := kw 310 (by decide +kernel) rfl
theorem k_311 : Cond.instanceMethod y_SH_loses ∈ ALLW := kw 311 (by decide +kernel) rfl
theorem k_312 : Cond.selects R_SH y_SH_loses y_SH_loses ∈ ALLW := kw 312 (by decide +kernel) rfl
set_option maxRecDepth 20000 in
theorem kc_SH_loses : Cond.code y_SH_loses b_SH_loses 2 (some .boolean) ∈ ALLW := kw 313 (by rfl) rfl
theorem k_314 : Cond.methodLink R_SH 52 y_SH_doubles ∈ ALLW := kw 314 (by decide +kernel) rfl
theorem k_315 : Cond.instanceMethod y_SH_doubles ∈ ALLW := kw 315 (by decide +kernel) rfl
theorem k_316 : Cond.selects R_SH y_SH_doubles y_SH_doubles ∈ ALLW := kw 316 (by decide +kernel) rfl
set_option maxRecDepth 20000 in
theorem kc_SH_doubles : Cond.code y_SH_doubles b_SH_doubles 2 (some .boolean) ∈ ALLW := kw 317 (by rfl) rfl
theorem k_318 : Cond.methodLink R_SH 32 y_SH_isShifted ∈ ALLW := kw 318 (by decide +kernel) rfl
theorem k_319 : Cond.instanceMethod y_SH_isShifted ∈ ALLW := kw 319 (by decide +kernel) rfl
theorem k_320 : Cond.selects R_SH y_SH_isShifted y_SH_isShifted ∈ ALLW := kw 320 (by decide +kernel) rfl
set_option maxRecDepth 20000 in
theorem kc_SH_isShifted : Cond.code y_SH_isShifted b_SH_isShifted 2 (some .boolean) ∈ ALLW := kw 321 (by rfl) rfl
theorem k_322 : Cond.methodLink R_LW 63 y_LW_compile ∈ ALLW := kw 322 (by decide +kernel) rfl
theorem k_323 : Cond.static y_LW_compile ∈ ALLW := kw 323 (by decide +kernel) rfl
theorem k_325 : Cond.classLink R_LW 13 "java/lang/IndexOutOfBoundsException" ∈ ALLW := kw 325 (by decide +kernel) rfl
theorem k_326 : Cond.methodLink R_LW 7 y_RC_compile ∈ ALLW := kw 326 (by decide +kernel) rfl
theorem k_327 : Cond.instanceMethod y_RC_compile ∈ ALLW := kw 327 (by decide +kernel) rfl
theorem k_328 : Cond.selects R_RC y_RC_compile y_RC_compile ∈ ALLW := kw 328 (by decide +kernel) rfl
set_option maxRecDepth 20000 in
theorem kc_RC_compile : Cond.code y_RC_compile b_RC_compile 4 (some .int) ∈ ALLW := kw 329 (by rfl) rfl
theorem k_330 : Cond.methodLink R_RC 51 y_RC_needCalendar ∈ ALLW := kw 330 (by decide +kernel) rfl
theorem k_332 : Cond.instanceMethod y_RC_needCalendar ∈ ALLW := kw 332 (by decide +kernel) rfl
set_option maxRecDepth 20000 in
theorem kc_RC_needCalendar : Cond.code y_RC_needCalendar b_RC_needCalendar 2 none ∈ ALLW := kw 333 (by rfl) rfl
theorem k_334 : Cond.classLink R_RC 111 "java/lang/IndexOutOfBoundsException" ∈ ALLW := kw 334 (by decide +kernel) rfl
theorem k_400 : Cond.arrayClass .byte ∈ ALLW := kw 400 (by decide +kernel) rfl
theorem k_401 : Cond.methodLink R_RC 55 y_RR_read ∈ ALLW := kw 401 (by decide +kernel) rfl
theorem k_402 : Cond.instanceMethod y_RR_read ∈ ALLW := kw 402 (by decide +kernel) rfl
theorem k_403 : Cond.selects R_RR y_RR_read y_RR_read ∈ ALLW := kw 403 (by decide +kernel) rfl
set_option maxRecDepth 20000 in
theorem kc_RR_read : Cond.code y_RR_read b_RR_read 5 (some .boolean) ∈ ALLW := kw 404 (by rfl) rfl
theorem k_405 : Cond.methodLink R_RR 49 y_PL_clear ∈ ALLW := kw 405 (by decide +kernel) rfl
theorem k_406 : Cond.instanceMethod y_PL_clear ∈ ALLW := kw 406 (by decide +kernel) rfl
theorem k_407 : Cond.selects R_PL y_PL_clear y_PL_clear ∈ ALLW := kw 407 (by decide +kernel) rfl
set_option maxRecDepth 20000 in
theorem kc_PL_clear : Cond.code y_PL_clear b_PL_clear 1 none ∈ ALLW := kw 408 (by rfl) rfl
theorem k_409 : Cond.methodLink R_PL 21 y_CN_clear ∈ ALLW := kw 409 (by decide +kernel) rfl
theorem k_410 : Cond.instanceMethod y_CN_clear ∈ ALLW := kw 410 (by decide +kernel) rfl
theorem k_411 : Cond.selects R_CN y_CN_clear y_CN_clear ∈ ALLW := kw 411 (by decide +kernel) rfl
set_option maxRecDepth 20000 in
theorem kc_CN_clear : Cond.code y_CN_clear b_CN_clear 2 none ∈ ALLW := kw 412 (by rfl) rfl
theorem k_413 : Cond.methodLink R_CN 16 y_JA_fill ∈ ALLW := kw 413 (by decide +kernel) rfl
theorem k_414 : Cond.static y_JA_fill ∈ ALLW := kw 414 (by decide +kernel) rfl
set_option maxRecDepth 20000 in
theorem kc_JA_fill : Cond.code y_JA_fill b_JA_fill 5 none ∈ ALLW := kw 415 (by rfl) rfl
theorem k_416 : Cond.methodLink R_RR 54 y_RR_readRule ∈ ALLW := kw 416 (by decide +kernel) rfl
theorem k_418 : Cond.instanceMethod y_RR_readRule ∈ ALLW := kw 418 (by decide +kernel) rfl
set_option maxRecDepth 20000 in
theorem kc_RR_readRule : Cond.code y_RR_readRule b_RR_readRule 3 (some .boolean) ∈ ALLW := kw 419 (by rfl) rfl
theorem k_420 : Cond.methodLink R_RR 62 y_RR_takeNumber ∈ ALLW := kw 420 (by decide +kernel) rfl
theorem k_422 : Cond.instanceMethod y_RR_takeNumber ∈ ALLW := kw 422 (by decide +kernel) rfl
set_option maxRecDepth 20000 in
theorem kc_RR_takeNumber : Cond.code y_RR_takeNumber b_RR_takeNumber 6 (some .int) ∈ ALLW := kw 423 (by rfl) rfl
theorem k_424 : Cond.methodLink R_RR 58 y_RR_take ∈ ALLW := kw 424 (by decide +kernel) rfl
theorem k_426 : Cond.instanceMethod y_RR_take ∈ ALLW := kw 426 (by decide +kernel) rfl
set_option maxRecDepth 20000 in
theorem kc_RR_take : Cond.code y_RR_take b_RR_take 2 (some .boolean) ∈ ALLW := kw 427 (by rfl) rfl
theorem k_428 : Cond.methodLink R_RR 72 y_RR_readSpan ∈ ALLW := kw 428 (by decide +kernel) rfl
theorem k_430 : Cond.instanceMethod y_RR_readSpan ∈ ALLW := kw 430 (by decide +kernel) rfl
set_option maxRecDepth 20000 in
theorem kc_RR_readSpan : Cond.code y_RR_readSpan b_RR_readSpan 1 (some .boolean) ∈ ALLW := kw 431 (by rfl) rfl
theorem k_432 : Cond.methodLink R_RR 86 y_RR_takeHalfHour ∈ ALLW := kw 432 (by decide +kernel) rfl
theorem k_434 : Cond.instanceMethod y_RR_takeHalfHour ∈ ALLW := kw 434 (by decide +kernel) rfl
set_option maxRecDepth 20000 in
theorem kc_RR_takeHalfHour : Cond.code y_RR_takeHalfHour b_RR_takeHalfHour 6 (some .int) ∈ ALLW := kw 435 (by rfl) rfl
theorem k_436 : Cond.methodLink R_RR 76 y_DS_fill ∈ ALLW := kw 436 (by decide +kernel) rfl
theorem k_437 : Cond.instanceMethod y_DS_fill ∈ ALLW := kw 437 (by decide +kernel) rfl
theorem k_438 : Cond.selects R_DS y_DS_fill y_DS_fill ∈ ALLW := kw 438 (by decide +kernel) rfl
set_option maxRecDepth 20000 in
theorem kc_DS_fill : Cond.code y_DS_fill b_DS_fill 1 none ∈ ALLW := kw 439 (by rfl) rfl
theorem k_440 : Cond.constantLong R_DS 21 (-1) ∈ ALLW := kw 440 (by decide +kernel) rfl
theorem k_441 : Cond.methodLink R_DS 15 y_JA_fill ∈ ALLW := kw 441 (by decide +kernel) rfl
theorem k_442 : Cond.methodLink R_RR 79 y_RR_readMatcher ∈ ALLW := kw 442 (by decide +kernel) rfl
theorem k_444 : Cond.instanceMethod y_RR_readMatcher ∈ ALLW := kw 444 (by decide +kernel) rfl
set_option maxRecDepth 20000 in
theorem kc_RR_readMatcher : Cond.code y_RR_readMatcher b_RR_readMatcher 4 (some .boolean) ∈ ALLW := kw 445 (by rfl) rfl
theorem k_446 : Cond.methodLink R_RR 90 y_RR_openMatcher ∈ ALLW := kw 446 (by decide +kernel) rfl
theorem k_448 : Cond.instanceMethod y_RR_openMatcher ∈ ALLW := kw 448 (by decide +kernel) rfl
set_option maxRecDepth 20000 in
theorem kc_RR_openMatcher : Cond.code y_RR_openMatcher b_RR_openMatcher 2 none ∈ ALLW := kw 449 (by rfl) rfl
theorem k_450 : Cond.methodLink R_RR 115 y_DS_clear ∈ ALLW := kw 450 (by decide +kernel) rfl
theorem k_451 : Cond.instanceMethod y_DS_clear ∈ ALLW := kw 451 (by decide +kernel) rfl
theorem k_452 : Cond.selects R_DS y_DS_clear y_DS_clear ∈ ALLW := kw 452 (by decide +kernel) rfl
set_option maxRecDepth 20000 in
theorem kc_DS_clear : Cond.code y_DS_clear b_DS_clear 1 none ∈ ALLW := kw 453 (by rfl) rfl
theorem k_454 : Cond.methodLink R_RR 94 y_RR_takeNots ∈ ALLW := kw 454 (by decide +kernel) rfl
theorem k_456 : Cond.instanceMethod y_RR_takeNots ∈ ALLW := kw 456 (by decide +kernel) rfl
set_option maxRecDepth 20000 in
theorem kc_RR_takeNots : Cond.code y_RR_takeNots b_RR_takeNots 3 (some .boolean) ∈ ALLW := kw 457 (by rfl) rfl
theorem k_458 : Cond.methodLink R_RR 97 y_RR_readAtom ∈ ALLW := kw 458 (by decide +kernel) rfl
theorem k_460 : Cond.instanceMethod y_RR_readAtom ∈ ALLW := kw 460 (by decide +kernel) rfl
set_option maxRecDepth 20000 in
theorem kc_RR_readAtom : Cond.code y_RR_readAtom b_RR_readAtom 2 (some .boolean) ∈ ALLW := kw 461 (by rfl) rfl
theorem k_462 : Cond.methodLink R_RR 119 y_RR_readWeekdays ∈ ALLW := kw 462 (by decide +kernel) rfl
theorem k_464 : Cond.instanceMethod y_RR_readWeekdays ∈ ALLW := kw 464 (by decide +kernel) rfl
set_option maxRecDepth 20000 in
theorem kc_RR_readWeekdays : Cond.code y_RR_readWeekdays b_RR_readWeekdays 5 (some .boolean) ∈ ALLW := kw 465 (by rfl) rfl
theorem k_466 : Cond.methodLink R_RR 128 y_AT_become ∈ ALLW := kw 466 (by decide +kernel) rfl
theorem k_467 : Cond.instanceMethod y_AT_become ∈ ALLW := kw 467 (by decide +kernel) rfl
theorem k_468 : Cond.selects R_AT y_AT_become y_AT_become ∈ ALLW := kw 468 (by decide +kernel) rfl
set_option maxRecDepth 20000 in
theorem kc_AT_become : Cond.code y_AT_become b_AT_become 4 none ∈ ALLW := kw 469 (by rfl) rfl
theorem k_470 : Cond.methodLink R_RR 122 y_RR_readRankedWeekday ∈ ALLW := kw 470 (by decide +kernel) rfl
theorem k_472 : Cond.instanceMethod y_RR_readRankedWeekday ∈ ALLW := kw 472 (by decide +kernel) rfl
set_option maxRecDepth 20000 in
theorem kc_RR_readRankedWeekday : Cond.code y_RR_readRankedWeekday b_RR_readRankedWeekday 3 (some .boolean) ∈ ALLW := kw 473 (by rfl) rfl
theorem k_474 : Cond.methodLink R_RR 125 y_RR_readDates ∈ ALLW := kw 474 (by decide +kernel) rfl
theorem k_476 : Cond.instanceMethod y_RR_readDates ∈ ALLW := kw 476 (by decide +kernel) rfl
set_option maxRecDepth 20000 in
theorem kc_RR_readDates : Cond.code y_RR_readDates b_RR_readDates 3 (some .boolean) ∈ ALLW := kw 477 (by rfl) rfl
theorem k_478 : Cond.methodLink R_RR 141 y_RR_takeMonthAndDay ∈ ALLW := kw 478 (by decide +kernel) rfl
theorem k_480 : Cond.instanceMethod y_RR_takeMonthAndDay ∈ ALLW := kw 480 (by decide +kernel) rfl
set_option maxRecDepth 20000 in
theorem kc_RR_takeMonthAndDay : Cond.code y_RR_takeMonthAndDay b_RR_takeMonthAndDay 3 (some .int) ∈ ALLW := kw 481 (by rfl) rfl
theorem k_482 : Cond.methodLink R_RR 147 y_AL_monthLength ∈ ALLW := kw 482 (by decide +kernel) rfl
theorem k_483 : Cond.methodLink R_RR 132 y_RR_readCycle ∈ ALLW := kw 483 (by decide +kernel) rfl
theorem k_485 : Cond.instanceMethod y_RR_readCycle ∈ ALLW := kw 485 (by decide +kernel) rfl
set_option maxRecDepth 20000 in
theorem kc_RR_readCycle : Cond.code y_RR_readCycle b_RR_readCycle 3 (some .boolean) ∈ ALLW := kw 486 (by rfl) rfl
theorem k_487 : Cond.methodLink R_RR 135 y_RR_readFeast ∈ ALLW := kw 487 (by decide +kernel) rfl
theorem k_489 : Cond.instanceMethod y_RR_readFeast ∈ ALLW := kw 489 (by decide +kernel) rfl
set_option maxRecDepth 20000 in
theorem kc_RR_readFeast : Cond.code y_RR_readFeast b_RR_readFeast 3 (some .boolean) ∈ ALLW := kw 490 (by rfl) rfl
theorem k_491 : Cond.methodLink R_RR 138 y_RR_readYears ∈ ALLW := kw 491 (by decide +kernel) rfl
theorem k_493 : Cond.instanceMethod y_RR_readYears ∈ ALLW := kw 493 (by decide +kernel) rfl
set_option maxRecDepth 20000 in
theorem kc_RR_readYears : Cond.code y_RR_readYears b_RR_readYears 4 (some .boolean) ∈ ALLW := kw 494 (by rfl) rfl
theorem k_495 : Cond.methodLink R_RR 100 y_AT_collect ∈ ALLW := kw 495 (by decide +kernel) rfl
theorem k_496 : Cond.instanceMethod y_AT_collect ∈ ALLW := kw 496 (by decide +kernel) rfl
theorem k_497 : Cond.selects R_AT y_AT_collect y_AT_collect ∈ ALLW := kw 497 (by decide +kernel) rfl
set_option maxRecDepth 20000 in
theorem kc_AT_collect : Cond.code y_AT_collect b_AT_collect 3 none ∈ ALLW := kw 498 (by rfl) rfl
theorem k_499 : Cond.methodLink R_AT 25 y_DS_clear ∈ ALLW := kw 499 (by decide +kernel) rfl
theorem k_500 : Cond.methodLink R_AT 30 y_AT_matches ∈ ALLW := kw 500 (by decide +kernel) rfl
theorem k_502 : Cond.instanceMethod y_AT_matches ∈ ALLW := kw 502 (by decide +kernel) rfl
set_option maxRecDepth 20000 in
theorem kc_AT_matches : Cond.code y_AT_matches b_AT_matches 2 (some .boolean) ∈ ALLW := kw 503 (by rfl) rfl
theorem k_504 : Cond.methodLink R_AT 38 y_AL_weekday ∈ ALLW := kw 504 (by decide +kernel) rfl
theorem k_505 : Cond.methodLink R_AT 44 y_AL_hasRank ∈ ALLW := kw 505 (by decide +kernel) rfl
theorem k_506 : Cond.instanceMethod y_AL_hasRank ∈ ALLW := kw 506 (by decide +kernel) rfl
theorem k_507 : Cond.selects R_AL y_AL_hasRank y_AL_hasRank ∈ ALLW := kw 507 (by decide +kernel) rfl
set_option maxRecDepth 20000 in
theorem kc_AL_hasRank : Cond.code y_AL_hasRank b_AL_hasRank 4 (some .boolean) ∈ ALLW := kw 508 (by rfl) rfl
theorem k_509 : Cond.methodLink R_AT 48 y_AL_monthAndDay ∈ ALLW := kw 509 (by decide +kernel) rfl
theorem k_510 : Cond.instanceMethod y_AL_monthAndDay ∈ ALLW := kw 510 (by decide +kernel) rfl
theorem k_511 : Cond.selects R_AL y_AL_monthAndDay y_AL_monthAndDay ∈ ALLW := kw 511 (by decide +kernel) rfl
set_option maxRecDepth 20000 in
theorem kc_AL_monthAndDay : Cond.code y_AL_monthAndDay b_AL_monthAndDay 2 (some .int) ∈ ALLW := kw 512 (by rfl) rfl
theorem k_513 : Cond.methodLink R_AT 51 y_AT_isBetween ∈ ALLW := kw 513 (by decide +kernel) rfl
theorem k_515 : Cond.instanceMethod y_AT_isBetween ∈ ALLW := kw 515 (by decide +kernel) rfl
set_option maxRecDepth 20000 in
theorem kc_AT_isBetween : Cond.code y_AT_isBetween b_AT_isBetween 2 (some .boolean) ∈ ALLW := kw 516 (by rfl) rfl
theorem k_517 : Cond.methodLink R_AT 54 y_AL_week ∈ ALLW := kw 517 (by decide +kernel) rfl
theorem k_518 : Cond.methodLink R_AT 57 y_AL_feastDay ∈ ALLW := kw 518 (by decide +kernel) rfl
theorem k_519 : Cond.instanceMethod y_AL_feastDay ∈ ALLW := kw 519 (by decide +kernel) rfl
theorem k_520 : Cond.selects R_AL y_AL_feastDay y_AL_feastDay ∈ ALLW := kw 520 (by decide +kernel) rfl
set_option maxRecDepth 20000 in
theorem kc_AL_feastDay : Cond.code y_AL_feastDay b_AL_feastDay 2 (some .int) ∈ ALLW := kw 521 (by rfl) rfl
theorem k_523 : Cond.methodLink R_AT 34 y_DS_add ∈ ALLW := kw 523 (by decide +kernel) rfl
theorem k_524 : Cond.instanceMethod y_DS_add ∈ ALLW := kw 524 (by decide +kernel) rfl
theorem k_525 : Cond.selects R_DS y_DS_add y_DS_add ∈ ALLW := kw 525 (by decide +kernel) rfl
set_option maxRecDepth 20000 in
theorem kc_DS_add : Cond.code y_DS_add b_DS_add 2 none ∈ ALLW := kw 526 (by rfl) rfl
theorem k_527 : Cond.methodLink R_RR 104 y_DS_keep ∈ ALLW := kw 527 (by decide +kernel) rfl
theorem k_528 : Cond.instanceMethod y_DS_keep ∈ ALLW := kw 528 (by decide +kernel) rfl
theorem k_529 : Cond.selects R_DS y_DS_keep y_DS_keep ∈ ALLW := kw 529 (by decide +kernel) rfl
set_option maxRecDepth 20000 in
theorem kc_DS_keep : Cond.code y_DS_keep b_DS_keep 4 none ∈ ALLW := kw 530 (by rfl) rfl
theorem k_531 : Cond.methodLink R_RR 108 y_RR_closeMatchers ∈ ALLW := kw 531 (by decide +kernel) rfl
theorem k_533 : Cond.instanceMethod y_RR_closeMatchers ∈ ALLW := kw 533 (by decide +kernel) rfl
set_option maxRecDepth 20000 in
theorem kc_RR_closeMatchers : Cond.code y_RR_closeMatchers b_RR_closeMatchers 3 (some .int) ∈ ALLW := kw 534 (by rfl) rfl
theorem k_535 : Cond.methodLink R_RR 112 y_RR_closeAll ∈ ALLW := kw 535 (by decide +kernel) rfl
theorem k_537 : Cond.instanceMethod y_RR_closeAll ∈ ALLW := kw 537 (by decide +kernel) rfl
set_option maxRecDepth 20000 in
theorem kc_RR_closeAll : Cond.code y_RR_closeAll b_RR_closeAll 2 none ∈ ALLW := kw 538 (by rfl) rfl
theorem k_539 : Cond.methodLink R_RR 116 y_DS_join ∈ ALLW := kw 539 (by decide +kernel) rfl
theorem k_540 : Cond.instanceMethod y_DS_join ∈ ALLW := kw 540 (by decide +kernel) rfl
theorem k_541 : Cond.selects R_DS y_DS_join y_DS_join ∈ ALLW := kw 541 (by decide +kernel) rfl
set_option maxRecDepth 20000 in
theorem kc_DS_join : Cond.code y_DS_join b_DS_join 3 none ∈ ALLW := kw 542 (by rfl) rfl
theorem k_543 : Cond.methodLink R_RR 82 y_PL_lay ∈ ALLW := kw 543 (by decide +kernel) rfl
theorem k_544 : Cond.instanceMethod y_PL_lay ∈ ALLW := kw 544 (by decide +kernel) rfl
theorem k_545 : Cond.selects R_PL y_PL_lay y_PL_lay ∈ ALLW := kw 545 (by decide +kernel) rfl
set_option maxRecDepth 20000 in
theorem kc_PL_lay : Cond.code y_PL_lay b_PL_lay 15 none ∈ ALLW := kw 546 (by rfl) rfl
theorem k_547 : Cond.constantLong R_PL 28 (281474976710655) ∈ ALLW := kw 547 (by decide +kernel) rfl
theorem k_549 : Cond.static y_RC_cellsBelow ∈ ALLW := kw 549 (by decide +kernel) rfl
set_option maxRecDepth 20000 in
theorem kc_RC_cellsBelow : Cond.code y_RC_cellsBelow b_RC_cellsBelow 1 (some .long) ∈ ALLW := kw 550 (by rfl) rfl
theorem k_551 : Cond.constantLong R_PL 34 (-1) ∈ ALLW := kw 551 (by decide +kernel) rfl
theorem k_552 : Cond.methodLink R_PL 36 y_DS_has ∈ ALLW := kw 552 (by decide +kernel) rfl
theorem k_553 : Cond.instanceMethod y_DS_has ∈ ALLW := kw 553 (by decide +kernel) rfl
theorem k_554 : Cond.selects R_DS y_DS_has y_DS_has ∈ ALLW := kw 554 (by decide +kernel) rfl
set_option maxRecDepth 20000 in
theorem kc_DS_has : Cond.code y_DS_has b_DS_has 2 (some .boolean) ∈ ALLW := kw 555 (by rfl) rfl
theorem k_556 : Cond.methodLink R_PL 42 y_CN_put ∈ ALLW := kw 556 (by decide +kernel) rfl
theorem k_557 : Cond.instanceMethod y_CN_put ∈ ALLW := kw 557 (by decide +kernel) rfl
theorem k_558 : Cond.selects R_CN y_CN_put y_CN_put ∈ ALLW := kw 558 (by decide +kernel) rfl
set_option maxRecDepth 20000 in
theorem kc_CN_put : Cond.code y_CN_put b_CN_put 6 none ∈ ALLW := kw 559 (by rfl) rfl
theorem k_560 : Cond.constantLong R_CN 22 (-1) ∈ ALLW := kw 560 (by decide +kernel) rfl
theorem k_561 : Cond.methodLink R_LW 77 y_LW_at ∈ ALLW := kw 561 (by decide +kernel) rfl
theorem k_562 : Cond.static y_LW_at ∈ ALLW := kw 562 (by decide +kernel) rfl
theorem k_564 : Cond.classLink R_LW 19 "java/lang/IllegalStateException" ∈ ALLW := kw 564 (by decide +kernel) rfl
theorem k_565 : Cond.methodLink R_LW 15 y_RC_at ∈ ALLW := kw 565 (by decide +kernel) rfl
theorem k_566 : Cond.instanceMethod y_RC_at ∈ ALLW := kw 566 (by decide +kernel) rfl
theorem k_567 : Cond.selects R_RC y_RC_at y_RC_at ∈ ALLW := kw 567 (by decide +kernel) rfl
set_option maxRecDepth 20000 in
theorem kc_RC_at : Cond.code y_RC_at b_RC_at 5 (some .int) ∈ ALLW := kw 568 (by rfl) rfl
theorem k_569 : Cond.methodLink R_RC 69 y_RC_planWithCell ∈ ALLW := kw 569 (by decide +kernel) rfl
theorem k_571 : Cond.instanceMethod y_RC_planWithCell ∈ ALLW := kw 571 (by decide +kernel) rfl
set_option maxRecDepth 20000 in
theorem kc_RC_planWithCell : Cond.code y_RC_planWithCell b_RC_planWithCell 4 (some (.object "RuleCalendar$Plan")) ∈ ALLW := kw 572 (by rfl) rfl
theorem k_573 : Cond.methodLink R_RC 143 y_RC_needCell ∈ ALLW := kw 573 (by decide +kernel) rfl
theorem k_575 : Cond.instanceMethod y_RC_needCell ∈ ALLW := kw 575 (by decide +kernel) rfl
set_option maxRecDepth 20000 in
theorem kc_RC_needCell : Cond.code y_RC_needCell b_RC_needCell 3 none ∈ ALLW := kw 576 (by rfl) rfl
theorem k_578 : Cond.methodLink R_RC 118 y_RC_compiledPlan ∈ ALLW := kw 578 (by decide +kernel) rfl
theorem k_580 : Cond.instanceMethod y_RC_compiledPlan ∈ ALLW := kw 580 (by decide +kernel) rfl
set_option maxRecDepth 20000 in
theorem kc_RC_compiledPlan : Cond.code y_RC_compiledPlan b_RC_compiledPlan 2 (some (.object "RuleCalendar$Plan")) ∈ ALLW := kw 581 (by rfl) rfl
theorem k_582 : Cond.classLink R_RC 173 "java/lang/IllegalStateException" ∈ ALLW := kw 582 (by decide +kernel) rfl
theorem k_598 : Cond.methodLink R_RC 73 y_SH_isLost ∈ ALLW := kw 598 (by decide +kernel) rfl
theorem k_599 : Cond.instanceMethod y_SH_isLost ∈ ALLW := kw 599 (by decide +kernel) rfl
theorem k_600 : Cond.selects R_SH y_SH_isLost y_SH_isLost ∈ ALLW := kw 600 (by decide +kernel) rfl
set_option maxRecDepth 20000 in
theorem kc_SH_isLost : Cond.code y_SH_isLost b_SH_isLost 3 (some .boolean) ∈ ALLW := kw 601 (by rfl) rfl
theorem k_602 : Cond.methodLink R_RC 81 y_CN_get ∈ ALLW := kw 602 (by decide +kernel) rfl
theorem k_603 : Cond.instanceMethod y_CN_get ∈ ALLW := kw 603 (by decide +kernel) rfl
theorem k_604 : Cond.selects R_CN y_CN_get y_CN_get ∈ ALLW := kw 604 (by decide +kernel) rfl
set_option maxRecDepth 20000 in
theorem kc_CN_get : Cond.code y_CN_get b_CN_get 5 (some .int) ∈ ALLW := kw 605 (by rfl) rfl
theorem k_606 : Cond.methodLink R_LW 81 y_LW_which ∈ ALLW := kw 606 (by decide +kernel) rfl
theorem k_607 : Cond.static y_LW_which ∈ ALLW := kw 607 (by decide +kernel) rfl
theorem k_609 : Cond.methodLink R_LW 21 y_RC_which ∈ ALLW := kw 609 (by decide +kernel) rfl
theorem k_610 : Cond.instanceMethod y_RC_which ∈ ALLW := kw 610 (by decide +kernel) rfl
theorem k_611 : Cond.selects R_RC y_RC_which y_RC_which ∈ ALLW := kw 611 (by decide +kernel) rfl
set_option maxRecDepth 20000 in
theorem kc_RC_which : Cond.code y_RC_which b_RC_which 5 (some .int) ∈ ALLW := kw 612 (by rfl) rfl
theorem k_613 : Cond.methodLink R_LW 84 y_LW_next ∈ ALLW := kw 613 (by decide +kernel) rfl
theorem k_614 : Cond.static y_LW_next ∈ ALLW := kw 614 (by decide +kernel) rfl
theorem k_616 : Cond.methodLink R_LW 24 y_RC_next ∈ ALLW := kw 616 (by decide +kernel) rfl
theorem k_617 : Cond.instanceMethod y_RC_next ∈ ALLW := kw 617 (by decide +kernel) rfl
theorem k_618 : Cond.selects R_RC y_RC_next y_RC_next ∈ ALLW := kw 618 (by decide +kernel) rfl
set_option maxRecDepth 20000 in
theorem kc_RC_next : Cond.code y_RC_next b_RC_next 11 (some .int) ∈ ALLW := kw 619 (by rfl) rfl
theorem k_620 : Cond.methodLink R_RC 90 y_SH_cellsBehind ∈ ALLW := kw 620 (by decide +kernel) rfl
theorem k_621 : Cond.instanceMethod y_SH_cellsBehind ∈ ALLW := kw 621 (by decide +kernel) rfl
theorem k_622 : Cond.selects R_SH y_SH_cellsBehind y_SH_cellsBehind ∈ ALLW := kw 622 (by decide +kernel) rfl
set_option maxRecDepth 20000 in
theorem kc_SH_cellsBehind : Cond.code y_SH_cellsBehind b_SH_cellsBehind 5 (some .long) ∈ ALLW := kw 623 (by rfl) rfl
theorem k_624 : Cond.methodLink R_SH 43 y_SH_cellsOf ∈ ALLW := kw 624 (by decide +kernel) rfl
theorem k_625 : Cond.instanceMethod y_SH_cellsOf ∈ ALLW := kw 625 (by decide +kernel) rfl
theorem k_626 : Cond.selects R_SH y_SH_cellsOf y_SH_cellsOf ∈ ALLW := kw 626 (by decide +kernel) rfl
set_option maxRecDepth 20000 in
theorem kc_SH_cellsOf : Cond.code y_SH_cellsOf b_SH_cellsOf 2 (some .long) ∈ ALLW := kw 627 (by rfl) rfl
theorem k_628 : Cond.constantLong R_SH 39 (281474976710607) ∈ ALLW := kw 628 (by decide +kernel) rfl
theorem k_629 : Cond.constantLong R_SH 41 (281474976710655) ∈ ALLW := kw 629 (by decide +kernel) rfl
theorem k_631 : Cond.constantLong R_SH 50 (-1) ∈ ALLW := kw 631 (by decide +kernel) rfl
theorem k_632 : Cond.constantLong R_SH 55 (48) ∈ ALLW := kw 632 (by decide +kernel) rfl
theorem k_633 : Cond.methodLink R_RC 94 y_CN_cellsWith ∈ ALLW := kw 633 (by decide +kernel) rfl
theorem k_634 : Cond.instanceMethod y_CN_cellsWith ∈ ALLW := kw 634 (by decide +kernel) rfl
theorem k_635 : Cond.selects R_CN y_CN_cellsWith y_CN_cellsWith ∈ ALLW := kw 635 (by decide +kernel) rfl
set_option maxRecDepth 20000 in
theorem kc_CN_cellsWith : Cond.code y_CN_cellsWith b_CN_cellsWith 6 (some .long) ∈ ALLW := kw 636 (by rfl) rfl
theorem k_637 : Cond.constantLong R_CN 24 (281474976710655) ∈ ALLW := kw 637 (by decide +kernel) rfl
theorem k_638 : Cond.constantLong R_RC 97 (-1) ∈ ALLW := kw 638 (by decide +kernel) rfl
theorem k_639 : Cond.methodLink R_RC 99 y_SH_cellsOf ∈ ALLW := kw 639 (by decide +kernel) rfl
theorem k_640 : Cond.methodLink R_RC 103 y_RC_lowestCell ∈ ALLW := kw 640 (by decide +kernel) rfl
theorem k_641 : Cond.static y_RC_lowestCell ∈ ALLW := kw 641 (by decide +kernel) rfl
set_option maxRecDepth 20000 in
theorem kc_RC_lowestCell : Cond.code y_RC_lowestCell b_RC_lowestCell 2 (some .int) ∈ ALLW := kw 642 (by rfl) rfl
theorem k_643 : Cond.methodLink R_RC 178 y_JL_bitCount ∈ ALLW := kw 643 (by decide +kernel) rfl
theorem k_644 : Cond.static y_JL_bitCount ∈ ALLW := kw 644 (by decide +kernel) rfl
set_option maxRecDepth 20000 in
theorem kc_JL_bitCount : Cond.code y_JL_bitCount b_JL_bitCount 2 (some .int) ∈ ALLW := kw 645 (by rfl) rfl
theorem k_646 : Cond.constantLong R_JL 314 (6148914691236517205) ∈ ALLW := kw 646 (by decide +kernel) rfl
theorem k_647 : Cond.constantLong R_JL 316 (3689348814741910323) ∈ ALLW := kw 647 (by decide +kernel) rfl
theorem k_648 : Cond.constantLong R_JL 318 (1085102592571150095) ∈ ALLW := kw 648 (by decide +kernel) rfl
theorem k_649 : Cond.methodLink R_RC 107 y_SH_timeOf ∈ ALLW := kw 649 (by decide +kernel) rfl
theorem k_650 : Cond.instanceMethod y_SH_timeOf ∈ ALLW := kw 650 (by decide +kernel) rfl
theorem k_651 : Cond.selects R_SH y_SH_timeOf y_SH_timeOf ∈ ALLW := kw 651 (by decide +kernel) rfl
set_option maxRecDepth 20000 in
theorem kc_SH_timeOf : Cond.code y_SH_timeOf b_SH_timeOf 6 (some .int) ∈ ALLW := kw 652 (by rfl) rfl
theorem k_653 : Cond.methodLink R_LW 87 y_LW_total ∈ ALLW := kw 653 (by decide +kernel) rfl
theorem k_654 : Cond.static y_LW_total ∈ ALLW := kw 654 (by decide +kernel) rfl
theorem k_656 : Cond.methodLink R_LW 27 y_RC_total ∈ ALLW := kw 656 (by decide +kernel) rfl
theorem k_657 : Cond.instanceMethod y_RC_total ∈ ALLW := kw 657 (by decide +kernel) rfl
theorem k_658 : Cond.selects R_RC y_RC_total y_RC_total ∈ ALLW := kw 658 (by decide +kernel) rfl
set_option maxRecDepth 20000 in
theorem kc_RC_total : Cond.code y_RC_total b_RC_total 8 (some .int) ∈ ALLW := kw 659 (by rfl) rfl
theorem k_661 : Cond.methodLink R_RC 122 y_SH_timesOf ∈ ALLW := kw 661 (by decide +kernel) rfl
theorem k_662 : Cond.instanceMethod y_SH_timesOf ∈ ALLW := kw 662 (by decide +kernel) rfl
theorem k_663 : Cond.selects R_SH y_SH_timesOf y_SH_timesOf ∈ ALLW := kw 663 (by decide +kernel) rfl
set_option maxRecDepth 20000 in
theorem kc_SH_timesOf : Cond.code y_SH_timesOf b_SH_timesOf 5 (some .int) ∈ ALLW := kw 664 (by rfl) rfl
theorem k_665 : Cond.methodLink R_SH 57 y_JL_bitCount ∈ ALLW := kw 665 (by decide +kernel) rfl
theorem k_666 : Cond.methodLink R_LW 103 y_LW_elapsed ∈ ALLW := kw 666 (by decide +kernel) rfl
theorem k_667 : Cond.static y_LW_elapsed ∈ ALLW := kw 667 (by decide +kernel) rfl
theorem k_669 : Cond.methodLink R_LW 31 y_RC_elapsed ∈ ALLW := kw 669 (by decide +kernel) rfl
theorem k_670 : Cond.instanceMethod y_RC_elapsed ∈ ALLW := kw 670 (by decide +kernel) rfl
theorem k_671 : Cond.selects R_RC y_RC_elapsed y_RC_elapsed ∈ ALLW := kw 671 (by decide +kernel) rfl
set_option maxRecDepth 20000 in
theorem kc_RC_elapsed : Cond.code y_RC_elapsed b_RC_elapsed 4 (some .int) ∈ ALLW := kw 672 (by rfl) rfl
theorem k_673 : Cond.methodLink R_LW 111 y_LW_compare ∈ ALLW := kw 673 (by decide +kernel) rfl
theorem k_674 : Cond.static y_LW_compare ∈ ALLW := kw 674 (by decide +kernel) rfl
theorem k_676 : Cond.methodLink R_LW 35 y_RC_compare ∈ ALLW := kw 676 (by decide +kernel) rfl
theorem k_677 : Cond.instanceMethod y_RC_compare ∈ ALLW := kw 677 (by decide +kernel) rfl
theorem k_678 : Cond.selects R_RC y_RC_compare y_RC_compare ∈ ALLW := kw 678 (by decide +kernel) rfl
set_option maxRecDepth 20000 in
theorem kc_RC_compare : Cond.code y_RC_compare b_RC_compare 8 (some .int) ∈ ALLW := kw 679 (by rfl) rfl
theorem k_680 : Cond.methodLink R_RC 151 y_CN_cellsUnlike ∈ ALLW := kw 680 (by decide +kernel) rfl
theorem k_681 : Cond.instanceMethod y_CN_cellsUnlike ∈ ALLW := kw 681 (by decide +kernel) rfl
theorem k_682 : Cond.selects R_CN y_CN_cellsUnlike y_CN_cellsUnlike ∈ ALLW := kw 682 (by decide +kernel) rfl
set_option maxRecDepth 20000 in
theorem kc_CN_cellsUnlike : Cond.code y_CN_cellsUnlike b_CN_cellsUnlike 6 (some .long) ∈ ALLW := kw 683 (by rfl) rfl
theorem k_684 : Cond.methodLink R_LW 115 y_LW_inside ∈ ALLW := kw 684 (by decide +kernel) rfl
theorem k_685 : Cond.static y_LW_inside ∈ ALLW := kw 685 (by decide +kernel) rfl
theorem k_687 : Cond.methodLink R_LW 39 y_RC_inside ∈ ALLW := kw 687 (by decide +kernel) rfl
theorem k_688 : Cond.instanceMethod y_RC_inside ∈ ALLW := kw 688 (by decide +kernel) rfl
theorem k_689 : Cond.selects R_RC y_RC_inside y_RC_inside ∈ ALLW := kw 689 (by decide +kernel) rfl
set_option maxRecDepth 20000 in
theorem kc_RC_inside : Cond.code y_RC_inside b_RC_inside 8 (some .boolean) ∈ ALLW := kw 690 (by rfl) rfl
theorem k_691 : Cond.methodLink R_RC 155 y_CN_cellsAboveZero ∈ ALLW := kw 691 (by decide +kernel) rfl
theorem k_692 : Cond.instanceMethod y_CN_cellsAboveZero ∈ ALLW := kw 692 (by decide +kernel) rfl
theorem k_693 : Cond.selects R_CN y_CN_cellsAboveZero y_CN_cellsAboveZero ∈ ALLW := kw 693 (by decide +kernel) rfl
set_option maxRecDepth 20000 in
theorem kc_CN_cellsAboveZero : Cond.code y_CN_cellsAboveZero b_CN_cellsAboveZero 5 (some .long) ∈ ALLW := kw 694 (by rfl) rfl
theorem k_695 : Cond.methodLink R_LW 118 y_LW_dead ∈ ALLW := kw 695 (by decide +kernel) rfl
theorem k_696 : Cond.static y_LW_dead ∈ ALLW := kw 696 (by decide +kernel) rfl
theorem k_698 : Cond.methodLink R_LW 43 y_RC_dead ∈ ALLW := kw 698 (by decide +kernel) rfl
theorem k_699 : Cond.instanceMethod y_RC_dead ∈ ALLW := kw 699 (by decide +kernel) rfl
theorem k_700 : Cond.selects R_RC y_RC_dead y_RC_dead ∈ ALLW := kw 700 (by decide +kernel) rfl
set_option maxRecDepth 20000 in
theorem kc_RC_dead : Cond.code y_RC_dead b_RC_dead 6 (some .int) ∈ ALLW := kw 701 (by rfl) rfl
theorem k_702 : Cond.methodLink R_RC 158 y_RC_decidesSome ∈ ALLW := kw 702 (by decide +kernel) rfl
theorem k_704 : Cond.instanceMethod y_RC_decidesSome ∈ ALLW := kw 704 (by decide +kernel) rfl
set_option maxRecDepth 20000 in
theorem kc_RC_decidesSome : Cond.code y_RC_decidesSome b_RC_decidesSome 4 (some .boolean) ∈ ALLW := kw 705 (by rfl) rfl
theorem k_706 : Cond.methodLink R_LW 121 y_LW_run ∈ ALLW := kw 706 (by decide +kernel) rfl
theorem k_707 : Cond.static y_LW_run ∈ ALLW := kw 707 (by decide +kernel) rfl
theorem k_709 : Cond.methodLink R_LW 46 y_RC_run ∈ ALLW := kw 709 (by decide +kernel) rfl
theorem k_710 : Cond.instanceMethod y_RC_run ∈ ALLW := kw 710 (by decide +kernel) rfl
theorem k_711 : Cond.selects R_RC y_RC_run y_RC_run ∈ ALLW := kw 711 (by decide +kernel) rfl
set_option maxRecDepth 20000 in
theorem kc_RC_run : Cond.code y_RC_run b_RC_run 7 (some .int) ∈ ALLW := kw 712 (by rfl) rfl
theorem k_713 : Cond.methodLink R_RC 162 y_RC_firstOfRun ∈ ALLW := kw 713 (by decide +kernel) rfl
theorem k_715 : Cond.instanceMethod y_RC_firstOfRun ∈ ALLW := kw 715 (by decide +kernel) rfl
set_option maxRecDepth 20000 in
theorem kc_RC_firstOfRun : Cond.code y_RC_firstOfRun b_RC_firstOfRun 8 (some .int) ∈ ALLW := kw 716 (by rfl) rfl
theorem k_717 : Cond.methodLink R_RC 166 y_RC_lastOfRun ∈ ALLW := kw 717 (by decide +kernel) rfl
theorem k_719 : Cond.instanceMethod y_RC_lastOfRun ∈ ALLW := kw 719 (by decide +kernel) rfl
set_option maxRecDepth 20000 in
theorem kc_RC_lastOfRun : Cond.code y_RC_lastOfRun b_RC_lastOfRun 7 (some .int) ∈ ALLW := kw 720 (by rfl) rfl
theorem k_721 : Cond.classLink R_LW 50 R_MD ∈ ALLW := kw 721 (by decide +kernel) rfl
theorem k_722 : Cond.instantiable R_MD 26 ∈ ALLW := kw 722 (by decide +kernel) rfl
theorem k_723 : Cond.methodLink R_LW 52 y_MD_init ∈ ALLW := kw 723 (by decide +kernel) rfl
theorem k_724 : Cond.instanceMethod y_MD_init ∈ ALLW := kw 724 (by decide +kernel) rfl
set_option maxRecDepth 20000 in
theorem kc_MD_init : Cond.code y_MD_init b_MD_init 5 none ∈ ALLW := kw 725 (by rfl) rfl
theorem k_726 : Cond.methodLink R_MD 1 objectInit ∈ ALLW := kw 726 (by decide +kernel) rfl
theorem k_727 : Cond.methodLink R_MD 67 y_MD_monthLength ∈ ALLW := kw 727 (by decide +kernel) rfl
theorem k_728 : Cond.static y_MD_monthLength ∈ ALLW := kw 728 (by decide +kernel) rfl
set_option maxRecDepth 20000 in
theorem kc_MD_monthLength : Cond.code y_MD_monthLength b_MD_monthLength 2 (some .int) ∈ ALLW := kw 729 (by rfl) rfl
theorem k_730 : Cond.methodLink R_MD 71 y_MD_feastOf ∈ ALLW := kw 730 (by decide +kernel) rfl
theorem k_731 : Cond.static y_MD_feastOf ∈ ALLW := kw 731 (by decide +kernel) rfl
set_option maxRecDepth 20000 in
theorem kc_MD_feastOf : Cond.code y_MD_feastOf b_MD_feastOf 14 (some .int) ∈ ALLW := kw 732 (by rfl) rfl
theorem k_733 : Cond.fieldLink R_MD 75 R_MD "fault" "I" ∈ ALLW := kw 733 (by decide +kernel) rfl
theorem k_734 : Cond.fieldLink R_MD 147 R_MD "typed" "I" ∈ ALLW := kw 734 (by decide +kernel) rfl
theorem k_735 : Cond.fieldLink R_MD 7 R_MD "text" "[I" ∈ ALLW := kw 735 (by decide +kernel) rfl
theorem k_736 : Cond.fieldLink R_MD 82 R_MD "shifts" "Z" ∈ ALLW := kw 736 (by decide +kernel) rfl
theorem k_737 : Cond.fieldLink R_MD 13 R_MD "date" "[I" ∈ ALLW := kw 737 (by decide +kernel) rfl
theorem k_738 : Cond.fieldLink R_MD 16 R_MD "feastDay" "[I" ∈ ALLW := kw 738 (by decide +kernel) rfl
theorem k_739 : Cond.fieldLink R_MD 19 R_MD "rules" "[I" ∈ ALLW := kw 739 (by decide +kernel) rfl
theorem k_740 : Cond.fieldLink R_MD 22 R_MD "tariff" "[I" ∈ ALLW := kw 740 (by decide +kernel) rfl
theorem k_741 : Cond.fieldLink R_MD 25 R_MD "begins" "[I" ∈ ALLW := kw 741 (by decide +kernel) rfl
theorem k_742 : Cond.fieldLink R_MD 28 R_MD "ends" "[I" ∈ ALLW := kw 742 (by decide +kernel) rfl
theorem k_743 : Cond.fieldLink R_MD 31 R_MD "match" "[I" ∈ ALLW := kw 743 (by decide +kernel) rfl
theorem k_744 : Cond.fieldLink R_MD 90 R_MD "waiting" "I" ∈ ALLW := kw 744 (by decide +kernel) rfl
theorem k_745 : Cond.fieldLink R_MD 34 R_MD "expect" "[I" ∈ ALLW := kw 745 (by decide +kernel) rfl
theorem k_746 : Cond.fieldLink R_MD 37 R_MD "about" "[I" ∈ ALLW := kw 746 (by decide +kernel) rfl
theorem k_747 : Cond.fieldLink R_MD 40 R_MD "count" "[I" ∈ ALLW := kw 747 (by decide +kernel) rfl
theorem k_748 : Cond.fieldLink R_MD 110 R_MD "read" "I" ∈ ALLW := kw 748 (by decide +kernel) rfl
theorem k_749 : Cond.fieldLink R_MD 43 R_MD "newTariff" "[I" ∈ ALLW := kw 749 (by decide +kernel) rfl
theorem k_750 : Cond.fieldLink R_MD 46 R_MD "newBegin" "[I" ∈ ALLW := kw 750 (by decide +kernel) rfl
theorem k_751 : Cond.fieldLink R_MD 49 R_MD "newEnd" "[I" ∈ ALLW := kw 751 (by decide +kernel) rfl
theorem k_752 : Cond.fieldLink R_MD 52 R_MD "codeFrom" "[I" ∈ ALLW := kw 752 (by decide +kernel) rfl
theorem k_753 : Cond.fieldLink R_MD 55 R_MD "code" "[I" ∈ ALLW := kw 753 (by decide +kernel) rfl
theorem k_754 : Cond.fieldLink R_MD 93 R_MD "coded" "I" ∈ ALLW := kw 754 (by decide +kernel) rfl
theorem k_755 : Cond.fieldLink R_MD 96 R_MD "atoms" "I" ∈ ALLW := kw 755 (by decide +kernel) rfl
theorem k_756 : Cond.fieldLink R_MD 58 R_MD "kind" "[I" ∈ ALLW := kw 756 (by decide +kernel) rfl
theorem k_757 : Cond.fieldLink R_MD 61 R_MD "first" "[I" ∈ ALLW := kw 757 (by decide +kernel) rfl
theorem k_758 : Cond.fieldLink R_MD 64 R_MD "second" "[I" ∈ ALLW := kw 758 (by decide +kernel) rfl
theorem k_812 : Cond.methodLink R_LW 69 y_MD_thrown ∈ ALLW := kw 812 (by decide +kernel) rfl
theorem k_813 : Cond.instanceMethod y_MD_thrown ∈ ALLW := kw 813 (by decide +kernel) rfl
theorem k_814 : Cond.selects R_MD y_MD_thrown y_MD_thrown ∈ ALLW := kw 814 (by decide +kernel) rfl
set_option maxRecDepth 20000 in
theorem kc_MD_thrown : Cond.code y_MD_thrown b_MD_thrown 1 (some .int) ∈ ALLW := kw 815 (by rfl) rfl
theorem k_816 : Cond.methodLink R_LW 68 y_MD_compile ∈ ALLW := kw 816 (by decide +kernel) rfl
theorem k_817 : Cond.instanceMethod y_MD_compile ∈ ALLW := kw 817 (by decide +kernel) rfl
theorem k_818 : Cond.selects R_MD y_MD_compile y_MD_compile ∈ ALLW := kw 818 (by decide +kernel) rfl
set_option maxRecDepth 20000 in
theorem kc_MD_compile : Cond.code y_MD_compile b_MD_compile 6 (some .int) ∈ ALLW := kw 819 (by rfl) rfl
theorem k_820 : Cond.methodLink R_MD 159 y_MD_refused ∈ ALLW := kw 820 (by decide +kernel) rfl
theorem k_822 : Cond.instanceMethod y_MD_refused ∈ ALLW := kw 822 (by decide +kernel) rfl
set_option maxRecDepth 20000 in
theorem kc_MD_refused : Cond.code y_MD_refused b_MD_refused 2 (some .boolean) ∈ ALLW := kw 823 (by rfl) rfl
theorem k_824 : Cond.methodLink R_MD 163 y_MD_readAll ∈ ALLW := kw 824 (by decide +kernel) rfl
theorem k_826 : Cond.instanceMethod y_MD_readAll ∈ ALLW := kw 826 (by decide +kernel) rfl
set_option maxRecDepth 20000 in
theorem kc_MD_readAll : Cond.code y_MD_readAll b_MD_readAll 5 (some .int) ∈ ALLW := kw 827 (by rfl) rfl
theorem k_828 : Cond.methodLink R_MD 106 y_MD_push ∈ ALLW := kw 828 (by decide +kernel) rfl
theorem k_830 : Cond.instanceMethod y_MD_push ∈ ALLW := kw 830 (by decide +kernel) rfl
set_option maxRecDepth 20000 in
theorem kc_MD_push : Cond.code y_MD_push b_MD_push 4 none ∈ ALLW := kw 831 (by rfl) rfl
theorem k_832 : Cond.methodLink R_MD 150 y_MD_take ∈ ALLW := kw 832 (by decide +kernel) rfl
theorem k_834 : Cond.instanceMethod y_MD_take ∈ ALLW := kw 834 (by decide +kernel) rfl
set_option maxRecDepth 20000 in
theorem kc_MD_take : Cond.code y_MD_take b_MD_take 5 (some .int) ∈ ALLW := kw 835 (by rfl) rfl
theorem k_836 : Cond.methodLink R_MD 103 y_MD_beginRule ∈ ALLW := kw 836 (by decide +kernel) rfl
theorem k_838 : Cond.instanceMethod y_MD_beginRule ∈ ALLW := kw 838 (by decide +kernel) rfl
set_option maxRecDepth 20000 in
theorem kc_MD_beginRule : Cond.code y_MD_beginRule b_MD_beginRule 2 (some .int) ∈ ALLW := kw 839 (by rfl) rfl
theorem k_840 : Cond.methodLink R_MD 124 y_MD_isIn ∈ ALLW := kw 840 (by decide +kernel) rfl
theorem k_841 : Cond.static y_MD_isIn ∈ ALLW := kw 841 (by decide +kernel) rfl
set_option maxRecDepth 20000 in
theorem kc_MD_isIn : Cond.code y_MD_isIn b_MD_isIn 3 (some .boolean) ∈ ALLW := kw 842 (by rfl) rfl
theorem k_843 : Cond.methodLink R_MD 113 y_MD_takeSpan ∈ ALLW := kw 843 (by decide +kernel) rfl
theorem k_845 : Cond.instanceMethod y_MD_takeSpan ∈ ALLW := kw 845 (by decide +kernel) rfl
set_option maxRecDepth 20000 in
theorem kc_MD_takeSpan : Cond.code y_MD_takeSpan b_MD_takeSpan 7 (some .int) ∈ ALLW := kw 846 (by rfl) rfl
theorem k_847 : Cond.methodLink R_MD 116 y_MD_takeMatcher ∈ ALLW := kw 847 (by decide +kernel) rfl
theorem k_849 : Cond.instanceMethod y_MD_takeMatcher ∈ ALLW := kw 849 (by decide +kernel) rfl
set_option maxRecDepth 20000 in
theorem kc_MD_takeMatcher : Cond.code y_MD_takeMatcher b_MD_takeMatcher 4 (some .int) ∈ ALLW := kw 850 (by rfl) rfl
theorem k_851 : Cond.methodLink R_MD 128 y_MD_beginOne ∈ ALLW := kw 851 (by decide +kernel) rfl
theorem k_853 : Cond.instanceMethod y_MD_beginOne ∈ ALLW := kw 853 (by decide +kernel) rfl
set_option maxRecDepth 20000 in
theorem kc_MD_beginOne : Cond.code y_MD_beginOne b_MD_beginOne 3 (some .int) ∈ ALLW := kw 854 (by rfl) rfl
theorem k_855 : Cond.methodLink R_MD 131 y_MD_newAtom ∈ ALLW := kw 855 (by decide +kernel) rfl
theorem k_857 : Cond.instanceMethod y_MD_newAtom ∈ ALLW := kw 857 (by decide +kernel) rfl
set_option maxRecDepth 20000 in
theorem kc_MD_newAtom : Cond.code y_MD_newAtom b_MD_newAtom 2 (some .int) ∈ ALLW := kw 858 (by rfl) rfl
theorem k_859 : Cond.methodLink R_MD 99 y_MD_emit ∈ ALLW := kw 859 (by decide +kernel) rfl
theorem k_861 : Cond.instanceMethod y_MD_emit ∈ ALLW := kw 861 (by decide +kernel) rfl
set_option maxRecDepth 20000 in
theorem kc_MD_emit : Cond.code y_MD_emit b_MD_emit 2 none ∈ ALLW := kw 862 (by rfl) rfl
theorem k_863 : Cond.methodLink R_MD 120 y_MD_takeAtom ∈ ALLW := kw 863 (by decide +kernel) rfl
theorem k_865 : Cond.instanceMethod y_MD_takeAtom ∈ ALLW := kw 865 (by decide +kernel) rfl
set_option maxRecDepth 20000 in
theorem kc_MD_takeAtom : Cond.code y_MD_takeAtom b_MD_takeAtom 6 (some .int) ∈ ALLW := kw 866 (by rfl) rfl
theorem k_867 : Cond.methodLink R_MD 134 y_MD_go ∈ ALLW := kw 867 (by decide +kernel) rfl
theorem k_869 : Cond.instanceMethod y_MD_go ∈ ALLW := kw 869 (by decide +kernel) rfl
set_option maxRecDepth 20000 in
theorem kc_MD_go : Cond.code y_MD_go b_MD_go 6 (some .int) ∈ ALLW := kw 870 (by rfl) rfl
theorem k_871 : Cond.methodLink R_MD 138 y_MD_takeDates ∈ ALLW := kw 871 (by decide +kernel) rfl
theorem k_873 : Cond.instanceMethod y_MD_takeDates ∈ ALLW := kw 873 (by decide +kernel) rfl
set_option maxRecDepth 20000 in
theorem kc_MD_takeDates : Cond.code y_MD_takeDates b_MD_takeDates 7 (some .int) ∈ ALLW := kw 874 (by rfl) rfl
theorem k_875 : Cond.methodLink R_MD 141 y_MD_takeCycle ∈ ALLW := kw 875 (by decide +kernel) rfl
theorem k_877 : Cond.instanceMethod y_MD_takeCycle ∈ ALLW := kw 877 (by decide +kernel) rfl
set_option maxRecDepth 20000 in
theorem kc_MD_takeCycle : Cond.code y_MD_takeCycle b_MD_takeCycle 5 (some .int) ∈ ALLW := kw 878 (by rfl) rfl
theorem k_879 : Cond.methodLink R_MD 144 y_MD_takeYears ∈ ALLW := kw 879 (by decide +kernel) rfl
theorem k_881 : Cond.instanceMethod y_MD_takeYears ∈ ALLW := kw 881 (by decide +kernel) rfl
set_option maxRecDepth 20000 in
theorem kc_MD_takeYears : Cond.code y_MD_takeYears b_MD_takeYears 5 (some .int) ∈ ALLW := kw 882 (by rfl) rfl
theorem k_883 : Cond.methodLink R_MD 167 y_MD_isMatched ∈ ALLW := kw 883 (by decide +kernel) rfl
theorem k_885 : Cond.instanceMethod y_MD_isMatched ∈ ALLW := kw 885 (by decide +kernel) rfl
set_option maxRecDepth 20000 in
theorem kc_MD_isMatched : Cond.code y_MD_isMatched b_MD_isMatched 7 (some .boolean) ∈ ALLW := kw 886 (by rfl) rfl
theorem k_887 : Cond.methodLink R_MD 156 y_MD_isAtom ∈ ALLW := kw 887 (by decide +kernel) rfl
theorem k_889 : Cond.instanceMethod y_MD_isAtom ∈ ALLW := kw 889 (by decide +kernel) rfl
set_option maxRecDepth 20000 in
theorem kc_MD_isAtom : Cond.code y_MD_isAtom b_MD_isAtom 7 (some .boolean) ∈ ALLW := kw 890 (by rfl) rfl
theorem k_891 : Cond.methodLink R_MD 79 y_MD_weekday ∈ ALLW := kw 891 (by decide +kernel) rfl
theorem k_892 : Cond.static y_MD_weekday ∈ ALLW := kw 892 (by decide +kernel) rfl
set_option maxRecDepth 20000 in
theorem kc_MD_weekday : Cond.code y_MD_weekday b_MD_weekday 1 (some .int) ∈ ALLW := kw 893 (by rfl) rfl
theorem k_894 : Cond.methodLink R_MD 153 y_MD_week ∈ ALLW := kw 894 (by decide +kernel) rfl
theorem k_896 : Cond.instanceMethod y_MD_week ∈ ALLW := kw 896 (by decide +kernel) rfl
set_option maxRecDepth 20000 in
theorem kc_MD_week : Cond.code y_MD_week b_MD_week 5 (some .int) ∈ ALLW := kw 897 (by rfl) rfl
theorem k_898 : Cond.methodLink R_LW 76 y_MD_shifts ∈ ALLW := kw 898 (by decide +kernel) rfl
theorem k_899 : Cond.instanceMethod y_MD_shifts ∈ ALLW := kw 899 (by decide +kernel) rfl
theorem k_900 : Cond.selects R_MD y_MD_shifts y_MD_shifts ∈ ALLW := kw 900 (by decide +kernel) rfl
set_option maxRecDepth 20000 in
theorem kc_MD_shifts : Cond.code y_MD_shifts b_MD_shifts 2 none ∈ ALLW := kw 901 (by rfl) rfl
theorem k_902 : Cond.methodLink R_LW 57 y_MD_type ∈ ALLW := kw 902 (by decide +kernel) rfl
theorem k_903 : Cond.instanceMethod y_MD_type ∈ ALLW := kw 903 (by decide +kernel) rfl
theorem k_904 : Cond.selects R_MD y_MD_type y_MD_type ∈ ALLW := kw 904 (by decide +kernel) rfl
set_option maxRecDepth 20000 in
theorem kc_MD_type : Cond.code y_MD_type b_MD_type 2 (some .boolean) ∈ ALLW := kw 905 (by rfl) rfl
theorem k_906 : Cond.methodLink R_LW 62 y_MD_wipe ∈ ALLW := kw 906 (by decide +kernel) rfl
theorem k_907 : Cond.instanceMethod y_MD_wipe ∈ ALLW := kw 907 (by decide +kernel) rfl
theorem k_908 : Cond.selects R_MD y_MD_wipe y_MD_wipe ∈ ALLW := kw 908 (by decide +kernel) rfl
set_option maxRecDepth 20000 in
theorem kc_MD_wipe : Cond.code y_MD_wipe b_MD_wipe 2 (some .int) ∈ ALLW := kw 909 (by rfl) rfl
theorem k_910 : Cond.methodLink R_LW 80 y_MD_at ∈ ALLW := kw 910 (by decide +kernel) rfl
theorem k_911 : Cond.instanceMethod y_MD_at ∈ ALLW := kw 911 (by decide +kernel) rfl
theorem k_912 : Cond.selects R_MD y_MD_at y_MD_at ∈ ALLW := kw 912 (by decide +kernel) rfl
set_option maxRecDepth 20000 in
theorem kc_MD_at : Cond.code y_MD_at b_MD_at 4 (some .int) ∈ ALLW := kw 913 (by rfl) rfl
theorem k_914 : Cond.methodLink R_MD 180 y_MD_wrong ∈ ALLW := kw 914 (by decide +kernel) rfl
theorem k_916 : Cond.instanceMethod y_MD_wrong ∈ ALLW := kw 916 (by decide +kernel) rfl
set_option maxRecDepth 20000 in
theorem kc_MD_wrong : Cond.code y_MD_wrong b_MD_wrong 5 (some .int) ∈ ALLW := kw 917 (by rfl) rfl
theorem k_918 : Cond.methodLink R_MD 183 y_MD_isLost ∈ ALLW := kw 918 (by decide +kernel) rfl
theorem k_920 : Cond.instanceMethod y_MD_isLost ∈ ALLW := kw 920 (by decide +kernel) rfl
set_option maxRecDepth 20000 in
theorem kc_MD_isLost : Cond.code y_MD_isLost b_MD_isLost 3 (some .boolean) ∈ ALLW := kw 921 (by rfl) rfl
theorem k_922 : Cond.methodLink R_MD 86 y_MD_isLastSunday ∈ ALLW := kw 922 (by decide +kernel) rfl
theorem k_924 : Cond.instanceMethod y_MD_isLastSunday ∈ ALLW := kw 924 (by decide +kernel) rfl
set_option maxRecDepth 20000 in
theorem kc_MD_isLastSunday : Cond.code y_MD_isLastSunday b_MD_isLastSunday 4 (some .boolean) ∈ ALLW := kw 925 (by rfl) rfl
theorem k_926 : Cond.methodLink R_MD 186 y_MD_tariffOf ∈ ALLW := kw 926 (by decide +kernel) rfl
theorem k_928 : Cond.instanceMethod y_MD_tariffOf ∈ ALLW := kw 928 (by decide +kernel) rfl
set_option maxRecDepth 20000 in
theorem kc_MD_tariffOf : Cond.code y_MD_tariffOf b_MD_tariffOf 5 (some .int) ∈ ALLW := kw 929 (by rfl) rfl
theorem k_930 : Cond.methodLink R_MD 177 y_MD_decides ∈ ALLW := kw 930 (by decide +kernel) rfl
theorem k_932 : Cond.instanceMethod y_MD_decides ∈ ALLW := kw 932 (by decide +kernel) rfl
set_option maxRecDepth 20000 in
theorem kc_MD_decides : Cond.code y_MD_decides b_MD_decides 5 (some .int) ∈ ALLW := kw 933 (by rfl) rfl
theorem k_934 : Cond.methodLink R_MD 173 y_MD_isCovered ∈ ALLW := kw 934 (by decide +kernel) rfl
theorem k_936 : Cond.instanceMethod y_MD_isCovered ∈ ALLW := kw 936 (by decide +kernel) rfl
set_option maxRecDepth 20000 in
theorem kc_MD_isCovered : Cond.code y_MD_isCovered b_MD_isCovered 7 (some .boolean) ∈ ALLW := kw 937 (by rfl) rfl
theorem k_938 : Cond.methodLink R_MD 170 y_MD_isMatch ∈ ALLW := kw 938 (by decide +kernel) rfl
theorem k_940 : Cond.instanceMethod y_MD_isMatch ∈ ALLW := kw 940 (by decide +kernel) rfl
set_option maxRecDepth 20000 in
theorem kc_MD_isMatch : Cond.code y_MD_isMatch b_MD_isMatch 4 (some .boolean) ∈ ALLW := kw 941 (by rfl) rfl
theorem k_942 : Cond.methodLink R_LW 83 y_MD_which ∈ ALLW := kw 942 (by decide +kernel) rfl
theorem k_943 : Cond.instanceMethod y_MD_which ∈ ALLW := kw 943 (by decide +kernel) rfl
theorem k_944 : Cond.selects R_MD y_MD_which y_MD_which ∈ ALLW := kw 944 (by decide +kernel) rfl
set_option maxRecDepth 20000 in
theorem kc_MD_which : Cond.code y_MD_which b_MD_which 4 (some .int) ∈ ALLW := kw 945 (by rfl) rfl
theorem k_946 : Cond.methodLink R_LW 86 y_MD_next ∈ ALLW := kw 946 (by decide +kernel) rfl
theorem k_947 : Cond.instanceMethod y_MD_next ∈ ALLW := kw 947 (by decide +kernel) rfl
theorem k_948 : Cond.selects R_MD y_MD_next y_MD_next ∈ ALLW := kw 948 (by decide +kernel) rfl
set_option maxRecDepth 20000 in
theorem kc_MD_next : Cond.code y_MD_next b_MD_next 9 (some .int) ∈ ALLW := kw 949 (by rfl) rfl
theorem k_950 : Cond.methodLink R_MD 189 y_MD_isTwice ∈ ALLW := kw 950 (by decide +kernel) rfl
theorem k_952 : Cond.instanceMethod y_MD_isTwice ∈ ALLW := kw 952 (by decide +kernel) rfl
set_option maxRecDepth 20000 in
theorem kc_MD_isTwice : Cond.code y_MD_isTwice b_MD_isTwice 3 (some .boolean) ∈ ALLW := kw 953 (by rfl) rfl
theorem k_954 : Cond.methodLink R_LW 90 y_MD_total ∈ ALLW := kw 954 (by decide +kernel) rfl
theorem k_955 : Cond.instanceMethod y_MD_total ∈ ALLW := kw 955 (by decide +kernel) rfl
theorem k_956 : Cond.selects R_MD y_MD_total y_MD_total ∈ ALLW := kw 956 (by decide +kernel) rfl
set_option maxRecDepth 20000 in
theorem kc_MD_total : Cond.code y_MD_total b_MD_total 9 (some .int) ∈ ALLW := kw 957 (by rfl) rfl
theorem k_958 : Cond.methodLink R_LW 94 y_MD_dayOf ∈ ALLW := kw 958 (by decide +kernel) rfl
theorem k_959 : Cond.instanceMethod y_MD_dayOf ∈ ALLW := kw 959 (by decide +kernel) rfl
theorem k_960 : Cond.selects R_MD y_MD_dayOf y_MD_dayOf ∈ ALLW := kw 960 (by decide +kernel) rfl
set_option maxRecDepth 20000 in
theorem kc_MD_dayOf : Cond.code y_MD_dayOf b_MD_dayOf 4 (some .int) ∈ ALLW := kw 961 (by rfl) rfl
theorem k_962 : Cond.methodLink R_MD 192 y_MD_find ∈ ALLW := kw 962 (by decide +kernel) rfl
theorem k_964 : Cond.instanceMethod y_MD_find ∈ ALLW := kw 964 (by decide +kernel) rfl
set_option maxRecDepth 20000 in
theorem kc_MD_find : Cond.code y_MD_find b_MD_find 4 (some .int) ∈ ALLW := kw 965 (by rfl) rfl
theorem k_966 : Cond.methodLink R_LW 98 y_MD_dateOf ∈ ALLW := kw 966 (by decide +kernel) rfl
theorem k_967 : Cond.instanceMethod y_MD_dateOf ∈ ALLW := kw 967 (by decide +kernel) rfl
theorem k_968 : Cond.selects R_MD y_MD_dateOf y_MD_dateOf ∈ ALLW := kw 968 (by decide +kernel) rfl
set_option maxRecDepth 20000 in
theorem kc_MD_dateOf : Cond.code y_MD_dateOf b_MD_dateOf 3 (some .int) ∈ ALLW := kw 969 (by rfl) rfl
theorem k_970 : Cond.methodLink R_LW 102 y_MD_feast ∈ ALLW := kw 970 (by decide +kernel) rfl
theorem k_971 : Cond.instanceMethod y_MD_feast ∈ ALLW := kw 971 (by decide +kernel) rfl
theorem k_972 : Cond.selects R_MD y_MD_feast y_MD_feast ∈ ALLW := kw 972 (by decide +kernel) rfl
set_option maxRecDepth 20000 in
theorem kc_MD_feast : Cond.code y_MD_feast b_MD_feast 2 (some .int) ∈ ALLW := kw 973 (by rfl) rfl
theorem k_974 : Cond.methodLink R_LW 106 y_MD_elapsed ∈ ALLW := kw 974 (by decide +kernel) rfl
theorem k_975 : Cond.instanceMethod y_MD_elapsed ∈ ALLW := kw 975 (by decide +kernel) rfl
theorem k_976 : Cond.selects R_MD y_MD_elapsed y_MD_elapsed ∈ ALLW := kw 976 (by decide +kernel) rfl
set_option maxRecDepth 20000 in
theorem kc_MD_elapsed : Cond.code y_MD_elapsed b_MD_elapsed 4 (some .int) ∈ ALLW := kw 977 (by rfl) rfl
theorem k_978 : Cond.methodLink R_MD 195 y_MD_timeOf ∈ ALLW := kw 978 (by decide +kernel) rfl
theorem k_980 : Cond.instanceMethod y_MD_timeOf ∈ ALLW := kw 980 (by decide +kernel) rfl
set_option maxRecDepth 20000 in
theorem kc_MD_timeOf : Cond.code y_MD_timeOf b_MD_timeOf 7 (some .int) ∈ ALLW := kw 981 (by rfl) rfl
theorem k_982 : Cond.methodLink R_LW 110 y_MD_clock ∈ ALLW := kw 982 (by decide +kernel) rfl
theorem k_983 : Cond.instanceMethod y_MD_clock ∈ ALLW := kw 983 (by decide +kernel) rfl
theorem k_984 : Cond.selects R_MD y_MD_clock y_MD_clock ∈ ALLW := kw 984 (by decide +kernel) rfl
set_option maxRecDepth 20000 in
theorem kc_MD_clock : Cond.code y_MD_clock b_MD_clock 2 (some .int) ∈ ALLW := kw 985 (by rfl) rfl
theorem k_986 : Cond.methodLink R_MD 199 y_MD_shown ∈ ALLW := kw 986 (by decide +kernel) rfl
theorem k_988 : Cond.instanceMethod y_MD_shown ∈ ALLW := kw 988 (by decide +kernel) rfl
set_option maxRecDepth 20000 in
theorem kc_MD_shown : Cond.code y_MD_shown b_MD_shown 9 (some .int) ∈ ALLW := kw 989 (by rfl) rfl
theorem k_990 : Cond.methodLink R_LW 114 y_MD_compare ∈ ALLW := kw 990 (by decide +kernel) rfl
theorem k_991 : Cond.instanceMethod y_MD_compare ∈ ALLW := kw 991 (by decide +kernel) rfl
theorem k_992 : Cond.selects R_MD y_MD_compare y_MD_compare ∈ ALLW := kw 992 (by decide +kernel) rfl
set_option maxRecDepth 20000 in
theorem kc_MD_compare : Cond.code y_MD_compare b_MD_compare 5 (some .int) ∈ ALLW := kw 993 (by rfl) rfl
theorem k_994 : Cond.methodLink R_MD 202 y_MD_wrongTwo ∈ ALLW := kw 994 (by decide +kernel) rfl
theorem k_996 : Cond.instanceMethod y_MD_wrongTwo ∈ ALLW := kw 996 (by decide +kernel) rfl
set_option maxRecDepth 20000 in
theorem kc_MD_wrongTwo : Cond.code y_MD_wrongTwo b_MD_wrongTwo 4 (some .int) ∈ ALLW := kw 997 (by rfl) rfl
theorem k_998 : Cond.methodLink R_LW 117 y_MD_inside ∈ ALLW := kw 998 (by decide +kernel) rfl
theorem k_999 : Cond.instanceMethod y_MD_inside ∈ ALLW := kw 999 (by decide +kernel) rfl
theorem k_1000 : Cond.selects R_MD y_MD_inside y_MD_inside ∈ ALLW := kw 1000 (by decide +kernel) rfl
set_option maxRecDepth 20000 in
theorem kc_MD_inside : Cond.code y_MD_inside b_MD_inside 5 (some .boolean) ∈ ALLW := kw 1001 (by rfl) rfl
theorem k_1002 : Cond.methodLink R_LW 120 y_MD_dead ∈ ALLW := kw 1002 (by decide +kernel) rfl
theorem k_1003 : Cond.instanceMethod y_MD_dead ∈ ALLW := kw 1003 (by decide +kernel) rfl
theorem k_1004 : Cond.selects R_MD y_MD_dead y_MD_dead ∈ ALLW := kw 1004 (by decide +kernel) rfl
set_option maxRecDepth 20000 in
theorem kc_MD_dead : Cond.code y_MD_dead b_MD_dead 8 (some .int) ∈ ALLW := kw 1005 (by rfl) rfl
theorem k_1006 : Cond.methodLink R_LW 123 y_MD_run ∈ ALLW := kw 1006 (by decide +kernel) rfl
theorem k_1007 : Cond.instanceMethod y_MD_run ∈ ALLW := kw 1007 (by decide +kernel) rfl
theorem k_1008 : Cond.selects R_MD y_MD_run y_MD_run ∈ ALLW := kw 1008 (by decide +kernel) rfl
set_option maxRecDepth 20000 in
theorem kc_MD_run : Cond.code y_MD_run b_MD_run 11 (some .int) ∈ ALLW := kw 1009 (by rfl) rfl
theorem n_109 : Cond.fieldLinkNest R_RC 65 R_SH "on" "Z" R_RC ∈ NESTW := nw 109 (by decide +kernel) rfl
theorem n_143 : Cond.methodLinkNest R_RR 11 y_DS_init R_RC ∈ NESTW := nw 143 (by decide +kernel) rfl
theorem n_181 : Cond.fieldLinkNest R_RC 59 R_RR "place" "I" R_RC ∈ NESTW := nw 181 (by decide +kernel) rfl
theorem n_208 : Cond.methodLinkNest R_RC 42 y_PL_init R_RC ∈ NESTW := nw 208 (by decide +kernel) rfl
theorem n_214 : Cond.methodLinkNest R_PL 11 y_CN_init R_RC ∈ NESTW := nw 214 (by decide +kernel) rfl
theorem n_225 : Cond.fieldLinkNest R_RC 77 R_PL "tariffs" "LRuleCalendar$CellNumbers;" R_RC ∈ NESTW := nw 225 (by decide +kernel) rfl
theorem n_227 : Cond.fieldLinkNest R_RC 87 R_PL "deciders" "LRuleCalendar$CellNumbers;" R_RC ∈ NESTW := nw 227 (by decide +kernel) rfl
theorem n_229 : Cond.fieldLinkNest R_RC 62 R_PL "rules" "I" R_RC ∈ NESTW := nw 229 (by decide +kernel) rfl
theorem n_288 : Cond.methodLinkNest R_AL 30 y_RC_yearIndex R_RC ∈ NESTW := nw 288 (by decide +kernel) rfl
theorem n_309 : Cond.methodLinkNest R_SH 28 y_RC_yearIndex R_RC ∈ NESTW := nw 309 (by decide +kernel) rfl
theorem n_522 : Cond.methodLinkNest R_AT 60 y_RC_yearIndex R_RC ∈ NESTW := nw 522 (by decide +kernel) rfl
theorem n_548 : Cond.methodLinkNest R_PL 30 y_RC_cellsBelow R_RC ∈ NESTW := nw 548 (by decide +kernel) rfl
theorem n_630 : Cond.methodLinkNest R_SH 47 y_RC_cellsBelow R_RC ∈ NESTW := nw 630 (by decide +kernel) rfl
theorem in_RC : ∀ w ∈ u_ws R_RC F_RC 7, w ∈ ALLW := by
  intro w hw
  obtain ⟨k, hk, rfl⟩ := List.mem_map.mp hw
  have hk := List.mem_range.mp hk
  by_cases h0 : k = 0
  · subst h0; exact kw 244 (by decide +kernel) rfl
  by_cases h1 : k = 1
  · subst h1; exact kw 246 (by decide +kernel) rfl
  by_cases h2 : k = 2
  · subst h2; exact kw 248 (by decide +kernel) rfl
  by_cases h3 : k = 3
  · subst h3; exact kw 250 (by decide +kernel) rfl
  by_cases h4 : k = 4
  · subst h4; exact kw 252 (by decide +kernel) rfl
  by_cases h5 : k = 5
  · subst h5; exact kw 254 (by decide +kernel) rfl
  by_cases h6 : k = 6
  · subst h6; exact kw 256 (by decide +kernel) rfl
  omega
theorem in_AL : ∀ w ∈ u_ws R_AL F_AL 2, w ∈ ALLW := by
  intro w hw
  obtain ⟨k, hk, rfl⟩ := List.mem_map.mp hw
  have hk := List.mem_range.mp hk
  by_cases h0 : k = 0
  · subst h0; exact kw 130 (by decide +kernel) rfl
  by_cases h1 : k = 1
  · subst h1; exact kw 132 (by decide +kernel) rfl
  omega
theorem in_AT : ∀ w ∈ u_ws R_AT F_AT 4, w ∈ ALLW := by
  intro w hw
  obtain ⟨k, hk, rfl⟩ := List.mem_map.mp hw
  have hk := List.mem_range.mp hk
  by_cases h0 : k = 0
  · subst h0; exact kw 163 (by decide +kernel) rfl
  by_cases h1 : k = 1
  · subst h1; exact kw 165 (by decide +kernel) rfl
  by_cases h2 : k = 2
  · subst h2; exact kw 167 (by decide +kernel) rfl
  by_cases h3 : k = 3
  · subst h3; exact kw 169 (by decide +kernel) rfl
  omega
theorem in_CN : ∀ w ∈ u_ws R_CN F_CN 1, w ∈ ALLW := by
  intro w hw
  obtain ⟨k, hk, rfl⟩ := List.mem_map.mp hw
  have hk := List.mem_range.mp hk
  by_cases h0 : k = 0
  · subst h0; exact kw 221 (by decide +kernel) rfl
  omega
theorem in_DS : ∀ w ∈ u_ws R_DS F_DS 1, w ∈ ALLW := by
  intro w hw
  obtain ⟨k, hk, rfl⟩ := List.mem_map.mp hw
  have hk := List.mem_range.mp hk
  by_cases h0 : k = 0
  · subst h0; exact kw 148 (by decide +kernel) rfl
  omega
theorem in_PL : ∀ w ∈ u_ws R_PL F_PL 3, w ∈ ALLW := by
  intro w hw
  obtain ⟨k, hk, rfl⟩ := List.mem_map.mp hw
  have hk := List.mem_range.mp hk
  by_cases h0 : k = 0
  · subst h0; exact kw 230 (by decide +kernel) rfl
  by_cases h1 : k = 1
  · subst h1; exact kw 232 (by decide +kernel) rfl
  by_cases h2 : k = 2
  · subst h2; exact kw 234 (by decide +kernel) rfl
  omega
theorem in_RR : ∀ w ∈ u_ws R_RR F_RR 10, w ∈ ALLW := by
  intro w hw
  obtain ⟨k, hk, rfl⟩ := List.mem_map.mp hw
  have hk := List.mem_range.mp hk
  by_cases h0 : k = 0
  · subst h0; exact kw 184 (by decide +kernel) rfl
  by_cases h1 : k = 1
  · subst h1; exact kw 186 (by decide +kernel) rfl
  by_cases h2 : k = 2
  · subst h2; exact kw 188 (by decide +kernel) rfl
  by_cases h3 : k = 3
  · subst h3; exact kw 190 (by decide +kernel) rfl
  by_cases h4 : k = 4
  · subst h4; exact kw 192 (by decide +kernel) rfl
  by_cases h5 : k = 5
  · subst h5; exact kw 194 (by decide +kernel) rfl
  by_cases h6 : k = 6
  · subst h6; exact kw 196 (by decide +kernel) rfl
  by_cases h7 : k = 7
  · subst h7; exact kw 198 (by decide +kernel) rfl
  by_cases h8 : k = 8
  · subst h8; exact kw 200 (by decide +kernel) rfl
  by_cases h9 : k = 9
  · subst h9; exact kw 202 (by decide +kernel) rfl
  omega
theorem in_SH : ∀ w ∈ u_ws R_SH F_SH 3, w ∈ ALLW := by
  intro w hw
  obtain ⟨k, hk, rfl⟩ := List.mem_map.mp hw
  have hk := List.mem_range.mp hk
  by_cases h0 : k = 0
  · subst h0; exact kw 110 (by decide +kernel) rfl
  by_cases h1 : k = 1
  · subst h1; exact kw 112 (by decide +kernel) rfl
  by_cases h2 : k = 2
  · subst h2; exact kw 114 (by decide +kernel) rfl
  omega
theorem in_MD : ∀ w ∈ u_ws R_MD F_MD 26, w ∈ ALLW := by
  intro w hw
  obtain ⟨k, hk, rfl⟩ := List.mem_map.mp hw
  have hk := List.mem_range.mp hk
  by_cases h0 : k = 0
  · subst h0; exact kw 759 (by decide +kernel) rfl
  by_cases h1 : k = 1
  · subst h1; exact kw 761 (by decide +kernel) rfl
  by_cases h2 : k = 2
  · subst h2; exact kw 763 (by decide +kernel) rfl
  by_cases h3 : k = 3
  · subst h3; exact kw 765 (by decide +kernel) rfl
  by_cases h4 : k = 4
  · subst h4; exact kw 767 (by decide +kernel) rfl
  by_cases h5 : k = 5
  · subst h5; exact kw 769 (by decide +kernel) rfl
  by_cases h6 : k = 6
  · subst h6; exact kw 771 (by decide +kernel) rfl
  by_cases h7 : k = 7
  · subst h7; exact kw 773 (by decide +kernel) rfl
  by_cases h8 : k = 8
  · subst h8; exact kw 775 (by decide +kernel) rfl
  by_cases h9 : k = 9
  · subst h9; exact kw 777 (by decide +kernel) rfl
  by_cases h10 : k = 10
  · subst h10; exact kw 779 (by decide +kernel) rfl
  by_cases h11 : k = 11
  · subst h11; exact kw 781 (by decide +kernel) rfl
  by_cases h12 : k = 12
  · subst h12; exact kw 783 (by decide +kernel) rfl
  by_cases h13 : k = 13
  · subst h13; exact kw 785 (by decide +kernel) rfl
  by_cases h14 : k = 14
  · subst h14; exact kw 787 (by decide +kernel) rfl
  by_cases h15 : k = 15
  · subst h15; exact kw 789 (by decide +kernel) rfl
  by_cases h16 : k = 16
  · subst h16; exact kw 791 (by decide +kernel) rfl
  by_cases h17 : k = 17
  · subst h17; exact kw 793 (by decide +kernel) rfl
  by_cases h18 : k = 18
  · subst h18; exact kw 795 (by decide +kernel) rfl
  by_cases h19 : k = 19
  · subst h19; exact kw 797 (by decide +kernel) rfl
  by_cases h20 : k = 20
  · subst h20; exact kw 799 (by decide +kernel) rfl
  by_cases h21 : k = 21
  · subst h21; exact kw 801 (by decide +kernel) rfl
  by_cases h22 : k = 22
  · subst h22; exact kw 803 (by decide +kernel) rfl
  by_cases h23 : k = 23
  · subst h23; exact kw 805 (by decide +kernel) rfl
  by_cases h24 : k = 24
  · subst h24; exact kw 807 (by decide +kernel) rfl
  by_cases h25 : k = 25
  · subst h25; exact kw 809 (by decide +kernel) rfl
  omega
theorem allw_good {w : Cond} (h : w ∈ ALLW) : (w.onTables && w.keeps) = true ∨ ∃ ty, w = .arrayClass ty := good_of_word (List.mem_filter.mp h).2
theorem good_all {y : MethodName} {b : ByteArray} {n : Nat} {r : Option FieldType} (h : Cond.code y b n r ∈ ALLW) : GoodIn ALLW (Cond.code y b n r :: ALLW) := fun w hw => by
  rcases List.mem_cons.mp hw with rfl | hw
  · exact ⟨h, allw_good h⟩
  · exact ⟨hw, allw_good hw⟩
abbrev wd_AL_init : List Cond := .code y_AL_init b_AL_init 5 none :: ALLW
theorem good_AL_init : GoodIn ALLW wd_AL_init := good_all kc_AL_init
abbrev wd_AL_date : List Cond := .code y_AL_date b_AL_date 2 (some .int) :: ALLW
theorem good_AL_date : GoodIn ALLW wd_AL_date := good_all kc_AL_date
abbrev wd_AL_monthAndDay : List Cond := .code y_AL_monthAndDay b_AL_monthAndDay 2 (some .int) :: ALLW
theorem good_AL_monthAndDay : GoodIn ALLW wd_AL_monthAndDay := good_all kc_AL_monthAndDay
abbrev wd_AL_feastDay : List Cond := .code y_AL_feastDay b_AL_feastDay 2 (some .int) :: ALLW
theorem good_AL_feastDay : GoodIn ALLW wd_AL_feastDay := good_all kc_AL_feastDay
abbrev wd_AL_hasRank : List Cond := .code y_AL_hasRank b_AL_hasRank 4 (some .boolean) :: ALLW
theorem good_AL_hasRank : GoodIn ALLW wd_AL_hasRank := good_all kc_AL_hasRank
abbrev wd_AL_monthLength : List Cond := .code y_AL_monthLength b_AL_monthLength 2 (some .int) :: ALLW
theorem good_AL_monthLength : GoodIn ALLW wd_AL_monthLength := good_all kc_AL_monthLength
abbrev wd_AL_weekday : List Cond := .code y_AL_weekday b_AL_weekday 1 (some .int) :: ALLW
theorem good_AL_weekday : GoodIn ALLW wd_AL_weekday := good_all kc_AL_weekday
abbrev wd_AL_firstDay : List Cond := .code y_AL_firstDay b_AL_firstDay 1 (some .int) :: ALLW
theorem good_AL_firstDay : GoodIn ALLW wd_AL_firstDay := good_all kc_AL_firstDay
abbrev wd_AL_dayNumber : List Cond := .code y_AL_dayNumber b_AL_dayNumber 5 (some .int) :: ALLW
theorem good_AL_dayNumber : GoodIn ALLW wd_AL_dayNumber := good_all kc_AL_dayNumber
abbrev wd_AL_lastSunday : List Cond := .code y_AL_lastSunday b_AL_lastSunday 3 (some .int) :: ALLW
theorem good_AL_lastSunday : GoodIn ALLW wd_AL_lastSunday := good_all kc_AL_lastSunday
abbrev wd_AL_week : List Cond := .code y_AL_week b_AL_week 3 (some .int) :: ALLW
theorem good_AL_week : GoodIn ALLW wd_AL_week := good_all kc_AL_week
abbrev wd_AL_feastDate : List Cond := .code y_AL_feastDate b_AL_feastDate 14 (some .int) :: ALLW
theorem good_AL_feastDate : GoodIn ALLW wd_AL_feastDate := good_all kc_AL_feastDate
abbrev wd_AT_init : List Cond := .code y_AT_init b_AT_init 2 none :: ALLW
theorem good_AT_init : GoodIn ALLW wd_AT_init := good_all kc_AT_init
abbrev wd_AT_become : List Cond := .code y_AT_become b_AT_become 4 none :: ALLW
theorem good_AT_become : GoodIn ALLW wd_AT_become := good_all kc_AT_become
abbrev wd_AT_collect : List Cond := .code y_AT_collect b_AT_collect 3 none :: ALLW
theorem good_AT_collect : GoodIn ALLW wd_AT_collect := good_all kc_AT_collect
abbrev wd_AT_matches : List Cond := .code y_AT_matches b_AT_matches 2 (some .boolean) :: ALLW
theorem good_AT_matches : GoodIn ALLW wd_AT_matches := good_all kc_AT_matches
abbrev wd_AT_isBetween : List Cond := .code y_AT_isBetween b_AT_isBetween 2 (some .boolean) :: ALLW
theorem good_AT_isBetween : GoodIn ALLW wd_AT_isBetween := good_all kc_AT_isBetween
abbrev wd_CN_init : List Cond := .code y_CN_init b_CN_init 1 none :: ALLW
theorem good_CN_init : GoodIn ALLW wd_CN_init := good_all kc_CN_init
abbrev wd_CN_clear : List Cond := .code y_CN_clear b_CN_clear 2 none :: ALLW
theorem good_CN_clear : GoodIn ALLW wd_CN_clear := good_all kc_CN_clear
abbrev wd_CN_put : List Cond := .code y_CN_put b_CN_put 6 none :: ALLW
theorem good_CN_put : GoodIn ALLW wd_CN_put := good_all kc_CN_put
abbrev wd_CN_get : List Cond := .code y_CN_get b_CN_get 5 (some .int) :: ALLW
theorem good_CN_get : GoodIn ALLW wd_CN_get := good_all kc_CN_get
abbrev wd_CN_cellsWith : List Cond := .code y_CN_cellsWith b_CN_cellsWith 6 (some .long) :: ALLW
theorem good_CN_cellsWith : GoodIn ALLW wd_CN_cellsWith := good_all kc_CN_cellsWith
abbrev wd_CN_cellsAboveZero : List Cond := .code y_CN_cellsAboveZero b_CN_cellsAboveZero 5 (some .long) :: ALLW
theorem good_CN_cellsAboveZero : GoodIn ALLW wd_CN_cellsAboveZero := good_all kc_CN_cellsAboveZero
abbrev wd_CN_cellsUnlike : List Cond := .code y_CN_cellsUnlike b_CN_cellsUnlike 6 (some .long) :: ALLW
theorem good_CN_cellsUnlike : GoodIn ALLW wd_CN_cellsUnlike := good_all kc_CN_cellsUnlike
abbrev wd_DS_init : List Cond := .code y_DS_init b_DS_init 1 none :: ALLW
theorem good_DS_init : GoodIn ALLW wd_DS_init := good_all kc_DS_init
abbrev wd_DS_clear : List Cond := .code y_DS_clear b_DS_clear 1 none :: ALLW
theorem good_DS_clear : GoodIn ALLW wd_DS_clear := good_all kc_DS_clear
abbrev wd_DS_fill : List Cond := .code y_DS_fill b_DS_fill 1 none :: ALLW
theorem good_DS_fill : GoodIn ALLW wd_DS_fill := good_all kc_DS_fill
abbrev wd_DS_add : List Cond := .code y_DS_add b_DS_add 2 none :: ALLW
theorem good_DS_add : GoodIn ALLW wd_DS_add := good_all kc_DS_add
abbrev wd_DS_has : List Cond := .code y_DS_has b_DS_has 2 (some .boolean) :: ALLW
theorem good_DS_has : GoodIn ALLW wd_DS_has := good_all kc_DS_has
abbrev wd_DS_join : List Cond := .code y_DS_join b_DS_join 3 none :: ALLW
theorem good_DS_join : GoodIn ALLW wd_DS_join := good_all kc_DS_join
abbrev wd_DS_keep : List Cond := .code y_DS_keep b_DS_keep 4 none :: ALLW
theorem good_DS_keep : GoodIn ALLW wd_DS_keep := good_all kc_DS_keep
abbrev wd_PL_init : List Cond := .code y_PL_init b_PL_init 1 none :: ALLW
theorem good_PL_init : GoodIn ALLW wd_PL_init := good_all kc_PL_init
abbrev wd_PL_clear : List Cond := .code y_PL_clear b_PL_clear 1 none :: ALLW
theorem good_PL_clear : GoodIn ALLW wd_PL_clear := good_all kc_PL_clear
abbrev wd_PL_lay : List Cond := .code y_PL_lay b_PL_lay 15 none :: ALLW
theorem good_PL_lay : GoodIn ALLW wd_PL_lay := good_all kc_PL_lay
abbrev wd_RR_init : List Cond := .code y_RR_init b_RR_init 3 none :: ALLW
theorem good_RR_init : GoodIn ALLW wd_RR_init := good_all kc_RR_init
abbrev wd_RR_read : List Cond := .code y_RR_read b_RR_read 5 (some .boolean) :: ALLW
theorem good_RR_read : GoodIn ALLW wd_RR_read := good_all kc_RR_read
abbrev wd_RR_readRule : List Cond := .code y_RR_readRule b_RR_readRule 3 (some .boolean) :: ALLW
theorem good_RR_readRule : GoodIn ALLW wd_RR_readRule := good_all kc_RR_readRule
abbrev wd_RR_readSpan : List Cond := .code y_RR_readSpan b_RR_readSpan 1 (some .boolean) :: ALLW
theorem good_RR_readSpan : GoodIn ALLW wd_RR_readSpan := good_all kc_RR_readSpan
abbrev wd_RR_takeHalfHour : List Cond := .code y_RR_takeHalfHour b_RR_takeHalfHour 6 (some .int) :: ALLW
theorem good_RR_takeHalfHour : GoodIn ALLW wd_RR_takeHalfHour := good_all kc_RR_takeHalfHour
abbrev wd_RR_readMatcher : List Cond := .code y_RR_readMatcher b_RR_readMatcher 4 (some .boolean) :: ALLW
theorem good_RR_readMatcher : GoodIn ALLW wd_RR_readMatcher := good_all kc_RR_readMatcher
abbrev wd_RR_openMatcher : List Cond := .code y_RR_openMatcher b_RR_openMatcher 2 none :: ALLW
theorem good_RR_openMatcher : GoodIn ALLW wd_RR_openMatcher := good_all kc_RR_openMatcher
abbrev wd_RR_closeAll : List Cond := .code y_RR_closeAll b_RR_closeAll 2 none :: ALLW
theorem good_RR_closeAll : GoodIn ALLW wd_RR_closeAll := good_all kc_RR_closeAll
abbrev wd_RR_closeMatchers : List Cond := .code y_RR_closeMatchers b_RR_closeMatchers 3 (some .int) :: ALLW
theorem good_RR_closeMatchers : GoodIn ALLW wd_RR_closeMatchers := good_all kc_RR_closeMatchers
abbrev wd_RR_takeNots : List Cond := .code y_RR_takeNots b_RR_takeNots 3 (some .boolean) :: ALLW
theorem good_RR_takeNots : GoodIn ALLW wd_RR_takeNots := good_all kc_RR_takeNots
abbrev wd_RR_readAtom : List Cond := .code y_RR_readAtom b_RR_readAtom 2 (some .boolean) :: ALLW
theorem good_RR_readAtom : GoodIn ALLW wd_RR_readAtom := good_all kc_RR_readAtom
abbrev wd_RR_readWeekdays : List Cond := .code y_RR_readWeekdays b_RR_readWeekdays 5 (some .boolean) :: ALLW
theorem good_RR_readWeekdays : GoodIn ALLW wd_RR_readWeekdays := good_all kc_RR_readWeekdays
abbrev wd_RR_readRankedWeekday : List Cond := .code y_RR_readRankedWeekday b_RR_readRankedWeekday 3 (some .boolean) :: ALLW
theorem good_RR_readRankedWeekday : GoodIn ALLW wd_RR_readRankedWeekday := good_all kc_RR_readRankedWeekday
abbrev wd_RR_readDates : List Cond := .code y_RR_readDates b_RR_readDates 3 (some .boolean) :: ALLW
theorem good_RR_readDates : GoodIn ALLW wd_RR_readDates := good_all kc_RR_readDates
abbrev wd_RR_takeMonthAndDay : List Cond := .code y_RR_takeMonthAndDay b_RR_takeMonthAndDay 3 (some .int) :: ALLW
theorem good_RR_takeMonthAndDay : GoodIn ALLW wd_RR_takeMonthAndDay := good_all kc_RR_takeMonthAndDay
abbrev wd_RR_readCycle : List Cond := .code y_RR_readCycle b_RR_readCycle 3 (some .boolean) :: ALLW
theorem good_RR_readCycle : GoodIn ALLW wd_RR_readCycle := good_all kc_RR_readCycle
abbrev wd_RR_readFeast : List Cond := .code y_RR_readFeast b_RR_readFeast 3 (some .boolean) :: ALLW
theorem good_RR_readFeast : GoodIn ALLW wd_RR_readFeast := good_all kc_RR_readFeast
abbrev wd_RR_readYears : List Cond := .code y_RR_readYears b_RR_readYears 4 (some .boolean) :: ALLW
theorem good_RR_readYears : GoodIn ALLW wd_RR_readYears := good_all kc_RR_readYears
abbrev wd_RR_take : List Cond := .code y_RR_take b_RR_take 2 (some .boolean) :: ALLW
theorem good_RR_take : GoodIn ALLW wd_RR_take := good_all kc_RR_take
abbrev wd_RR_takeNumber : List Cond := .code y_RR_takeNumber b_RR_takeNumber 6 (some .int) :: ALLW
theorem good_RR_takeNumber : GoodIn ALLW wd_RR_takeNumber := good_all kc_RR_takeNumber
abbrev wd_SH_init : List Cond := .code y_SH_init b_SH_init 2 none :: ALLW
theorem good_SH_init : GoodIn ALLW wd_SH_init := good_all kc_SH_init
abbrev wd_SH_loses : List Cond := .code y_SH_loses b_SH_loses 2 (some .boolean) :: ALLW
theorem good_SH_loses : GoodIn ALLW wd_SH_loses := good_all kc_SH_loses
abbrev wd_SH_doubles : List Cond := .code y_SH_doubles b_SH_doubles 2 (some .boolean) :: ALLW
theorem good_SH_doubles : GoodIn ALLW wd_SH_doubles := good_all kc_SH_doubles
abbrev wd_SH_isShifted : List Cond := .code y_SH_isShifted b_SH_isShifted 2 (some .boolean) :: ALLW
theorem good_SH_isShifted : GoodIn ALLW wd_SH_isShifted := good_all kc_SH_isShifted
abbrev wd_SH_isLost : List Cond := .code y_SH_isLost b_SH_isLost 3 (some .boolean) :: ALLW
theorem good_SH_isLost : GoodIn ALLW wd_SH_isLost := good_all kc_SH_isLost
abbrev wd_SH_cellsOf : List Cond := .code y_SH_cellsOf b_SH_cellsOf 2 (some .long) :: ALLW
theorem good_SH_cellsOf : GoodIn ALLW wd_SH_cellsOf := good_all kc_SH_cellsOf
abbrev wd_SH_cellsBehind : List Cond := .code y_SH_cellsBehind b_SH_cellsBehind 5 (some .long) :: ALLW
theorem good_SH_cellsBehind : GoodIn ALLW wd_SH_cellsBehind := good_all kc_SH_cellsBehind
abbrev wd_SH_timesOf : List Cond := .code y_SH_timesOf b_SH_timesOf 5 (some .int) :: ALLW
theorem good_SH_timesOf : GoodIn ALLW wd_SH_timesOf := good_all kc_SH_timesOf
abbrev wd_SH_startOf : List Cond := .code y_SH_startOf b_SH_startOf 4 (some .int) :: ALLW
theorem good_SH_startOf : GoodIn ALLW wd_SH_startOf := good_all kc_SH_startOf
abbrev wd_SH_timeOf : List Cond := .code y_SH_timeOf b_SH_timeOf 6 (some .int) :: ALLW
theorem good_SH_timeOf : GoodIn ALLW wd_SH_timeOf := good_all kc_SH_timeOf
abbrev wd_SH_tell : List Cond := .code y_SH_tell b_SH_tell 4 (some .int) :: ALLW
theorem good_SH_tell : GoodIn ALLW wd_SH_tell := good_all kc_SH_tell
abbrev wd_RC_init : List Cond := .code y_RC_init b_RC_init 2 none :: ALLW
theorem good_RC_init : GoodIn ALLW wd_RC_init := good_all kc_RC_init
abbrev wd_RC_type : List Cond := .code y_RC_type b_RC_type 2 (some .boolean) :: ALLW
theorem good_RC_type : GoodIn ALLW wd_RC_type := good_all kc_RC_type
abbrev wd_RC_wipe : List Cond := .code y_RC_wipe b_RC_wipe 2 (some .int) :: ALLW
theorem good_RC_wipe : GoodIn ALLW wd_RC_wipe := good_all kc_RC_wipe
abbrev wd_RC_compile : List Cond := .code y_RC_compile b_RC_compile 4 (some .int) :: ALLW
theorem good_RC_compile : GoodIn ALLW wd_RC_compile := good_all kc_RC_compile
abbrev wd_RC_shifts : List Cond := .code y_RC_shifts b_RC_shifts 2 none :: ALLW
theorem good_RC_shifts : GoodIn ALLW wd_RC_shifts := good_all kc_RC_shifts
abbrev wd_RC_at : List Cond := .code y_RC_at b_RC_at 5 (some .int) :: ALLW
theorem good_RC_at : GoodIn ALLW wd_RC_at := good_all kc_RC_at
abbrev wd_RC_which : List Cond := .code y_RC_which b_RC_which 5 (some .int) :: ALLW
theorem good_RC_which : GoodIn ALLW wd_RC_which := good_all kc_RC_which
abbrev wd_RC_next : List Cond := .code y_RC_next b_RC_next 11 (some .int) :: ALLW
theorem good_RC_next : GoodIn ALLW wd_RC_next := good_all kc_RC_next
abbrev wd_RC_total : List Cond := .code y_RC_total b_RC_total 8 (some .int) :: ALLW
theorem good_RC_total : GoodIn ALLW wd_RC_total := good_all kc_RC_total
abbrev wd_RC_dayOf : List Cond := .code y_RC_dayOf b_RC_dayOf 4 (some .int) :: ALLW
theorem good_RC_dayOf : GoodIn ALLW wd_RC_dayOf := good_all kc_RC_dayOf
abbrev wd_RC_dateOf : List Cond := .code y_RC_dateOf b_RC_dateOf 3 (some .int) :: ALLW
theorem good_RC_dateOf : GoodIn ALLW wd_RC_dateOf := good_all kc_RC_dateOf
abbrev wd_RC_feast : List Cond := .code y_RC_feast b_RC_feast 2 (some .int) :: ALLW
theorem good_RC_feast : GoodIn ALLW wd_RC_feast := good_all kc_RC_feast
abbrev wd_RC_elapsed : List Cond := .code y_RC_elapsed b_RC_elapsed 4 (some .int) :: ALLW
theorem good_RC_elapsed : GoodIn ALLW wd_RC_elapsed := good_all kc_RC_elapsed
abbrev wd_RC_clock : List Cond := .code y_RC_clock b_RC_clock 2 (some .int) :: ALLW
theorem good_RC_clock : GoodIn ALLW wd_RC_clock := good_all kc_RC_clock
abbrev wd_RC_compare : List Cond := .code y_RC_compare b_RC_compare 8 (some .int) :: ALLW
theorem good_RC_compare : GoodIn ALLW wd_RC_compare := good_all kc_RC_compare
abbrev wd_RC_inside : List Cond := .code y_RC_inside b_RC_inside 8 (some .boolean) :: ALLW
theorem good_RC_inside : GoodIn ALLW wd_RC_inside := good_all kc_RC_inside
abbrev wd_RC_dead : List Cond := .code y_RC_dead b_RC_dead 6 (some .int) :: ALLW
theorem good_RC_dead : GoodIn ALLW wd_RC_dead := good_all kc_RC_dead
abbrev wd_RC_run : List Cond := .code y_RC_run b_RC_run 7 (some .int) :: ALLW
theorem good_RC_run : GoodIn ALLW wd_RC_run := good_all kc_RC_run
abbrev wd_RC_firstOfRun : List Cond := .code y_RC_firstOfRun b_RC_firstOfRun 8 (some .int) :: ALLW
theorem good_RC_firstOfRun : GoodIn ALLW wd_RC_firstOfRun := good_all kc_RC_firstOfRun
abbrev wd_RC_lastOfRun : List Cond := .code y_RC_lastOfRun b_RC_lastOfRun 7 (some .int) :: ALLW
theorem good_RC_lastOfRun : GoodIn ALLW wd_RC_lastOfRun := good_all kc_RC_lastOfRun
abbrev wd_RC_decidesSome : List Cond := .code y_RC_decidesSome b_RC_decidesSome 4 (some .boolean) :: ALLW
theorem good_RC_decidesSome : GoodIn ALLW wd_RC_decidesSome := good_all kc_RC_decidesSome
abbrev wd_RC_needCalendar : List Cond := .code y_RC_needCalendar b_RC_needCalendar 2 none :: ALLW
theorem good_RC_needCalendar : GoodIn ALLW wd_RC_needCalendar := good_all kc_RC_needCalendar
abbrev wd_RC_needCell : List Cond := .code y_RC_needCell b_RC_needCell 3 none :: ALLW
theorem good_RC_needCell : GoodIn ALLW wd_RC_needCell := good_all kc_RC_needCell
abbrev wd_RC_planWithCell : List Cond := .code y_RC_planWithCell b_RC_planWithCell 4 (some (.object "RuleCalendar$Plan")) :: ALLW
theorem good_RC_planWithCell : GoodIn ALLW wd_RC_planWithCell := good_all kc_RC_planWithCell
abbrev wd_RC_compiledPlan : List Cond := .code y_RC_compiledPlan b_RC_compiledPlan 2 (some (.object "RuleCalendar$Plan")) :: ALLW
theorem good_RC_compiledPlan : GoodIn ALLW wd_RC_compiledPlan := good_all kc_RC_compiledPlan
abbrev wd_RC_cellsBelow : List Cond := .code y_RC_cellsBelow b_RC_cellsBelow 1 (some .long) :: ALLW
theorem good_RC_cellsBelow : GoodIn ALLW wd_RC_cellsBelow := good_all kc_RC_cellsBelow
abbrev wd_RC_lowestCell : List Cond := .code y_RC_lowestCell b_RC_lowestCell 2 (some .int) :: ALLW
theorem good_RC_lowestCell : GoodIn ALLW wd_RC_lowestCell := good_all kc_RC_lowestCell
abbrev wd_RC_yearIndex : List Cond := .code y_RC_yearIndex b_RC_yearIndex 1 (some .int) :: ALLW
theorem good_RC_yearIndex : GoodIn ALLW wd_RC_yearIndex := good_all kc_RC_yearIndex
abbrev wd_MD_init : List Cond := .code y_MD_init b_MD_init 5 none :: ALLW
theorem good_MD_init : GoodIn ALLW wd_MD_init := good_all kc_MD_init
abbrev wd_MD_thrown : List Cond := .code y_MD_thrown b_MD_thrown 1 (some .int) :: ALLW
theorem good_MD_thrown : GoodIn ALLW wd_MD_thrown := good_all kc_MD_thrown
abbrev wd_MD_refused : List Cond := .code y_MD_refused b_MD_refused 2 (some .boolean) :: ALLW
theorem good_MD_refused : GoodIn ALLW wd_MD_refused := good_all kc_MD_refused
abbrev wd_MD_monthLength : List Cond := .code y_MD_monthLength b_MD_monthLength 2 (some .int) :: ALLW
theorem good_MD_monthLength : GoodIn ALLW wd_MD_monthLength := good_all kc_MD_monthLength
abbrev wd_MD_weekday : List Cond := .code y_MD_weekday b_MD_weekday 1 (some .int) :: ALLW
theorem good_MD_weekday : GoodIn ALLW wd_MD_weekday := good_all kc_MD_weekday
abbrev wd_MD_week : List Cond := .code y_MD_week b_MD_week 5 (some .int) :: ALLW
theorem good_MD_week : GoodIn ALLW wd_MD_week := good_all kc_MD_week
abbrev wd_MD_feastOf : List Cond := .code y_MD_feastOf b_MD_feastOf 14 (some .int) :: ALLW
theorem good_MD_feastOf : GoodIn ALLW wd_MD_feastOf := good_all kc_MD_feastOf
abbrev wd_MD_find : List Cond := .code y_MD_find b_MD_find 4 (some .int) :: ALLW
theorem good_MD_find : GoodIn ALLW wd_MD_find := good_all kc_MD_find
abbrev wd_MD_isLastSunday : List Cond := .code y_MD_isLastSunday b_MD_isLastSunday 4 (some .boolean) :: ALLW
theorem good_MD_isLastSunday : GoodIn ALLW wd_MD_isLastSunday := good_all kc_MD_isLastSunday
abbrev wd_MD_isLost : List Cond := .code y_MD_isLost b_MD_isLost 3 (some .boolean) :: ALLW
theorem good_MD_isLost : GoodIn ALLW wd_MD_isLost := good_all kc_MD_isLost
abbrev wd_MD_isTwice : List Cond := .code y_MD_isTwice b_MD_isTwice 3 (some .boolean) :: ALLW
theorem good_MD_isTwice : GoodIn ALLW wd_MD_isTwice := good_all kc_MD_isTwice
abbrev wd_MD_push : List Cond := .code y_MD_push b_MD_push 4 none :: ALLW
theorem good_MD_push : GoodIn ALLW wd_MD_push := good_all kc_MD_push
abbrev wd_MD_isIn : List Cond := .code y_MD_isIn b_MD_isIn 3 (some .boolean) :: ALLW
theorem good_MD_isIn : GoodIn ALLW wd_MD_isIn := good_all kc_MD_isIn
abbrev wd_MD_emit : List Cond := .code y_MD_emit b_MD_emit 2 none :: ALLW
theorem good_MD_emit : GoodIn ALLW wd_MD_emit := good_all kc_MD_emit
abbrev wd_MD_newAtom : List Cond := .code y_MD_newAtom b_MD_newAtom 2 (some .int) :: ALLW
theorem good_MD_newAtom : GoodIn ALLW wd_MD_newAtom := good_all kc_MD_newAtom
abbrev wd_MD_take : List Cond := .code y_MD_take b_MD_take 5 (some .int) :: ALLW
theorem good_MD_take : GoodIn ALLW wd_MD_take := good_all kc_MD_take
abbrev wd_MD_beginRule : List Cond := .code y_MD_beginRule b_MD_beginRule 2 (some .int) :: ALLW
theorem good_MD_beginRule : GoodIn ALLW wd_MD_beginRule := good_all kc_MD_beginRule
abbrev wd_MD_takeSpan : List Cond := .code y_MD_takeSpan b_MD_takeSpan 7 (some .int) :: ALLW
theorem good_MD_takeSpan : GoodIn ALLW wd_MD_takeSpan := good_all kc_MD_takeSpan
abbrev wd_MD_takeMatcher : List Cond := .code y_MD_takeMatcher b_MD_takeMatcher 4 (some .int) :: ALLW
theorem good_MD_takeMatcher : GoodIn ALLW wd_MD_takeMatcher := good_all kc_MD_takeMatcher
abbrev wd_MD_beginOne : List Cond := .code y_MD_beginOne b_MD_beginOne 3 (some .int) :: ALLW
theorem good_MD_beginOne : GoodIn ALLW wd_MD_beginOne := good_all kc_MD_beginOne
abbrev wd_MD_go : List Cond := .code y_MD_go b_MD_go 6 (some .int) :: ALLW
theorem good_MD_go : GoodIn ALLW wd_MD_go := good_all kc_MD_go
abbrev wd_MD_takeAtom : List Cond := .code y_MD_takeAtom b_MD_takeAtom 6 (some .int) :: ALLW
theorem good_MD_takeAtom : GoodIn ALLW wd_MD_takeAtom := good_all kc_MD_takeAtom
abbrev wd_MD_takeDates : List Cond := .code y_MD_takeDates b_MD_takeDates 7 (some .int) :: ALLW
theorem good_MD_takeDates : GoodIn ALLW wd_MD_takeDates := good_all kc_MD_takeDates
abbrev wd_MD_takeCycle : List Cond := .code y_MD_takeCycle b_MD_takeCycle 5 (some .int) :: ALLW
theorem good_MD_takeCycle : GoodIn ALLW wd_MD_takeCycle := good_all kc_MD_takeCycle
abbrev wd_MD_takeYears : List Cond := .code y_MD_takeYears b_MD_takeYears 5 (some .int) :: ALLW
theorem good_MD_takeYears : GoodIn ALLW wd_MD_takeYears := good_all kc_MD_takeYears
abbrev wd_MD_readAll : List Cond := .code y_MD_readAll b_MD_readAll 5 (some .int) :: ALLW
theorem good_MD_readAll : GoodIn ALLW wd_MD_readAll := good_all kc_MD_readAll
abbrev wd_MD_isAtom : List Cond := .code y_MD_isAtom b_MD_isAtom 7 (some .boolean) :: ALLW
theorem good_MD_isAtom : GoodIn ALLW wd_MD_isAtom := good_all kc_MD_isAtom
abbrev wd_MD_isMatched : List Cond := .code y_MD_isMatched b_MD_isMatched 7 (some .boolean) :: ALLW
theorem good_MD_isMatched : GoodIn ALLW wd_MD_isMatched := good_all kc_MD_isMatched
abbrev wd_MD_compile : List Cond := .code y_MD_compile b_MD_compile 6 (some .int) :: ALLW
theorem good_MD_compile : GoodIn ALLW wd_MD_compile := good_all kc_MD_compile
abbrev wd_MD_isMatch : List Cond := .code y_MD_isMatch b_MD_isMatch 4 (some .boolean) :: ALLW
theorem good_MD_isMatch : GoodIn ALLW wd_MD_isMatch := good_all kc_MD_isMatch
abbrev wd_MD_isCovered : List Cond := .code y_MD_isCovered b_MD_isCovered 7 (some .boolean) :: ALLW
theorem good_MD_isCovered : GoodIn ALLW wd_MD_isCovered := good_all kc_MD_isCovered
abbrev wd_MD_decides : List Cond := .code y_MD_decides b_MD_decides 5 (some .int) :: ALLW
theorem good_MD_decides : GoodIn ALLW wd_MD_decides := good_all kc_MD_decides
abbrev wd_MD_tariffOf : List Cond := .code y_MD_tariffOf b_MD_tariffOf 5 (some .int) :: ALLW
theorem good_MD_tariffOf : GoodIn ALLW wd_MD_tariffOf := good_all kc_MD_tariffOf
abbrev wd_MD_wrong : List Cond := .code y_MD_wrong b_MD_wrong 5 (some .int) :: ALLW
theorem good_MD_wrong : GoodIn ALLW wd_MD_wrong := good_all kc_MD_wrong
abbrev wd_MD_shifts : List Cond := .code y_MD_shifts b_MD_shifts 2 none :: ALLW
theorem good_MD_shifts : GoodIn ALLW wd_MD_shifts := good_all kc_MD_shifts
abbrev wd_MD_type : List Cond := .code y_MD_type b_MD_type 2 (some .boolean) :: ALLW
theorem good_MD_type : GoodIn ALLW wd_MD_type := good_all kc_MD_type
abbrev wd_MD_wipe : List Cond := .code y_MD_wipe b_MD_wipe 2 (some .int) :: ALLW
theorem good_MD_wipe : GoodIn ALLW wd_MD_wipe := good_all kc_MD_wipe
abbrev wd_MD_at : List Cond := .code y_MD_at b_MD_at 4 (some .int) :: ALLW
theorem good_MD_at : GoodIn ALLW wd_MD_at := good_all kc_MD_at
abbrev wd_MD_which : List Cond := .code y_MD_which b_MD_which 4 (some .int) :: ALLW
theorem good_MD_which : GoodIn ALLW wd_MD_which := good_all kc_MD_which
abbrev wd_MD_shown : List Cond := .code y_MD_shown b_MD_shown 9 (some .int) :: ALLW
theorem good_MD_shown : GoodIn ALLW wd_MD_shown := good_all kc_MD_shown
abbrev wd_MD_timeOf : List Cond := .code y_MD_timeOf b_MD_timeOf 7 (some .int) :: ALLW
theorem good_MD_timeOf : GoodIn ALLW wd_MD_timeOf := good_all kc_MD_timeOf
abbrev wd_MD_next : List Cond := .code y_MD_next b_MD_next 9 (some .int) :: ALLW
theorem good_MD_next : GoodIn ALLW wd_MD_next := good_all kc_MD_next
abbrev wd_MD_total : List Cond := .code y_MD_total b_MD_total 9 (some .int) :: ALLW
theorem good_MD_total : GoodIn ALLW wd_MD_total := good_all kc_MD_total
abbrev wd_MD_dayOf : List Cond := .code y_MD_dayOf b_MD_dayOf 4 (some .int) :: ALLW
theorem good_MD_dayOf : GoodIn ALLW wd_MD_dayOf := good_all kc_MD_dayOf
abbrev wd_MD_dateOf : List Cond := .code y_MD_dateOf b_MD_dateOf 3 (some .int) :: ALLW
theorem good_MD_dateOf : GoodIn ALLW wd_MD_dateOf := good_all kc_MD_dateOf
abbrev wd_MD_feast : List Cond := .code y_MD_feast b_MD_feast 2 (some .int) :: ALLW
theorem good_MD_feast : GoodIn ALLW wd_MD_feast := good_all kc_MD_feast
abbrev wd_MD_elapsed : List Cond := .code y_MD_elapsed b_MD_elapsed 4 (some .int) :: ALLW
theorem good_MD_elapsed : GoodIn ALLW wd_MD_elapsed := good_all kc_MD_elapsed
abbrev wd_MD_clock : List Cond := .code y_MD_clock b_MD_clock 2 (some .int) :: ALLW
theorem good_MD_clock : GoodIn ALLW wd_MD_clock := good_all kc_MD_clock
abbrev wd_MD_wrongTwo : List Cond := .code y_MD_wrongTwo b_MD_wrongTwo 4 (some .int) :: ALLW
theorem good_MD_wrongTwo : GoodIn ALLW wd_MD_wrongTwo := good_all kc_MD_wrongTwo
abbrev wd_MD_compare : List Cond := .code y_MD_compare b_MD_compare 5 (some .int) :: ALLW
theorem good_MD_compare : GoodIn ALLW wd_MD_compare := good_all kc_MD_compare
abbrev wd_MD_inside : List Cond := .code y_MD_inside b_MD_inside 5 (some .boolean) :: ALLW
theorem good_MD_inside : GoodIn ALLW wd_MD_inside := good_all kc_MD_inside
abbrev wd_MD_dead : List Cond := .code y_MD_dead b_MD_dead 8 (some .int) :: ALLW
theorem good_MD_dead : GoodIn ALLW wd_MD_dead := good_all kc_MD_dead
abbrev wd_MD_run : List Cond := .code y_MD_run b_MD_run 11 (some .int) :: ALLW
theorem good_MD_run : GoodIn ALLW wd_MD_run := good_all kc_MD_run
abbrev wd_JL_bitCount : List Cond := .code y_JL_bitCount b_JL_bitCount 2 (some .int) :: ALLW
theorem good_JL_bitCount : GoodIn ALLW wd_JL_bitCount := good_all kc_JL_bitCount
abbrev wd_JA_fill : List Cond := .code y_JA_fill b_JA_fill 5 none :: ALLW
theorem good_JA_fill : GoodIn ALLW wd_JA_fill := good_all kc_JA_fill
