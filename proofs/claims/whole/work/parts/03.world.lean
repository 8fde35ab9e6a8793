/-! The world of the class, the reference and the law's own array: one list of cells at addresses that are variables. -/
abbrev WA : List Cond := wsL_law
def wA (y : MethodName) (cc : ByteArray) (n : Nat) (ret : Option FieldType) : List Cond := Cond.code y cc n ret :: WA
theorem WA_good : WA.all goodWord = true := by decide +kernel
theorem wm_0 : Cond.classLink RL 8 RX0 ∈ WA := List.mem_of_getElem? (i := 0) (by decide +kernel)
theorem wm_1 : Cond.instantiable RX0 16 ∈ WA := List.mem_of_getElem? (i := 1) (by decide +kernel)
theorem wm_2 : Cond.initialized RX0 ∈ WA := List.mem_of_getElem? (i := 2) (by decide +kernel)
theorem wm_3 : Cond.classLink RL 67 RX1 ∈ WA := List.mem_of_getElem? (i := 3) (by decide +kernel)
theorem wm_4 : Cond.instantiable RX1 14 ∈ WA := List.mem_of_getElem? (i := 4) (by decide +kernel)
theorem wm_5 : Cond.initialized RX1 ∈ WA := List.mem_of_getElem? (i := 5) (by decide +kernel)
theorem wm_6 : Cond.arrayClass .long ∈ WA := List.mem_of_getElem? (i := 6) (by decide +kernel)
theorem wm_7 : Cond.methodLink RL 66 yX0_init ∈ WA := List.mem_of_getElem? (i := 7) (by decide +kernel)
theorem wm_8 : Cond.instanceMethod yX0_init ∈ WA := List.mem_of_getElem? (i := 8) (by decide +kernel)
theorem wm_9 : Cond.code yX0_init cX0_init 2 none ∈ WA := List.mem_of_getElem? (i := 9) (by decide +kernel)
theorem wm_10 : Cond.methodLink RX0 1 objectInit ∈ WA := List.mem_of_getElem? (i := 10) (by decide +kernel)
theorem wm_11 : Cond.instanceMethod objectInit ∈ WA := List.mem_of_getElem? (i := 11) (by decide +kernel)
theorem wm_12 : Cond.code objectInit ⟨#[0xb1]⟩ 1 none ∈ WA := List.mem_of_getElem? (i := 12) (by decide +kernel)
theorem wm_13 : Cond.classLink RX0 9 "[[I" ∈ WA := List.mem_of_getElem? (i := 13) (by decide +kernel)
theorem wm_14 : Cond.arrayClass .int ∈ WA := List.mem_of_getElem? (i := 14) (by decide +kernel)
theorem wm_15 : Cond.fieldLink RX0 11 "RateFitter" "factors" "[[I" ∈ WA := List.mem_of_getElem? (i := 15) (by decide +kernel)
theorem wm_16 : Cond.fieldLink RX0 14 "RateFitter" "rowLevels" "[[I" ∈ WA := List.mem_of_getElem? (i := 16) (by decide +kernel)
theorem wm_17 : Cond.fieldLink RX0 17 "RateFitter" "exposures" "[J" ∈ WA := List.mem_of_getElem? (i := 17) (by decide +kernel)
theorem wm_18 : Cond.fieldLink RX0 21 "RateFitter" "claims" "[J" ∈ WA := List.mem_of_getElem? (i := 18) (by decide +kernel)
theorem wm_19 : Cond.fieldLink RX0 24 "RateFitter" "losses" "[J" ∈ WA := List.mem_of_getElem? (i := 19) (by decide +kernel)
theorem wm_20 : Cond.fieldLink RX0 27 "RateFitter" "oldPremiums" "[I" ∈ WA := List.mem_of_getElem? (i := 20) (by decide +kernel)
theorem wm_21 : Cond.arrayClass .boolean ∈ WA := List.mem_of_getElem? (i := 21) (by decide +kernel)
theorem wm_22 : Cond.fieldLink RX0 31 "RateFitter" "live" "[Z" ∈ WA := List.mem_of_getElem? (i := 22) (by decide +kernel)
theorem wm_23 : Cond.fieldLink RX0 35 "RateFitter" "addedRows" "I" ∈ WA := List.mem_of_getElem? (i := 23) (by decide +kernel)
theorem wm_24 : Cond.fieldLink RX0 39 "RateFitter" "liveRows" "I" ∈ WA := List.mem_of_getElem? (i := 24) (by decide +kernel)
theorem wm_25 : Cond.fieldLink RX0 42 "RateFitter" "credibility" "I" ∈ WA := List.mem_of_getElem? (i := 25) (by decide +kernel)
theorem wm_26 : Cond.fieldLink RX0 45 "RateFitter" "cap" "I" ∈ WA := List.mem_of_getElem? (i := 26) (by decide +kernel)
theorem wm_27 : Cond.fieldLink RX0 48 "RateFitter" "spreadNow" "I" ∈ WA := List.mem_of_getElem? (i := 27) (by decide +kernel)
theorem wm_28 : Cond.fieldLink RX0 51 "RateFitter" "baseNow" "J" ∈ WA := List.mem_of_getElem? (i := 28) (by decide +kernel)
theorem wm_29 : Cond.fieldLink RX0 55 "RateFitter" "fittedLosses" "[J" ∈ WA := List.mem_of_getElem? (i := 29) (by decide +kernel)
theorem wm_30 : Cond.fieldLink RX0 58 "RateFitter" "groupStarts" "[I" ∈ WA := List.mem_of_getElem? (i := 30) (by decide +kernel)
theorem wm_31 : Cond.fieldLink RX0 61 "RateFitter" "factorsBefore" "[I" ∈ WA := List.mem_of_getElem? (i := 31) (by decide +kernel)
theorem wm_32 : Cond.methodLink RX0 64 yJ7_fill_53178 ∈ WA := List.mem_of_getElem? (i := 32) (by decide +kernel)
theorem wm_33 : Cond.static yJ7_fill_53178 ∈ WA := List.mem_of_getElem? (i := 33) (by decide +kernel)
theorem wm_34 : Cond.initialized RJ7 ∈ WA := List.mem_of_getElem? (i := 34) (by decide +kernel)
theorem wm_35 : Cond.code yJ7_fill_53178 cJ7_fill_53178 4 none ∈ WA := List.mem_of_getElem? (i := 35) (by decide +kernel)
theorem wm_36 : Cond.methodLink RL 69 yX1_init ∈ WA := List.mem_of_getElem? (i := 36) (by decide +kernel)
theorem wm_37 : Cond.instanceMethod yX1_init ∈ WA := List.mem_of_getElem? (i := 37) (by decide +kernel)
theorem wm_38 : Cond.code yX1_init cX1_init 2 none ∈ WA := List.mem_of_getElem? (i := 38) (by decide +kernel)
theorem wm_39 : Cond.methodLink RX1 1 objectInit ∈ WA := List.mem_of_getElem? (i := 39) (by decide +kernel)
theorem wm_40 : Cond.fieldLink RX1 7 "RateFitterModel" "levels" "[I" ∈ WA := List.mem_of_getElem? (i := 40) (by decide +kernel)
theorem wm_41 : Cond.fieldLink RX1 13 "RateFitterModel" "exposures" "[I" ∈ WA := List.mem_of_getElem? (i := 41) (by decide +kernel)
theorem wm_42 : Cond.fieldLink RX1 16 "RateFitterModel" "claims" "[I" ∈ WA := List.mem_of_getElem? (i := 42) (by decide +kernel)
theorem wm_43 : Cond.fieldLink RX1 19 "RateFitterModel" "losses" "[I" ∈ WA := List.mem_of_getElem? (i := 43) (by decide +kernel)
theorem wm_44 : Cond.fieldLink RX1 22 "RateFitterModel" "olds" "[I" ∈ WA := List.mem_of_getElem? (i := 44) (by decide +kernel)
theorem wm_45 : Cond.fieldLink RX1 25 "RateFitterModel" "gone" "[Z" ∈ WA := List.mem_of_getElem? (i := 45) (by decide +kernel)
theorem wm_46 : Cond.fieldLink RX1 29 "RateFitterModel" "cap" "I" ∈ WA := List.mem_of_getElem? (i := 46) (by decide +kernel)
theorem wm_47 : Cond.constantLong RX1 33 (10000) ∈ WA := List.mem_of_getElem? (i := 47) (by decide +kernel)
theorem wm_48 : Cond.fieldLink RX1 35 "RateFitterModel" "spread" "J" ∈ WA := List.mem_of_getElem? (i := 48) (by decide +kernel)
theorem wm_49 : Cond.fieldLink RX1 39 "RateFitterModel" "factors" "[I" ∈ WA := List.mem_of_getElem? (i := 49) (by decide +kernel)
theorem wm_50 : Cond.fieldLink RX1 42 "RateFitterModel" "found" "[I" ∈ WA := List.mem_of_getElem? (i := 50) (by decide +kernel)
theorem wm_51 : Cond.fieldLink RX1 45 "RateFitterModel" "joined" "[I" ∈ WA := List.mem_of_getElem? (i := 51) (by decide +kernel)
theorem wm_52 : Cond.methodLink RL 70 yL_add ∈ WA := List.mem_of_getElem? (i := 52) (by decide +kernel)
theorem wm_53 : Cond.static yL_add ∈ WA := List.mem_of_getElem? (i := 53) (by decide +kernel)
theorem wm_54 : Cond.initialized RL ∈ WA := List.mem_of_getElem? (i := 54) (by decide +kernel)
theorem wm_55 : Cond.codeWith yL_add cL_add 9 (some .int) [(0, 18, 21, 13), (0, 18, 25, 15)] ∈ WA := List.mem_of_getElem? (i := 55) (by decide +kernel)
theorem wm_56 : Cond.classLink RL 13 "java/lang/IllegalArgumentException" ∈ WA := List.mem_of_getElem? (i := 56) (by decide +kernel)
theorem wm_57 : Cond.classLink RL 15 "java/lang/IllegalStateException" ∈ WA := List.mem_of_getElem? (i := 57) (by decide +kernel)
theorem wm_58 : Cond.methodLink RL 7 yX0_add ∈ WA := List.mem_of_getElem? (i := 58) (by decide +kernel)
theorem wm_59 : Cond.instanceMethod yX0_add ∈ WA := List.mem_of_getElem? (i := 59) (by decide +kernel)
theorem wm_60 : Cond.selects RX0 yX0_add yX0_add ∈ WA := List.mem_of_getElem? (i := 60) (by decide +kernel)
theorem wm_61 : Cond.code yX0_add cX0_add 8 (some .int) ∈ WA := List.mem_of_getElem? (i := 61) (by decide +kernel)
theorem wm_62 : Cond.classLink RX0 74 "java/lang/IllegalArgumentException" ∈ WA := List.mem_of_getElem? (i := 62) (by decide +kernel)
theorem wm_63 : Cond.initialized "java/lang/IllegalArgumentException" ∈ WA := List.mem_of_getElem? (i := 63) (by decide +kernel)
theorem wm_64 : Cond.classLink RX0 88 "java/lang/IllegalStateException" ∈ WA := List.mem_of_getElem? (i := 64) (by decide +kernel)
theorem wm_65 : Cond.initialized "java/lang/IllegalStateException" ∈ WA := List.mem_of_getElem? (i := 65) (by decide +kernel)
theorem wm_66 : Cond.constant RX0 85 (1000000) ∈ WA := List.mem_of_getElem? (i := 66) (by decide +kernel)
theorem wm_67 : Cond.methodLink RX0 70 yX0_hasLevel ∈ WA := List.mem_of_getElem? (i := 67) (by decide +kernel)
theorem wm_68 : Cond.static yX0_hasLevel ∈ WA := List.mem_of_getElem? (i := 68) (by decide +kernel)
theorem wm_69 : Cond.code yX0_hasLevel cX0_hasLevel 2 (some .boolean) ∈ WA := List.mem_of_getElem? (i := 69) (by decide +kernel)
theorem wm_70 : Cond.fieldLink RX0 130 "RateFitter" "LEVELS" "[I" ∈ WA := List.mem_of_getElem? (i := 70) (by decide +kernel)
theorem wm_71 : Cond.methodLink RX0 117 yX0_hasTrait ∈ WA := List.mem_of_getElem? (i := 71) (by decide +kernel)
theorem wm_72 : Cond.static yX0_hasTrait ∈ WA := List.mem_of_getElem? (i := 72) (by decide +kernel)
theorem wm_73 : Cond.code yX0_hasTrait cX0_hasTrait 1 (some .boolean) ∈ WA := List.mem_of_getElem? (i := 73) (by decide +kernel)
theorem wm_74 : Cond.methodLink RX0 81 yX0_isWithin ∈ WA := List.mem_of_getElem? (i := 74) (by decide +kernel)
theorem wm_75 : Cond.static yX0_isWithin ∈ WA := List.mem_of_getElem? (i := 75) (by decide +kernel)
theorem wm_76 : Cond.code yX0_isWithin cX0_isWithin 3 (some .boolean) ∈ WA := List.mem_of_getElem? (i := 76) (by decide +kernel)
theorem wm_77 : Cond.methodLink RX0 93 yX0_refit ∈ WA := List.mem_of_getElem? (i := 77) (by decide +kernel)
theorem wm_78 : Cond.instanceMethod yX0_refit ∈ WA := List.mem_of_getElem? (i := 78) (by decide +kernel)
theorem wm_79 : Cond.selects RX0 yX0_refit yX0_refit ∈ WA := List.mem_of_getElem? (i := 79) (by decide +kernel)
theorem wm_80 : Cond.code yX0_refit cX0_refit 4 none ∈ WA := List.mem_of_getElem? (i := 80) (by decide +kernel)
theorem wm_81 : Cond.constantLong RX0 147 (10000) ∈ WA := List.mem_of_getElem? (i := 81) (by decide +kernel)
theorem wm_82 : Cond.methodLink RX0 149 yX0_total ∈ WA := List.mem_of_getElem? (i := 82) (by decide +kernel)
theorem wm_83 : Cond.instanceMethod yX0_total ∈ WA := List.mem_of_getElem? (i := 83) (by decide +kernel)
theorem wm_84 : Cond.selects RX0 yX0_total yX0_total ∈ WA := List.mem_of_getElem? (i := 84) (by decide +kernel)
theorem wm_85 : Cond.code yX0_total cX0_total 5 (some .long) ∈ WA := List.mem_of_getElem? (i := 85) (by decide +kernel)
theorem wm_86 : Cond.methodLink RX0 188 yX0_fittedLoss ∈ WA := List.mem_of_getElem? (i := 86) (by decide +kernel)
theorem wm_87 : Cond.instanceMethod yX0_fittedLoss ∈ WA := List.mem_of_getElem? (i := 87) (by decide +kernel)
theorem wm_88 : Cond.selects RX0 yX0_fittedLoss yX0_fittedLoss ∈ WA := List.mem_of_getElem? (i := 88) (by decide +kernel)
theorem wm_89 : Cond.code yX0_fittedLoss cX0_fittedLoss 5 (some .long) ∈ WA := List.mem_of_getElem? (i := 89) (by decide +kernel)
theorem wm_90 : Cond.methodLink RL 75 yX1_add ∈ WA := List.mem_of_getElem? (i := 90) (by decide +kernel)
theorem wm_91 : Cond.instanceMethod yX1_add ∈ WA := List.mem_of_getElem? (i := 91) (by decide +kernel)
theorem wm_92 : Cond.selects RX1 yX1_add yX1_add ∈ WA := List.mem_of_getElem? (i := 92) (by decide +kernel)
theorem wm_93 : Cond.code yX1_add cX1_add 8 (some .int) ∈ WA := List.mem_of_getElem? (i := 93) (by decide +kernel)
theorem wm_94 : Cond.constant RX1 70 (1000000) ∈ WA := List.mem_of_getElem? (i := 94) (by decide +kernel)
theorem wm_95 : Cond.fieldLink RX1 63 "RateFitterModel" "rows" "I" ∈ WA := List.mem_of_getElem? (i := 95) (by decide +kernel)
theorem wm_96 : Cond.methodLink RX1 66 yX1_isLevel ∈ WA := List.mem_of_getElem? (i := 96) (by decide +kernel)
theorem wm_97 : Cond.static yX1_isLevel ∈ WA := List.mem_of_getElem? (i := 97) (by decide +kernel)
theorem wm_98 : Cond.code yX1_isLevel cX1_isLevel 2 (some .boolean) ∈ WA := List.mem_of_getElem? (i := 98) (by decide +kernel)
theorem wm_99 : Cond.methodLink RX1 55 yX1_isTrait ∈ WA := List.mem_of_getElem? (i := 99) (by decide +kernel)
theorem wm_100 : Cond.static yX1_isTrait ∈ WA := List.mem_of_getElem? (i := 100) (by decide +kernel)
theorem wm_101 : Cond.code yX1_isTrait cX1_isTrait 1 (some .boolean) ∈ WA := List.mem_of_getElem? (i := 101) (by decide +kernel)
theorem wm_102 : Cond.methodLink RX1 51 yX1_in ∈ WA := List.mem_of_getElem? (i := 102) (by decide +kernel)
theorem wm_103 : Cond.static yX1_in ∈ WA := List.mem_of_getElem? (i := 103) (by decide +kernel)
theorem wm_104 : Cond.code yX1_in cX1_in 3 (some .boolean) ∈ WA := List.mem_of_getElem? (i := 104) (by decide +kernel)
theorem wm_105 : Cond.methodLink RX1 59 yX1_levelsOf ∈ WA := List.mem_of_getElem? (i := 105) (by decide +kernel)
theorem wm_106 : Cond.static yX1_levelsOf ∈ WA := List.mem_of_getElem? (i := 106) (by decide +kernel)
theorem wm_107 : Cond.code yX1_levelsOf cX1_levelsOf 1 (some .int) ∈ WA := List.mem_of_getElem? (i := 107) (by decide +kernel)
theorem wm_108 : Cond.methodLink RX1 71 yX1_goes ∈ WA := List.mem_of_getElem? (i := 108) (by decide +kernel)
theorem wm_109 : Cond.instanceMethod yX1_goes ∈ WA := List.mem_of_getElem? (i := 109) (by decide +kernel)
theorem wm_110 : Cond.selects RX1 yX1_goes yX1_goes ∈ WA := List.mem_of_getElem? (i := 110) (by decide +kernel)
theorem wm_111 : Cond.code yX1_goes cX1_goes 4 (some .boolean) ∈ WA := List.mem_of_getElem? (i := 111) (by decide +kernel)
theorem wm_112 : Cond.fieldLink RX1 48 "RateFitterModel" "last" "I" ∈ WA := List.mem_of_getElem? (i := 112) (by decide +kernel)
theorem wm_113 : Cond.methodLink RL 76 yX1_thrown ∈ WA := List.mem_of_getElem? (i := 113) (by decide +kernel)
theorem wm_114 : Cond.instanceMethod yX1_thrown ∈ WA := List.mem_of_getElem? (i := 114) (by decide +kernel)
theorem wm_115 : Cond.selects RX1 yX1_thrown yX1_thrown ∈ WA := List.mem_of_getElem? (i := 115) (by decide +kernel)
theorem wm_116 : Cond.code yX1_thrown cX1_thrown 1 (some .int) ∈ WA := List.mem_of_getElem? (i := 116) (by decide +kernel)
theorem wm_117 : Cond.methodLink RL 80 yL_withdraw ∈ WA := List.mem_of_getElem? (i := 117) (by decide +kernel)
theorem wm_118 : Cond.static yL_withdraw ∈ WA := List.mem_of_getElem? (i := 118) (by decide +kernel)
theorem wm_119 : Cond.codeWith yL_withdraw cL_withdraw 4 (some .int) [(0, 9, 12, 21)] ∈ WA := List.mem_of_getElem? (i := 119) (by decide +kernel)
theorem wm_120 : Cond.classLink RL 21 "java/lang/IndexOutOfBoundsException" ∈ WA := List.mem_of_getElem? (i := 120) (by decide +kernel)
theorem wm_121 : Cond.methodLink RL 17 yX0_withdraw ∈ WA := List.mem_of_getElem? (i := 121) (by decide +kernel)
theorem wm_122 : Cond.instanceMethod yX0_withdraw ∈ WA := List.mem_of_getElem? (i := 122) (by decide +kernel)
theorem wm_123 : Cond.selects RX0 yX0_withdraw yX0_withdraw ∈ WA := List.mem_of_getElem? (i := 123) (by decide +kernel)
theorem wm_124 : Cond.code yX0_withdraw cX0_withdraw 2 (some .int) ∈ WA := List.mem_of_getElem? (i := 124) (by decide +kernel)
theorem wm_125 : Cond.classLink RX0 100 "java/lang/IndexOutOfBoundsException" ∈ WA := List.mem_of_getElem? (i := 125) (by decide +kernel)
theorem wm_126 : Cond.initialized "java/lang/IndexOutOfBoundsException" ∈ WA := List.mem_of_getElem? (i := 126) (by decide +kernel)
theorem wm_127 : Cond.methodLink RX0 96 yX0_hasRow ∈ WA := List.mem_of_getElem? (i := 127) (by decide +kernel)
theorem wm_128 : Cond.instanceMethod yX0_hasRow ∈ WA := List.mem_of_getElem? (i := 128) (by decide +kernel)
theorem wm_129 : Cond.selects RX0 yX0_hasRow yX0_hasRow ∈ WA := List.mem_of_getElem? (i := 129) (by decide +kernel)
theorem wm_130 : Cond.code yX0_hasRow cX0_hasRow 2 (some .boolean) ∈ WA := List.mem_of_getElem? (i := 130) (by decide +kernel)
theorem wm_131 : Cond.methodLink RL 83 yX1_withdraw ∈ WA := List.mem_of_getElem? (i := 131) (by decide +kernel)
theorem wm_132 : Cond.instanceMethod yX1_withdraw ∈ WA := List.mem_of_getElem? (i := 132) (by decide +kernel)
theorem wm_133 : Cond.selects RX1 yX1_withdraw yX1_withdraw ∈ WA := List.mem_of_getElem? (i := 133) (by decide +kernel)
theorem wm_134 : Cond.code yX1_withdraw cX1_withdraw 2 (some .int) ∈ WA := List.mem_of_getElem? (i := 134) (by decide +kernel)
theorem wm_135 : Cond.methodLink RX1 75 yX1_isRow ∈ WA := List.mem_of_getElem? (i := 135) (by decide +kernel)
theorem wm_136 : Cond.instanceMethod yX1_isRow ∈ WA := List.mem_of_getElem? (i := 136) (by decide +kernel)
theorem wm_137 : Cond.selects RX1 yX1_isRow yX1_isRow ∈ WA := List.mem_of_getElem? (i := 137) (by decide +kernel)
theorem wm_138 : Cond.code yX1_isRow cX1_isRow 2 (some .boolean) ∈ WA := List.mem_of_getElem? (i := 138) (by decide +kernel)
theorem wm_139 : Cond.methodLink RX1 78 yX1_count ∈ WA := List.mem_of_getElem? (i := 139) (by decide +kernel)
theorem wm_140 : Cond.instanceMethod yX1_count ∈ WA := List.mem_of_getElem? (i := 140) (by decide +kernel)
theorem wm_141 : Cond.selects RX1 yX1_count yX1_count ∈ WA := List.mem_of_getElem? (i := 141) (by decide +kernel)
theorem wm_142 : Cond.code yX1_count cX1_count 3 (some .int) ∈ WA := List.mem_of_getElem? (i := 142) (by decide +kernel)
theorem wm_143 : Cond.methodLink RL 84 yL_setOld ∈ WA := List.mem_of_getElem? (i := 143) (by decide +kernel)
theorem wm_144 : Cond.static yL_setOld ∈ WA := List.mem_of_getElem? (i := 144) (by decide +kernel)
theorem wm_145 : Cond.codeWith yL_setOld cL_setOld 5 (some .int) [(0, 10, 13, 21), (0, 10, 17, 13)] ∈ WA := List.mem_of_getElem? (i := 145) (by decide +kernel)
theorem wm_146 : Cond.methodLink RL 23 yX0_setOld ∈ WA := List.mem_of_getElem? (i := 146) (by decide +kernel)
theorem wm_147 : Cond.instanceMethod yX0_setOld ∈ WA := List.mem_of_getElem? (i := 147) (by decide +kernel)
theorem wm_148 : Cond.selects RX0 yX0_setOld yX0_setOld ∈ WA := List.mem_of_getElem? (i := 148) (by decide +kernel)
theorem wm_149 : Cond.code yX0_setOld cX0_setOld 4 (some .int) ∈ WA := List.mem_of_getElem? (i := 149) (by decide +kernel)
theorem wm_150 : Cond.constant RX0 105 (10000000) ∈ WA := List.mem_of_getElem? (i := 150) (by decide +kernel)
theorem wm_151 : Cond.methodLink RL 87 yX1_setOld ∈ WA := List.mem_of_getElem? (i := 151) (by decide +kernel)
theorem wm_152 : Cond.instanceMethod yX1_setOld ∈ WA := List.mem_of_getElem? (i := 152) (by decide +kernel)
theorem wm_153 : Cond.selects RX1 yX1_setOld yX1_setOld ∈ WA := List.mem_of_getElem? (i := 153) (by decide +kernel)
theorem wm_154 : Cond.code yX1_setOld cX1_setOld 4 (some .int) ∈ WA := List.mem_of_getElem? (i := 154) (by decide +kernel)
theorem wm_155 : Cond.constant RX1 82 (10000000) ∈ WA := List.mem_of_getElem? (i := 155) (by decide +kernel)
theorem wm_156 : Cond.methodLink RL 88 yL_setRules ∈ WA := List.mem_of_getElem? (i := 156) (by decide +kernel)
theorem wm_157 : Cond.static yL_setRules ∈ WA := List.mem_of_getElem? (i := 157) (by decide +kernel)
theorem wm_158 : Cond.codeWith yL_setRules cL_setRules 5 (some .int) [(0, 10, 13, 13)] ∈ WA := List.mem_of_getElem? (i := 158) (by decide +kernel)
theorem wm_159 : Cond.methodLink RL 27 yX0_setRules ∈ WA := List.mem_of_getElem? (i := 159) (by decide +kernel)
theorem wm_160 : Cond.instanceMethod yX0_setRules ∈ WA := List.mem_of_getElem? (i := 160) (by decide +kernel)
theorem wm_161 : Cond.selects RX0 yX0_setRules yX0_setRules ∈ WA := List.mem_of_getElem? (i := 161) (by decide +kernel)
theorem wm_162 : Cond.code yX0_setRules cX0_setRules 4 (some .int) ∈ WA := List.mem_of_getElem? (i := 162) (by decide +kernel)
theorem wm_163 : Cond.methodLink RL 90 yX1_setRules ∈ WA := List.mem_of_getElem? (i := 163) (by decide +kernel)
theorem wm_164 : Cond.instanceMethod yX1_setRules ∈ WA := List.mem_of_getElem? (i := 164) (by decide +kernel)
theorem wm_165 : Cond.selects RX1 yX1_setRules yX1_setRules ∈ WA := List.mem_of_getElem? (i := 165) (by decide +kernel)
theorem wm_166 : Cond.code yX1_setRules cX1_setRules 4 (some .int) ∈ WA := List.mem_of_getElem? (i := 166) (by decide +kernel)
theorem wm_167 : Cond.fieldLink RX1 83 "RateFitterModel" "credibility" "I" ∈ WA := List.mem_of_getElem? (i := 167) (by decide +kernel)
theorem wm_168 : Cond.methodLink RL 91 yL_setFactor ∈ WA := List.mem_of_getElem? (i := 168) (by decide +kernel)
theorem wm_169 : Cond.static yL_setFactor ∈ WA := List.mem_of_getElem? (i := 169) (by decide +kernel)
theorem wm_170 : Cond.codeWith yL_setFactor cL_setFactor 6 (some .int) [(0, 12, 15, 21), (0, 12, 19, 13)] ∈ WA := List.mem_of_getElem? (i := 170) (by decide +kernel)
theorem wm_171 : Cond.methodLink RL 30 yX0_setFactor ∈ WA := List.mem_of_getElem? (i := 171) (by decide +kernel)
theorem wm_172 : Cond.instanceMethod yX0_setFactor ∈ WA := List.mem_of_getElem? (i := 172) (by decide +kernel)
theorem wm_173 : Cond.selects RX0 yX0_setFactor yX0_setFactor ∈ WA := List.mem_of_getElem? (i := 173) (by decide +kernel)
theorem wm_174 : Cond.code yX0_setFactor cX0_setFactor 5 (some .int) ∈ WA := List.mem_of_getElem? (i := 174) (by decide +kernel)
theorem wm_175 : Cond.constant RX0 114 (100000) ∈ WA := List.mem_of_getElem? (i := 175) (by decide +kernel)
theorem wm_176 : Cond.methodLink RL 94 yX1_setFactor ∈ WA := List.mem_of_getElem? (i := 176) (by decide +kernel)
theorem wm_177 : Cond.instanceMethod yX1_setFactor ∈ WA := List.mem_of_getElem? (i := 177) (by decide +kernel)
theorem wm_178 : Cond.selects RX1 yX1_setFactor yX1_setFactor ∈ WA := List.mem_of_getElem? (i := 178) (by decide +kernel)
theorem wm_179 : Cond.code yX1_setFactor cX1_setFactor 5 (some .int) ∈ WA := List.mem_of_getElem? (i := 179) (by decide +kernel)
theorem wm_180 : Cond.constant RX1 86 (100000) ∈ WA := List.mem_of_getElem? (i := 180) (by decide +kernel)
theorem wm_181 : Cond.methodLink RL 95 yL_pass ∈ WA := List.mem_of_getElem? (i := 181) (by decide +kernel)
theorem wm_182 : Cond.static yL_pass ∈ WA := List.mem_of_getElem? (i := 182) (by decide +kernel)
theorem wm_183 : Cond.codeWith yL_pass cL_pass 4 (some .int) [(0, 9, 12, 21)] ∈ WA := List.mem_of_getElem? (i := 183) (by decide +kernel)
theorem wm_184 : Cond.methodLink RL 34 yX0_pass ∈ WA := List.mem_of_getElem? (i := 184) (by decide +kernel)
theorem wm_185 : Cond.instanceMethod yX0_pass ∈ WA := List.mem_of_getElem? (i := 185) (by decide +kernel)
theorem wm_186 : Cond.selects RX0 yX0_pass yX0_pass ∈ WA := List.mem_of_getElem? (i := 186) (by decide +kernel)
theorem wm_187 : Cond.code yX0_pass cX0_pass 2 (some .int) ∈ WA := List.mem_of_getElem? (i := 187) (by decide +kernel)
theorem wm_188 : Cond.methodLink RX0 122 yX0_passOver ∈ WA := List.mem_of_getElem? (i := 188) (by decide +kernel)
theorem wm_189 : Cond.instanceMethod yX0_passOver ∈ WA := List.mem_of_getElem? (i := 189) (by decide +kernel)
theorem wm_190 : Cond.selects RX0 yX0_passOver yX0_passOver ∈ WA := List.mem_of_getElem? (i := 190) (by decide +kernel)
theorem wm_191 : Cond.code yX0_passOver cX0_passOver 5 (some .int) ∈ WA := List.mem_of_getElem? (i := 191) (by decide +kernel)
theorem wm_192 : Cond.methodLink RX0 191 yX0_foundFactor ∈ WA := List.mem_of_getElem? (i := 192) (by decide +kernel)
theorem wm_193 : Cond.instanceMethod yX0_foundFactor ∈ WA := List.mem_of_getElem? (i := 193) (by decide +kernel)
theorem wm_194 : Cond.selects RX0 yX0_foundFactor yX0_foundFactor ∈ WA := List.mem_of_getElem? (i := 194) (by decide +kernel)
theorem wm_195 : Cond.code yX0_foundFactor cX0_foundFactor 12 (some .int) ∈ WA := List.mem_of_getElem? (i := 195) (by decide +kernel)
theorem wm_196 : Cond.constantLong RX0 195 (100) ∈ WA := List.mem_of_getElem? (i := 196) (by decide +kernel)
theorem wm_197 : Cond.constantLong RX0 197 (100000) ∈ WA := List.mem_of_getElem? (i := 197) (by decide +kernel)
theorem wm_198 : Cond.methodLink RX0 165 yX0_levelTotal ∈ WA := List.mem_of_getElem? (i := 198) (by decide +kernel)
theorem wm_199 : Cond.instanceMethod yX0_levelTotal ∈ WA := List.mem_of_getElem? (i := 199) (by decide +kernel)
theorem wm_200 : Cond.selects RX0 yX0_levelTotal yX0_levelTotal ∈ WA := List.mem_of_getElem? (i := 200) (by decide +kernel)
theorem wm_201 : Cond.code yX0_levelTotal cX0_levelTotal 7 (some .long) ∈ WA := List.mem_of_getElem? (i := 201) (by decide +kernel)
theorem wm_202 : Cond.methodLink RX0 161 yX0_bounded ∈ WA := List.mem_of_getElem? (i := 202) (by decide +kernel)
theorem wm_203 : Cond.static yX0_bounded ∈ WA := List.mem_of_getElem? (i := 203) (by decide +kernel)
theorem wm_204 : Cond.code yX0_bounded cX0_bounded 6 (some .long) ∈ WA := List.mem_of_getElem? (i := 204) (by decide +kernel)
theorem wm_205 : Cond.methodLink RX0 173 Lib.MathLoose.max_long.x ∈ WA := List.mem_of_getElem? (i := 205) (by decide +kernel)
theorem wm_206 : Cond.static Lib.MathLoose.max_long.x ∈ WA := List.mem_of_getElem? (i := 206) (by decide +kernel)
theorem wm_207 : Cond.initialized "java/lang/Math" ∈ WA := List.mem_of_getElem? (i := 207) (by decide +kernel)
theorem wm_208 : Cond.code Lib.MathLoose.max_long.x Lib.MathLoose.max_long.code 4 (some .long) ∈ WA := List.mem_of_getElem? (i := 208) (by decide +kernel)
theorem wm_209 : Cond.methodLink RX0 155 Lib.MathLoose.min_long.x ∈ WA := List.mem_of_getElem? (i := 209) (by decide +kernel)
theorem wm_210 : Cond.static Lib.MathLoose.min_long.x ∈ WA := List.mem_of_getElem? (i := 210) (by decide +kernel)
theorem wm_211 : Cond.code Lib.MathLoose.min_long.x Lib.MathLoose.min_long.code 4 (some .long) ∈ WA := List.mem_of_getElem? (i := 211) (by decide +kernel)
theorem wm_212 : Cond.methodLink RL 97 yX1_pass ∈ WA := List.mem_of_getElem? (i := 212) (by decide +kernel)
theorem wm_213 : Cond.instanceMethod yX1_pass ∈ WA := List.mem_of_getElem? (i := 213) (by decide +kernel)
theorem wm_214 : Cond.selects RX1 yX1_pass yX1_pass ∈ WA := List.mem_of_getElem? (i := 214) (by decide +kernel)
theorem wm_215 : Cond.code yX1_pass cX1_pass 2 (some .int) ∈ WA := List.mem_of_getElem? (i := 215) (by decide +kernel)
theorem wm_216 : Cond.methodLink RX1 116 yX1_passes ∈ WA := List.mem_of_getElem? (i := 216) (by decide +kernel)
theorem wm_217 : Cond.instanceMethod yX1_passes ∈ WA := List.mem_of_getElem? (i := 217) (by decide +kernel)
theorem wm_218 : Cond.selects RX1 yX1_passes yX1_passes ∈ WA := List.mem_of_getElem? (i := 218) (by decide +kernel)
theorem wm_219 : Cond.code yX1_passes cX1_passes 12 (some .int) ∈ WA := List.mem_of_getElem? (i := 219) (by decide +kernel)
theorem wm_220 : Cond.methodLink RX1 102 yX1_fittedOf ∈ WA := List.mem_of_getElem? (i := 220) (by decide +kernel)
theorem wm_221 : Cond.instanceMethod yX1_fittedOf ∈ WA := List.mem_of_getElem? (i := 221) (by decide +kernel)
theorem wm_222 : Cond.selects RX1 yX1_fittedOf yX1_fittedOf ∈ WA := List.mem_of_getElem? (i := 222) (by decide +kernel)
theorem wm_223 : Cond.code yX1_fittedOf cX1_fittedOf 8 (some .long) ∈ WA := List.mem_of_getElem? (i := 223) (by decide +kernel)
theorem wm_224 : Cond.methodLink RX1 90 yX1_baseNow ∈ WA := List.mem_of_getElem? (i := 224) (by decide +kernel)
theorem wm_225 : Cond.instanceMethod yX1_baseNow ∈ WA := List.mem_of_getElem? (i := 225) (by decide +kernel)
theorem wm_226 : Cond.selects RX1 yX1_baseNow yX1_baseNow ∈ WA := List.mem_of_getElem? (i := 226) (by decide +kernel)
theorem wm_227 : Cond.code yX1_baseNow cX1_baseNow 6 (some .long) ∈ WA := List.mem_of_getElem? (i := 227) (by decide +kernel)
theorem wm_228 : Cond.methodLink RX1 87 yX1_has ∈ WA := List.mem_of_getElem? (i := 228) (by decide +kernel)
theorem wm_229 : Cond.instanceMethod yX1_has ∈ WA := List.mem_of_getElem? (i := 229) (by decide +kernel)
theorem wm_230 : Cond.selects RX1 yX1_has yX1_has ∈ WA := List.mem_of_getElem? (i := 230) (by decide +kernel)
theorem wm_231 : Cond.code yX1_has cX1_has 4 (some .boolean) ∈ WA := List.mem_of_getElem? (i := 231) (by decide +kernel)
theorem wm_232 : Cond.methodLink RX1 94 yX1_fit ∈ WA := List.mem_of_getElem? (i := 232) (by decide +kernel)
theorem wm_233 : Cond.instanceMethod yX1_fit ∈ WA := List.mem_of_getElem? (i := 233) (by decide +kernel)
theorem wm_234 : Cond.selects RX1 yX1_fit yX1_fit ∈ WA := List.mem_of_getElem? (i := 234) (by decide +kernel)
theorem wm_235 : Cond.code yX1_fit cX1_fit 7 (some .long) ∈ WA := List.mem_of_getElem? (i := 235) (by decide +kernel)
theorem wm_236 : Cond.methodLink RX1 106 yX1_claimed ∈ WA := List.mem_of_getElem? (i := 236) (by decide +kernel)
theorem wm_237 : Cond.instanceMethod yX1_claimed ∈ WA := List.mem_of_getElem? (i := 237) (by decide +kernel)
theorem wm_238 : Cond.selects RX1 yX1_claimed yX1_claimed ∈ WA := List.mem_of_getElem? (i := 238) (by decide +kernel)
theorem wm_239 : Cond.code yX1_claimed cX1_claimed 6 (some .long) ∈ WA := List.mem_of_getElem? (i := 239) (by decide +kernel)
theorem wm_240 : Cond.methodLink RX1 109 yX1_told ∈ WA := List.mem_of_getElem? (i := 240) (by decide +kernel)
theorem wm_241 : Cond.instanceMethod yX1_told ∈ WA := List.mem_of_getElem? (i := 241) (by decide +kernel)
theorem wm_242 : Cond.selects RX1 yX1_told yX1_told ∈ WA := List.mem_of_getElem? (i := 242) (by decide +kernel)
theorem wm_243 : Cond.code yX1_told cX1_told 6 (some .long) ∈ WA := List.mem_of_getElem? (i := 243) (by decide +kernel)
theorem wm_244 : Cond.methodLink RX1 112 yX1_bounded ∈ WA := List.mem_of_getElem? (i := 244) (by decide +kernel)
theorem wm_245 : Cond.instanceMethod yX1_bounded ∈ WA := List.mem_of_getElem? (i := 245) (by decide +kernel)
theorem wm_246 : Cond.selects RX1 yX1_bounded yX1_bounded ∈ WA := List.mem_of_getElem? (i := 246) (by decide +kernel)
theorem wm_247 : Cond.code yX1_bounded cX1_bounded 3 (some .int) ∈ WA := List.mem_of_getElem? (i := 247) (by decide +kernel)
theorem wm_248 : Cond.constantLong RX1 98 (100) ∈ WA := List.mem_of_getElem? (i := 248) (by decide +kernel)
theorem wm_249 : Cond.constantLong RX1 100 (100000) ∈ WA := List.mem_of_getElem? (i := 249) (by decide +kernel)
theorem wm_250 : Cond.methodLink RL 98 yX0_settle ∈ WA := List.mem_of_getElem? (i := 250) (by decide +kernel)
theorem wm_251 : Cond.instanceMethod yX0_settle ∈ WA := List.mem_of_getElem? (i := 251) (by decide +kernel)
theorem wm_252 : Cond.selects RX0 yX0_settle yX0_settle ∈ WA := List.mem_of_getElem? (i := 252) (by decide +kernel)
theorem wm_253 : Cond.code yX0_settle cX0_settle 2 (some .int) ∈ WA := List.mem_of_getElem? (i := 253) (by decide +kernel)
theorem wm_254 : Cond.methodLink RX0 126 yX0_changedByRound ∈ WA := List.mem_of_getElem? (i := 254) (by decide +kernel)
theorem wm_255 : Cond.instanceMethod yX0_changedByRound ∈ WA := List.mem_of_getElem? (i := 255) (by decide +kernel)
theorem wm_256 : Cond.selects RX0 yX0_changedByRound yX0_changedByRound ∈ WA := List.mem_of_getElem? (i := 256) (by decide +kernel)
theorem wm_257 : Cond.code yX0_changedByRound cX0_changedByRound 3 (some .int) ∈ WA := List.mem_of_getElem? (i := 257) (by decide +kernel)
theorem wm_258 : Cond.methodLink RL 101 yX1_settle ∈ WA := List.mem_of_getElem? (i := 258) (by decide +kernel)
theorem wm_259 : Cond.instanceMethod yX1_settle ∈ WA := List.mem_of_getElem? (i := 259) (by decide +kernel)
theorem wm_260 : Cond.selects RX1 yX1_settle yX1_settle ∈ WA := List.mem_of_getElem? (i := 260) (by decide +kernel)
theorem wm_261 : Cond.code yX1_settle cX1_settle 4 (some .int) ∈ WA := List.mem_of_getElem? (i := 261) (by decide +kernel)
theorem wm_262 : Cond.methodLink RL 102 yL_smooth ∈ WA := List.mem_of_getElem? (i := 262) (by decide +kernel)
theorem wm_263 : Cond.static yL_smooth ∈ WA := List.mem_of_getElem? (i := 263) (by decide +kernel)
theorem wm_264 : Cond.codeWith yL_smooth cL_smooth 4 (some .int) [(0, 9, 12, 21)] ∈ WA := List.mem_of_getElem? (i := 264) (by decide +kernel)
theorem wm_265 : Cond.methodLink RL 37 yX0_smooth ∈ WA := List.mem_of_getElem? (i := 265) (by decide +kernel)
theorem wm_266 : Cond.instanceMethod yX0_smooth ∈ WA := List.mem_of_getElem? (i := 266) (by decide +kernel)
theorem wm_267 : Cond.selects RX0 yX0_smooth yX0_smooth ∈ WA := List.mem_of_getElem? (i := 267) (by decide +kernel)
theorem wm_268 : Cond.code yX0_smooth cX0_smooth 4 (some .int) ∈ WA := List.mem_of_getElem? (i := 268) (by decide +kernel)
theorem wm_269 : Cond.methodLink RX0 133 yX0_lowestFallingLevel ∈ WA := List.mem_of_getElem? (i := 269) (by decide +kernel)
theorem wm_270 : Cond.instanceMethod yX0_lowestFallingLevel ∈ WA := List.mem_of_getElem? (i := 270) (by decide +kernel)
theorem wm_271 : Cond.selects RX0 yX0_lowestFallingLevel yX0_lowestFallingLevel ∈ WA := List.mem_of_getElem? (i := 271) (by decide +kernel)
theorem wm_272 : Cond.code yX0_lowestFallingLevel cX0_lowestFallingLevel 3 (some .int) ∈ WA := List.mem_of_getElem? (i := 272) (by decide +kernel)
theorem wm_273 : Cond.methodLink RX0 136 yX0_joinToLevelAhead ∈ WA := List.mem_of_getElem? (i := 273) (by decide +kernel)
theorem wm_274 : Cond.instanceMethod yX0_joinToLevelAhead ∈ WA := List.mem_of_getElem? (i := 274) (by decide +kernel)
theorem wm_275 : Cond.selects RX0 yX0_joinToLevelAhead yX0_joinToLevelAhead ∈ WA := List.mem_of_getElem? (i := 275) (by decide +kernel)
theorem wm_276 : Cond.code yX0_joinToLevelAhead cX0_joinToLevelAhead 6 none ∈ WA := List.mem_of_getElem? (i := 276) (by decide +kernel)
theorem wm_277 : Cond.methodLink RX0 199 yX0_groupMean ∈ WA := List.mem_of_getElem? (i := 277) (by decide +kernel)
theorem wm_278 : Cond.instanceMethod yX0_groupMean ∈ WA := List.mem_of_getElem? (i := 278) (by decide +kernel)
theorem wm_279 : Cond.selects RX0 yX0_groupMean yX0_groupMean ∈ WA := List.mem_of_getElem? (i := 279) (by decide +kernel)
theorem wm_280 : Cond.code yX0_groupMean cX0_groupMean 13 (some .int) ∈ WA := List.mem_of_getElem? (i := 280) (by decide +kernel)
theorem wm_281 : Cond.methodLink RX0 202 Lib.Math.max.name ∈ WA := List.mem_of_getElem? (i := 281) (by decide +kernel)
theorem wm_282 : Cond.static Lib.Math.max.name ∈ WA := List.mem_of_getElem? (i := 282) (by decide +kernel)
theorem wm_283 : Cond.code Lib.Math.max.name Lib.Math.max.code 2 (some .int) ∈ WA := List.mem_of_getElem? (i := 283) (by decide +kernel)
theorem wm_284 : Cond.methodLink RX0 140 yX0_changedSinceBefore ∈ WA := List.mem_of_getElem? (i := 284) (by decide +kernel)
theorem wm_285 : Cond.instanceMethod yX0_changedSinceBefore ∈ WA := List.mem_of_getElem? (i := 285) (by decide +kernel)
theorem wm_286 : Cond.selects RX0 yX0_changedSinceBefore yX0_changedSinceBefore ∈ WA := List.mem_of_getElem? (i := 286) (by decide +kernel)
theorem wm_287 : Cond.code yX0_changedSinceBefore cX0_changedSinceBefore 4 (some .int) ∈ WA := List.mem_of_getElem? (i := 287) (by decide +kernel)
theorem wm_288 : Cond.methodLink RL 104 yX1_smooth ∈ WA := List.mem_of_getElem? (i := 288) (by decide +kernel)
theorem wm_289 : Cond.instanceMethod yX1_smooth ∈ WA := List.mem_of_getElem? (i := 289) (by decide +kernel)
theorem wm_290 : Cond.selects RX1 yX1_smooth yX1_smooth ∈ WA := List.mem_of_getElem? (i := 290) (by decide +kernel)
theorem wm_291 : Cond.code yX1_smooth cX1_smooth 4 (some .int) ∈ WA := List.mem_of_getElem? (i := 291) (by decide +kernel)
theorem wm_292 : Cond.methodLink RX1 122 yX1_lowestLess ∈ WA := List.mem_of_getElem? (i := 292) (by decide +kernel)
theorem wm_293 : Cond.instanceMethod yX1_lowestLess ∈ WA := List.mem_of_getElem? (i := 293) (by decide +kernel)
theorem wm_294 : Cond.selects RX1 yX1_lowestLess yX1_lowestLess ∈ WA := List.mem_of_getElem? (i := 294) (by decide +kernel)
theorem wm_295 : Cond.code yX1_lowestLess cX1_lowestLess 3 (some .int) ∈ WA := List.mem_of_getElem? (i := 295) (by decide +kernel)
theorem wm_296 : Cond.methodLink RX1 125 yX1_means ∈ WA := List.mem_of_getElem? (i := 296) (by decide +kernel)
theorem wm_297 : Cond.instanceMethod yX1_means ∈ WA := List.mem_of_getElem? (i := 297) (by decide +kernel)
theorem wm_298 : Cond.selects RX1 yX1_means yX1_means ∈ WA := List.mem_of_getElem? (i := 298) (by decide +kernel)
theorem wm_299 : Cond.code yX1_means cX1_means 14 none ∈ WA := List.mem_of_getElem? (i := 299) (by decide +kernel)
theorem wm_300 : Cond.methodLink RX1 119 yX1_exposed ∈ WA := List.mem_of_getElem? (i := 300) (by decide +kernel)
theorem wm_301 : Cond.instanceMethod yX1_exposed ∈ WA := List.mem_of_getElem? (i := 301) (by decide +kernel)
theorem wm_302 : Cond.selects RX1 yX1_exposed yX1_exposed ∈ WA := List.mem_of_getElem? (i := 302) (by decide +kernel)
theorem wm_303 : Cond.code yX1_exposed cX1_exposed 6 (some .long) ∈ WA := List.mem_of_getElem? (i := 303) (by decide +kernel)
theorem wm_304 : Cond.methodLink RL 105 yX0_spread ∈ WA := List.mem_of_getElem? (i := 304) (by decide +kernel)
theorem wm_305 : Cond.instanceMethod yX0_spread ∈ WA := List.mem_of_getElem? (i := 305) (by decide +kernel)
theorem wm_306 : Cond.selects RX0 yX0_spread yX0_spread ∈ WA := List.mem_of_getElem? (i := 306) (by decide +kernel)
theorem wm_307 : Cond.code yX0_spread cX0_spread 5 (some .int) ∈ WA := List.mem_of_getElem? (i := 307) (by decide +kernel)
theorem wm_308 : Cond.constantLong RX0 153 (1000000) ∈ WA := List.mem_of_getElem? (i := 308) (by decide +kernel)
theorem wm_309 : Cond.methodLink RX0 143 yX0_cappedTotal ∈ WA := List.mem_of_getElem? (i := 309) (by decide +kernel)
theorem wm_310 : Cond.instanceMethod yX0_cappedTotal ∈ WA := List.mem_of_getElem? (i := 310) (by decide +kernel)
theorem wm_311 : Cond.selects RX0 yX0_cappedTotal yX0_cappedTotal ∈ WA := List.mem_of_getElem? (i := 311) (by decide +kernel)
theorem wm_312 : Cond.code yX0_cappedTotal cX0_cappedTotal 4 (some .long) ∈ WA := List.mem_of_getElem? (i := 312) (by decide +kernel)
theorem wm_313 : Cond.methodLink RX0 180 yX0_cappedPremium ∈ WA := List.mem_of_getElem? (i := 313) (by decide +kernel)
theorem wm_314 : Cond.instanceMethod yX0_cappedPremium ∈ WA := List.mem_of_getElem? (i := 314) (by decide +kernel)
theorem wm_315 : Cond.selects RX0 yX0_cappedPremium yX0_cappedPremium ∈ WA := List.mem_of_getElem? (i := 315) (by decide +kernel)
theorem wm_316 : Cond.code yX0_cappedPremium cX0_cappedPremium 8 (some .long) ∈ WA := List.mem_of_getElem? (i := 316) (by decide +kernel)
theorem wm_317 : Cond.methodLink RX0 176 yX0_newPremium ∈ WA := List.mem_of_getElem? (i := 317) (by decide +kernel)
theorem wm_318 : Cond.instanceMethod yX0_newPremium ∈ WA := List.mem_of_getElem? (i := 318) (by decide +kernel)
theorem wm_319 : Cond.selects RX0 yX0_newPremium yX0_newPremium ∈ WA := List.mem_of_getElem? (i := 319) (by decide +kernel)
theorem wm_320 : Cond.code yX0_newPremium cX0_newPremium 2 (some .long) ∈ WA := List.mem_of_getElem? (i := 320) (by decide +kernel)
theorem wm_321 : Cond.methodLink RL 108 yX1_spread ∈ WA := List.mem_of_getElem? (i := 321) (by decide +kernel)
theorem wm_322 : Cond.instanceMethod yX1_spread ∈ WA := List.mem_of_getElem? (i := 322) (by decide +kernel)
theorem wm_323 : Cond.selects RX1 yX1_spread yX1_spread ∈ WA := List.mem_of_getElem? (i := 323) (by decide +kernel)
theorem wm_324 : Cond.code yX1_spread cX1_spread 7 (some .int) ∈ WA := List.mem_of_getElem? (i := 324) (by decide +kernel)
theorem wm_325 : Cond.constantLong RX1 142 (1000000) ∈ WA := List.mem_of_getElem? (i := 325) (by decide +kernel)
theorem wm_326 : Cond.methodLink RX1 136 yX1_allCapped ∈ WA := List.mem_of_getElem? (i := 326) (by decide +kernel)
theorem wm_327 : Cond.instanceMethod yX1_allCapped ∈ WA := List.mem_of_getElem? (i := 327) (by decide +kernel)
theorem wm_328 : Cond.selects RX1 yX1_allCapped yX1_allCapped ∈ WA := List.mem_of_getElem? (i := 328) (by decide +kernel)
theorem wm_329 : Cond.code yX1_allCapped cX1_allCapped 4 (some .long) ∈ WA := List.mem_of_getElem? (i := 329) (by decide +kernel)
theorem wm_330 : Cond.methodLink RX1 133 yX1_cappedOf ∈ WA := List.mem_of_getElem? (i := 330) (by decide +kernel)
theorem wm_331 : Cond.instanceMethod yX1_cappedOf ∈ WA := List.mem_of_getElem? (i := 331) (by decide +kernel)
theorem wm_332 : Cond.selects RX1 yX1_cappedOf yX1_cappedOf ∈ WA := List.mem_of_getElem? (i := 332) (by decide +kernel)
theorem wm_333 : Cond.code yX1_cappedOf cX1_cappedOf 8 (some .long) ∈ WA := List.mem_of_getElem? (i := 333) (by decide +kernel)
theorem wm_334 : Cond.methodLink RX1 129 yX1_premiumOf ∈ WA := List.mem_of_getElem? (i := 334) (by decide +kernel)
theorem wm_335 : Cond.instanceMethod yX1_premiumOf ∈ WA := List.mem_of_getElem? (i := 335) (by decide +kernel)
theorem wm_336 : Cond.selects RX1 yX1_premiumOf yX1_premiumOf ∈ WA := List.mem_of_getElem? (i := 336) (by decide +kernel)
theorem wm_337 : Cond.code yX1_premiumOf cX1_premiumOf 2 (some .long) ∈ WA := List.mem_of_getElem? (i := 337) (by decide +kernel)
theorem wm_338 : Cond.methodLink RX1 139 yX1_allFitted ∈ WA := List.mem_of_getElem? (i := 338) (by decide +kernel)
theorem wm_339 : Cond.instanceMethod yX1_allFitted ∈ WA := List.mem_of_getElem? (i := 339) (by decide +kernel)
theorem wm_340 : Cond.selects RX1 yX1_allFitted yX1_allFitted ∈ WA := List.mem_of_getElem? (i := 340) (by decide +kernel)
theorem wm_341 : Cond.code yX1_allFitted cX1_allFitted 6 (some .long) ∈ WA := List.mem_of_getElem? (i := 341) (by decide +kernel)
theorem wm_342 : Cond.methodLink RL 109 yX0_rows ∈ WA := List.mem_of_getElem? (i := 342) (by decide +kernel)
theorem wm_343 : Cond.instanceMethod yX0_rows ∈ WA := List.mem_of_getElem? (i := 343) (by decide +kernel)
theorem wm_344 : Cond.selects RX0 yX0_rows yX0_rows ∈ WA := List.mem_of_getElem? (i := 344) (by decide +kernel)
theorem wm_345 : Cond.code yX0_rows cX0_rows 1 (some .int) ∈ WA := List.mem_of_getElem? (i := 345) (by decide +kernel)
theorem wm_346 : Cond.methodLink RL 112 yX1_rows ∈ WA := List.mem_of_getElem? (i := 346) (by decide +kernel)
theorem wm_347 : Cond.instanceMethod yX1_rows ∈ WA := List.mem_of_getElem? (i := 347) (by decide +kernel)
theorem wm_348 : Cond.selects RX1 yX1_rows yX1_rows ∈ WA := List.mem_of_getElem? (i := 348) (by decide +kernel)
theorem wm_349 : Cond.code yX1_rows cX1_rows 1 (some .int) ∈ WA := List.mem_of_getElem? (i := 349) (by decide +kernel)
theorem wm_350 : Cond.methodLink RL 113 yX0_base ∈ WA := List.mem_of_getElem? (i := 350) (by decide +kernel)
theorem wm_351 : Cond.instanceMethod yX0_base ∈ WA := List.mem_of_getElem? (i := 351) (by decide +kernel)
theorem wm_352 : Cond.selects RX0 yX0_base yX0_base ∈ WA := List.mem_of_getElem? (i := 352) (by decide +kernel)
theorem wm_353 : Cond.code yX0_base cX0_base 1 (some .long) ∈ WA := List.mem_of_getElem? (i := 353) (by decide +kernel)
theorem wm_354 : Cond.methodLink RL 117 yX1_base ∈ WA := List.mem_of_getElem? (i := 354) (by decide +kernel)
theorem wm_355 : Cond.instanceMethod yX1_base ∈ WA := List.mem_of_getElem? (i := 355) (by decide +kernel)
theorem wm_356 : Cond.selects RX1 yX1_base yX1_base ∈ WA := List.mem_of_getElem? (i := 356) (by decide +kernel)
theorem wm_357 : Cond.code yX1_base cX1_base 1 (some .long) ∈ WA := List.mem_of_getElem? (i := 357) (by decide +kernel)
theorem wm_358 : Cond.methodLink RL 118 yL_factor ∈ WA := List.mem_of_getElem? (i := 358) (by decide +kernel)
theorem wm_359 : Cond.static yL_factor ∈ WA := List.mem_of_getElem? (i := 359) (by decide +kernel)
theorem wm_360 : Cond.codeWith yL_factor cL_factor 5 (some .int) [(0, 10, 13, 21)] ∈ WA := List.mem_of_getElem? (i := 360) (by decide +kernel)
theorem wm_361 : Cond.methodLink RL 40 yX0_factor ∈ WA := List.mem_of_getElem? (i := 361) (by decide +kernel)
theorem wm_362 : Cond.instanceMethod yX0_factor ∈ WA := List.mem_of_getElem? (i := 362) (by decide +kernel)
theorem wm_363 : Cond.selects RX0 yX0_factor yX0_factor ∈ WA := List.mem_of_getElem? (i := 363) (by decide +kernel)
theorem wm_364 : Cond.code yX0_factor cX0_factor 3 (some .int) ∈ WA := List.mem_of_getElem? (i := 364) (by decide +kernel)
theorem wm_365 : Cond.methodLink RL 120 yX1_factor ∈ WA := List.mem_of_getElem? (i := 365) (by decide +kernel)
theorem wm_366 : Cond.instanceMethod yX1_factor ∈ WA := List.mem_of_getElem? (i := 366) (by decide +kernel)
theorem wm_367 : Cond.selects RX1 yX1_factor yX1_factor ∈ WA := List.mem_of_getElem? (i := 367) (by decide +kernel)
theorem wm_368 : Cond.code yX1_factor cX1_factor 3 (some .int) ∈ WA := List.mem_of_getElem? (i := 368) (by decide +kernel)
theorem wm_369 : Cond.methodLink RL 121 yL_fitted ∈ WA := List.mem_of_getElem? (i := 369) (by decide +kernel)
theorem wm_370 : Cond.static yL_fitted ∈ WA := List.mem_of_getElem? (i := 370) (by decide +kernel)
theorem wm_371 : Cond.codeWith yL_fitted cL_fitted 4 (some .int) [(0, 8, 11, 21)] ∈ WA := List.mem_of_getElem? (i := 371) (by decide +kernel)
theorem wm_372 : Cond.methodLink RL 43 yX0_fitted ∈ WA := List.mem_of_getElem? (i := 372) (by decide +kernel)
theorem wm_373 : Cond.instanceMethod yX0_fitted ∈ WA := List.mem_of_getElem? (i := 373) (by decide +kernel)
theorem wm_374 : Cond.selects RX0 yX0_fitted yX0_fitted ∈ WA := List.mem_of_getElem? (i := 374) (by decide +kernel)
theorem wm_375 : Cond.code yX0_fitted cX0_fitted 2 (some .long) ∈ WA := List.mem_of_getElem? (i := 375) (by decide +kernel)
theorem wm_376 : Cond.methodLink RL 123 yX1_fitted ∈ WA := List.mem_of_getElem? (i := 376) (by decide +kernel)
theorem wm_377 : Cond.instanceMethod yX1_fitted ∈ WA := List.mem_of_getElem? (i := 377) (by decide +kernel)
theorem wm_378 : Cond.selects RX1 yX1_fitted yX1_fitted ∈ WA := List.mem_of_getElem? (i := 378) (by decide +kernel)
theorem wm_379 : Cond.code yX1_fitted cX1_fitted 2 (some .long) ∈ WA := List.mem_of_getElem? (i := 379) (by decide +kernel)
theorem wm_380 : Cond.methodLink RL 124 yL_toldSum ∈ WA := List.mem_of_getElem? (i := 380) (by decide +kernel)
theorem wm_381 : Cond.static yL_toldSum ∈ WA := List.mem_of_getElem? (i := 381) (by decide +kernel)
theorem wm_382 : Cond.codeWith yL_toldSum cL_toldSum 5 (some .int) [(0, 9, 12, 21)] ∈ WA := List.mem_of_getElem? (i := 382) (by decide +kernel)
theorem wm_383 : Cond.methodLink RL 47 yX0_toldSum ∈ WA := List.mem_of_getElem? (i := 383) (by decide +kernel)
theorem wm_384 : Cond.instanceMethod yX0_toldSum ∈ WA := List.mem_of_getElem? (i := 384) (by decide +kernel)
theorem wm_385 : Cond.selects RX0 yX0_toldSum yX0_toldSum ∈ WA := List.mem_of_getElem? (i := 385) (by decide +kernel)
theorem wm_386 : Cond.code yX0_toldSum cX0_toldSum 3 (some .long) ∈ WA := List.mem_of_getElem? (i := 386) (by decide +kernel)
theorem wm_387 : Cond.methodLink RL 126 yX1_toldSum ∈ WA := List.mem_of_getElem? (i := 387) (by decide +kernel)
theorem wm_388 : Cond.instanceMethod yX1_toldSum ∈ WA := List.mem_of_getElem? (i := 388) (by decide +kernel)
theorem wm_389 : Cond.selects RX1 yX1_toldSum yX1_toldSum ∈ WA := List.mem_of_getElem? (i := 389) (by decide +kernel)
theorem wm_390 : Cond.code yX1_toldSum cX1_toldSum 3 (some .long) ∈ WA := List.mem_of_getElem? (i := 390) (by decide +kernel)
theorem wm_391 : Cond.methodLink RL 127 yL_fittedSum ∈ WA := List.mem_of_getElem? (i := 391) (by decide +kernel)
theorem wm_392 : Cond.static yL_fittedSum ∈ WA := List.mem_of_getElem? (i := 392) (by decide +kernel)
theorem wm_393 : Cond.codeWith yL_fittedSum cL_fittedSum 5 (some .int) [(0, 9, 12, 21)] ∈ WA := List.mem_of_getElem? (i := 393) (by decide +kernel)
theorem wm_394 : Cond.methodLink RL 51 yX0_fittedSum ∈ WA := List.mem_of_getElem? (i := 394) (by decide +kernel)
theorem wm_395 : Cond.instanceMethod yX0_fittedSum ∈ WA := List.mem_of_getElem? (i := 395) (by decide +kernel)
theorem wm_396 : Cond.selects RX0 yX0_fittedSum yX0_fittedSum ∈ WA := List.mem_of_getElem? (i := 396) (by decide +kernel)
theorem wm_397 : Cond.code yX0_fittedSum cX0_fittedSum 3 (some .long) ∈ WA := List.mem_of_getElem? (i := 397) (by decide +kernel)
theorem wm_398 : Cond.methodLink RL 129 yX1_fittedSum ∈ WA := List.mem_of_getElem? (i := 398) (by decide +kernel)
theorem wm_399 : Cond.instanceMethod yX1_fittedSum ∈ WA := List.mem_of_getElem? (i := 399) (by decide +kernel)
theorem wm_400 : Cond.selects RX1 yX1_fittedSum yX1_fittedSum ∈ WA := List.mem_of_getElem? (i := 400) (by decide +kernel)
theorem wm_401 : Cond.code yX1_fittedSum cX1_fittedSum 3 (some .long) ∈ WA := List.mem_of_getElem? (i := 401) (by decide +kernel)
theorem wm_402 : Cond.methodLink RL 130 yL_worst ∈ WA := List.mem_of_getElem? (i := 402) (by decide +kernel)
theorem wm_403 : Cond.static yL_worst ∈ WA := List.mem_of_getElem? (i := 403) (by decide +kernel)
theorem wm_404 : Cond.codeWith yL_worst cL_worst 4 (some .int) [(0, 8, 11, 21)] ∈ WA := List.mem_of_getElem? (i := 404) (by decide +kernel)
theorem wm_405 : Cond.methodLink RL 54 yX0_worst ∈ WA := List.mem_of_getElem? (i := 405) (by decide +kernel)
theorem wm_406 : Cond.instanceMethod yX0_worst ∈ WA := List.mem_of_getElem? (i := 406) (by decide +kernel)
theorem wm_407 : Cond.selects RX0 yX0_worst yX0_worst ∈ WA := List.mem_of_getElem? (i := 407) (by decide +kernel)
theorem wm_408 : Cond.code yX0_worst cX0_worst 7 (some .long) ∈ WA := List.mem_of_getElem? (i := 408) (by decide +kernel)
theorem wm_409 : Cond.methodLink RX0 169 Lib.MathLoose.abs_long.x ∈ WA := List.mem_of_getElem? (i := 409) (by decide +kernel)
theorem wm_410 : Cond.static Lib.MathLoose.abs_long.x ∈ WA := List.mem_of_getElem? (i := 410) (by decide +kernel)
theorem wm_411 : Cond.code Lib.MathLoose.abs_long.x Lib.MathLoose.abs_long.code 2 (some .long) ∈ WA := List.mem_of_getElem? (i := 411) (by decide +kernel)
theorem wm_412 : Cond.methodLink RL 132 yX1_worst ∈ WA := List.mem_of_getElem? (i := 412) (by decide +kernel)
theorem wm_413 : Cond.instanceMethod yX1_worst ∈ WA := List.mem_of_getElem? (i := 413) (by decide +kernel)
theorem wm_414 : Cond.selects RX1 yX1_worst yX1_worst ∈ WA := List.mem_of_getElem? (i := 414) (by decide +kernel)
theorem wm_415 : Cond.code yX1_worst cX1_worst 8 (some .long) ∈ WA := List.mem_of_getElem? (i := 415) (by decide +kernel)
theorem wm_416 : Cond.methodLink RL 133 yL_premium ∈ WA := List.mem_of_getElem? (i := 416) (by decide +kernel)
theorem wm_417 : Cond.static yL_premium ∈ WA := List.mem_of_getElem? (i := 417) (by decide +kernel)
theorem wm_418 : Cond.codeWith yL_premium cL_premium 4 (some .int) [(0, 8, 11, 21)] ∈ WA := List.mem_of_getElem? (i := 418) (by decide +kernel)
theorem wm_419 : Cond.methodLink RL 57 yX0_premium ∈ WA := List.mem_of_getElem? (i := 419) (by decide +kernel)
theorem wm_420 : Cond.instanceMethod yX0_premium ∈ WA := List.mem_of_getElem? (i := 420) (by decide +kernel)
theorem wm_421 : Cond.selects RX0 yX0_premium yX0_premium ∈ WA := List.mem_of_getElem? (i := 421) (by decide +kernel)
theorem wm_422 : Cond.code yX0_premium cX0_premium 2 (some .long) ∈ WA := List.mem_of_getElem? (i := 422) (by decide +kernel)
theorem wm_423 : Cond.methodLink RL 135 yX1_premium ∈ WA := List.mem_of_getElem? (i := 423) (by decide +kernel)
theorem wm_424 : Cond.instanceMethod yX1_premium ∈ WA := List.mem_of_getElem? (i := 424) (by decide +kernel)
theorem wm_425 : Cond.selects RX1 yX1_premium yX1_premium ∈ WA := List.mem_of_getElem? (i := 425) (by decide +kernel)
theorem wm_426 : Cond.code yX1_premium cX1_premium 2 (some .long) ∈ WA := List.mem_of_getElem? (i := 426) (by decide +kernel)
theorem wm_427 : Cond.methodLink RL 136 yL_capped ∈ WA := List.mem_of_getElem? (i := 427) (by decide +kernel)
theorem wm_428 : Cond.static yL_capped ∈ WA := List.mem_of_getElem? (i := 428) (by decide +kernel)
theorem wm_429 : Cond.codeWith yL_capped cL_capped 4 (some .int) [(0, 8, 11, 21)] ∈ WA := List.mem_of_getElem? (i := 429) (by decide +kernel)
theorem wm_430 : Cond.methodLink RL 60 yX0_capped ∈ WA := List.mem_of_getElem? (i := 430) (by decide +kernel)
theorem wm_431 : Cond.instanceMethod yX0_capped ∈ WA := List.mem_of_getElem? (i := 431) (by decide +kernel)
theorem wm_432 : Cond.selects RX0 yX0_capped yX0_capped ∈ WA := List.mem_of_getElem? (i := 432) (by decide +kernel)
theorem wm_433 : Cond.code yX0_capped cX0_capped 2 (some .long) ∈ WA := List.mem_of_getElem? (i := 433) (by decide +kernel)
theorem wm_434 : Cond.methodLink RL 138 yX1_capped ∈ WA := List.mem_of_getElem? (i := 434) (by decide +kernel)
theorem wm_435 : Cond.instanceMethod yX1_capped ∈ WA := List.mem_of_getElem? (i := 435) (by decide +kernel)
theorem wm_436 : Cond.selects RX1 yX1_capped yX1_capped ∈ WA := List.mem_of_getElem? (i := 436) (by decide +kernel)
theorem wm_437 : Cond.code yX1_capped cX1_capped 2 (some .long) ∈ WA := List.mem_of_getElem? (i := 437) (by decide +kernel)
theorem wm_438 : Cond.methodLink RL 139 yX0_lost ∈ WA := List.mem_of_getElem? (i := 438) (by decide +kernel)
theorem wm_439 : Cond.instanceMethod yX0_lost ∈ WA := List.mem_of_getElem? (i := 439) (by decide +kernel)
theorem wm_440 : Cond.selects RX0 yX0_lost yX0_lost ∈ WA := List.mem_of_getElem? (i := 440) (by decide +kernel)
theorem wm_441 : Cond.code yX0_lost cX0_lost 1 (some .long) ∈ WA := List.mem_of_getElem? (i := 441) (by decide +kernel)
theorem wm_442 : Cond.methodLink RL 142 yX1_lost ∈ WA := List.mem_of_getElem? (i := 442) (by decide +kernel)
theorem wm_443 : Cond.instanceMethod yX1_lost ∈ WA := List.mem_of_getElem? (i := 443) (by decide +kernel)
theorem wm_444 : Cond.selects RX1 yX1_lost yX1_lost ∈ WA := List.mem_of_getElem? (i := 444) (by decide +kernel)
theorem wm_445 : Cond.code yX1_lost cX1_lost 1 (some .long) ∈ WA := List.mem_of_getElem? (i := 445) (by decide +kernel)
theorem wm_446 : Cond.methodLink RL 143 yL_rankedAt ∈ WA := List.mem_of_getElem? (i := 446) (by decide +kernel)
theorem wm_447 : Cond.static yL_rankedAt ∈ WA := List.mem_of_getElem? (i := 447) (by decide +kernel)
theorem wm_448 : Cond.codeWith yL_rankedAt cL_rankedAt 4 (some .int) [(0, 9, 12, 21)] ∈ WA := List.mem_of_getElem? (i := 448) (by decide +kernel)
theorem wm_449 : Cond.methodLink RL 63 yX0_rankedAt ∈ WA := List.mem_of_getElem? (i := 449) (by decide +kernel)
theorem wm_450 : Cond.instanceMethod yX0_rankedAt ∈ WA := List.mem_of_getElem? (i := 450) (by decide +kernel)
theorem wm_451 : Cond.selects RX0 yX0_rankedAt yX0_rankedAt ∈ WA := List.mem_of_getElem? (i := 451) (by decide +kernel)
theorem wm_452 : Cond.code yX0_rankedAt cX0_rankedAt 3 (some .int) ∈ WA := List.mem_of_getElem? (i := 452) (by decide +kernel)
theorem wm_453 : Cond.methodLink RX0 183 yX0_placeOf ∈ WA := List.mem_of_getElem? (i := 453) (by decide +kernel)
theorem wm_454 : Cond.instanceMethod yX0_placeOf ∈ WA := List.mem_of_getElem? (i := 454) (by decide +kernel)
theorem wm_455 : Cond.selects RX0 yX0_placeOf yX0_placeOf ∈ WA := List.mem_of_getElem? (i := 455) (by decide +kernel)
theorem wm_456 : Cond.code yX0_placeOf cX0_placeOf 4 (some .int) ∈ WA := List.mem_of_getElem? (i := 456) (by decide +kernel)
theorem wm_457 : Cond.methodLink RX0 204 yX0_isAhead ∈ WA := List.mem_of_getElem? (i := 457) (by decide +kernel)
theorem wm_458 : Cond.instanceMethod yX0_isAhead ∈ WA := List.mem_of_getElem? (i := 458) (by decide +kernel)
theorem wm_459 : Cond.selects RX0 yX0_isAhead yX0_isAhead ∈ WA := List.mem_of_getElem? (i := 459) (by decide +kernel)
theorem wm_460 : Cond.code yX0_isAhead cX0_isAhead 7 (some .boolean) ∈ WA := List.mem_of_getElem? (i := 460) (by decide +kernel)
theorem wm_461 : Cond.methodLink RL 145 yX1_rankedAt ∈ WA := List.mem_of_getElem? (i := 461) (by decide +kernel)
theorem wm_462 : Cond.instanceMethod yX1_rankedAt ∈ WA := List.mem_of_getElem? (i := 462) (by decide +kernel)
theorem wm_463 : Cond.selects RX1 yX1_rankedAt yX1_rankedAt ∈ WA := List.mem_of_getElem? (i := 463) (by decide +kernel)
theorem wm_464 : Cond.code yX1_rankedAt cX1_rankedAt 3 (some .int) ∈ WA := List.mem_of_getElem? (i := 464) (by decide +kernel)
theorem wm_465 : Cond.methodLink RX1 148 yX1_ranked ∈ WA := List.mem_of_getElem? (i := 465) (by decide +kernel)
theorem wm_466 : Cond.instanceMethod yX1_ranked ∈ WA := List.mem_of_getElem? (i := 466) (by decide +kernel)
theorem wm_467 : Cond.selects RX1 yX1_ranked yX1_ranked ∈ WA := List.mem_of_getElem? (i := 467) (by decide +kernel)
theorem wm_468 : Cond.code yX1_ranked cX1_ranked 7 (some .int) ∈ WA := List.mem_of_getElem? (i := 468) (by decide +kernel)
theorem wm_469 : Cond.methodLink RX1 144 yX1_isAhead ∈ WA := List.mem_of_getElem? (i := 469) (by decide +kernel)
theorem wm_470 : Cond.instanceMethod yX1_isAhead ∈ WA := List.mem_of_getElem? (i := 470) (by decide +kernel)
theorem wm_471 : Cond.selects RX1 yX1_isAhead yX1_isAhead ∈ WA := List.mem_of_getElem? (i := 471) (by decide +kernel)
theorem wm_472 : Cond.code yX1_isAhead cX1_isAhead 9 (some .boolean) ∈ WA := List.mem_of_getElem? (i := 472) (by decide +kernel)
abbrev gG : Type := Nat × va_G × (Nat → ClassId) × (Nat → Nat) × Nat
abbrev gS0 (g : gG) : Nat := g.1
abbrev gD (g : gG) : va_G := g.2.1
abbrev gT (g : gG) : Nat → ClassId := g.2.2.1
abbrev gA (g : gG) : Nat → Nat := g.2.2.2.1
abbrev gL (g : gG) : Nat := g.2.2.2.2
def Ab (g : gG) : Nat → Prop := fun q => gS0 g ≤ q
abbrev tysG (g : gG) : List (ClassId × FieldType) := [(gT g 0, .int), (gT g 1, .long), (gT g 2, .boolean), (gT g 3, .array .int)]
abbrev XS : Type := (Nat → Nat → Int32) × (Nat → Nat → Int32) × (Nat → Nat → Int64) × (Nat → Nat → Int32) × (Nat → Int32) × Int64
abbrev MS : Type := (Nat → Nat → Int32) × (Nat → Int32) × Int64
abbrev WS : Type := XS × MS × (Nat → Int64)
-- the class's: factors, levels of rows, long rows (0 exposures, 1 claims, 2 losses, 3 fitted), int rows (0 old, 1 live, 2 groupStarts, 3 factorsBefore), numbers (0 added, 1 live, 2 credibility, 3 cap, 4 spread), base
abbrev xFac (S : WS) : Nat → Nat → Int32 := S.1.1
abbrev xLev (S : WS) : Nat → Nat → Int32 := S.1.2.1
abbrev xLng (S : WS) : Nat → Nat → Int64 := S.1.2.2.1
abbrev xIa (S : WS) : Nat → Nat → Int32 := S.1.2.2.2.1
abbrev xSc (S : WS) : Nat → Int32 := S.1.2.2.2.2.1
abbrev xBase (S : WS) : Int64 := S.1.2.2.2.2.2
-- the reference's: int rows (0 levels, 1 exposures, 2 claims, 3 losses, 4 olds, 5 gone, 6 factors, 7 found, 8 joined), numbers (0 rows, 1 credibility, 2 cap, 3 last), spread
abbrev mIa (S : WS) : Nat → Nat → Int32 := S.2.1.1
abbrev mSc (S : WS) : Nat → Int32 := S.2.1.2.1
abbrev mSp (S : WS) : Int64 := S.2.1.2.2
abbrev wOut (S : WS) : Nat → Int64 := S.2.2
abbrev xsFac (S : WS) (t : Nat) (f : Nat → Int32) : WS := ((va_up S.1.1 t f, S.1.2), S.2)
abbrev xsLev (S : WS) (t : Nat) (f : Nat → Int32) : WS := ((S.1.1, va_up S.1.2.1 t f, S.1.2.2), S.2)
abbrev xsLng (S : WS) (t : Nat) (f : Nat → Int64) : WS := ((S.1.1, S.1.2.1, va_up S.1.2.2.1 t f, S.1.2.2.2), S.2)
abbrev xsIa (S : WS) (t : Nat) (f : Nat → Int32) : WS := ((S.1.1, S.1.2.1, S.1.2.2.1, va_up S.1.2.2.2.1 t f, S.1.2.2.2.2), S.2)
abbrev xsSc (S : WS) (t : Nat) (v : Int32) : WS := ((S.1.1, S.1.2.1, S.1.2.2.1, S.1.2.2.2.1, upd S.1.2.2.2.2.1 t v, S.1.2.2.2.2.2), S.2)
abbrev xsBase (S : WS) (v : Int64) : WS := ((S.1.1, S.1.2.1, S.1.2.2.1, S.1.2.2.2.1, S.1.2.2.2.2.1, v), S.2)
abbrev msIa (S : WS) (t : Nat) (f : Nat → Int32) : WS := (S.1, (va_up S.2.1.1 t f, S.2.1.2), S.2.2)
abbrev msSc (S : WS) (t : Nat) (v : Int32) : WS := (S.1, (S.2.1.1, upd S.2.1.2.1 t v, S.2.1.2.2), S.2.2)
abbrev msSp (S : WS) (v : Int64) : WS := (S.1, (S.2.1.1, S.2.1.2.1, v), S.2.2)
abbrev wsOut (S : WS) (f : Nat → Int64) : WS := (S.1, S.2.1, f)
def wW (g : gG) (S : WS) : va_W := [(gA g 0, .inr (0, [.ref (gA g 1), .ref (gA g 2), .ref (gA g 9), .ref (gA g 10), .ref (gA g 11), .ref (gA g 12), .ref (gA g 13), .int (xSc S 0), .int (xSc S 1), .int (xSc S 2), .int (xSc S 3), .int (xSc S 4), .long (xBase S), .ref (gA g 14), .ref (gA g 15), .ref (gA g 16)])),
  (gA g 1, .inl (gT g 3, 3, .inr (.inr (.inr (.inr (fun i => some (gA g (3 + i)))))))),
  (gA g 2, .inl (gT g 3, 3, .inr (.inr (.inr (.inr (fun i => some (gA g (6 + i)))))))),
  (gA g 3, .inl (gT g 0, 4, .inl (xFac S 0))),
  (gA g 4, .inl (gT g 0, 4, .inl (xFac S 1))),
  (gA g 5, .inl (gT g 0, 4, .inl (xFac S 2))),
  (gA g 6, .inl (gT g 0, 40, .inl (xLev S 0))),
  (gA g 7, .inl (gT g 0, 40, .inl (xLev S 1))),
  (gA g 8, .inl (gT g 0, 40, .inl (xLev S 2))),
  (gA g 9, .inl (gT g 1, 40, .inr (.inl (xLng S 0)))),
  (gA g 10, .inl (gT g 1, 40, .inr (.inl (xLng S 1)))),
  (gA g 11, .inl (gT g 1, 40, .inr (.inl (xLng S 2)))),
  (gA g 12, .inl (gT g 0, 40, .inl (xIa S 0))),
  (gA g 13, .inl (gT g 2, 40, .inl (xIa S 1))),
  (gA g 14, .inl (gT g 1, 40, .inr (.inl (xLng S 3)))),
  (gA g 15, .inl (gT g 0, 4, .inl (xIa S 2))),
  (gA g 16, .inl (gT g 0, 4, .inl (xIa S 3))),
  (gA g 17, .inr (1, [.ref (gA g 18), .ref (gA g 19), .ref (gA g 20), .ref (gA g 21), .ref (gA g 22), .ref (gA g 23), .int (mSc S 0), .int (mSc S 1), .int (mSc S 2), .long (mSp S), .ref (gA g 24), .ref (gA g 25), .ref (gA g 26), .int (mSc S 3)])),
  (gA g 18, .inl (gT g 0, 120, .inl (mIa S 0))),
  (gA g 19, .inl (gT g 0, 40, .inl (mIa S 1))),
  (gA g 20, .inl (gT g 0, 40, .inl (mIa S 2))),
  (gA g 21, .inl (gT g 0, 40, .inl (mIa S 3))),
  (gA g 22, .inl (gT g 0, 40, .inl (mIa S 4))),
  (gA g 23, .inl (gT g 2, 40, .inl (mIa S 5))),
  (gA g 24, .inl (gT g 0, 12, .inl (mIa S 6))),
  (gA g 25, .inl (gT g 0, 4, .inl (mIa S 7))),
  (gA g 26, .inl (gT g 0, 4, .inl (mIa S 8))),
  (gA g 27, .inl (gT g 1, 1, .inr (.inl (wOut S))))]
theorem wW_fst (g : gG) (S : WS) : (wW g S).map (fun q => q.1) = (List.range 28).map (gA g) := rfl
theorem wW_at {g : gG} {S : WS} {i : Nat} {q : Nat × va_E} (h : (wW g S)[i]? = some q) : i < 28 ∧ q.1 = gA g i := by
  have h1 : ((wW g S).map (fun q => q.1))[i]? = some q.1 := by rw [List.getElem?_map, h]; rfl
  rw [wW_fst, List.getElem?_map] at h1
  by_cases hi : i < 28
  · rw [List.getElem?_range hi] at h1
    exact ⟨hi, (Option.some.inj h1).symm⟩
  · rw [List.getElem?_eq_none (by rw [List.length_range]; omega)] at h1
    cases h1
def GD (g : gG) : Prop := (∀ i j : Nat, i < 28 → j < 28 → gA g i = gA g j → i = j) ∧ ∀ i : Nat, i < 28 → gS0 g ≤ gA g i
theorem wD {g : gG} (h : GD g) (S : WS) : va_D (Ab g) (wW g S) := by
  refine ⟨fun i j p q hi hj hpq => ?_, fun k q hk => ?_⟩
  · obtain ⟨h1, h2⟩ := wW_at hi
    obtain ⟨h3, h4⟩ := wW_at hj
    exact h.1 i j h1 h3 (by rw [← h2, ← h4, hpq])
  · obtain ⟨h1, h2⟩ := wW_at hk
    show gS0 g ≤ q.1
    rw [h2]
    exact h.2 k h1
def HW (g : gG) (S : WS) (H : Heap) : Prop := va_P (gD g) vwCl (wW g S) H
def strsX : List (Nat × String) := [(76, "no such level"), (86, "exposure, claims or loss out of range"), (90, "no room for another row"), (102, "no such row"), (106, "premium out of range"), (108, "credibility out of range"), (110, "cap out of range"), (112, "no such trait or level"), (115, "factor out of range"), (120, "no such trait"), (186, "no such place")]
def exsX : List String := ["java/lang/IllegalArgumentException", "java/lang/IllegalStateException", "java/lang/IndexOutOfBoundsException"]
def decX : List String := ["java/lang/RuntimeException", "java/lang/Exception", Bundle.tN]
def levN (j : Nat) : Nat := if j = 1 then 3 else 4
def KS (g : gG) (U : State) : Prop := va_K (gD g) vwCl (tysG g) U ∧ va_Z "RateFitter" "LEVELS" "[I" (.ref (gL g)) (Ab g) U U.heap ∧ va_T .int (gL g) 3 (fun j => .int (nI (levN j))) (Ab g) U U.heap ∧
  vx_Zq Bundle.tN "UNASSIGNED_STACK" Bundle.steD (Ab g) U U.heap ∧ vx_Zq Bundle.tN "SUPPRESSED_SENTINEL" Bundle.listD (Ab g) U U.heap ∧ ((∀ q ∈ strsX, ∃ sa : Nat, vk_R RX0 q.1 q.2 sa U) ∧ (∀ E ∈ exsX, va_Nw (.castable E E) U) ∧ ∀ y ∈ decX, va_Nw (.declares (Bundle.initS y)) U) ∧ GD g
theorem KS.moved {g : gG} {u U : State} (hW : u.WarmedH U.vm) (hq : ∀ a : Nat, a < u.heap.size → ¬ Ab g a → U.heap[a]? = u.heap[a]?) (h : KS g u) : KS g U := by
  obtain ⟨h1, h2, h3, h4, h5, ⟨h6, h8, h9⟩, h7⟩ := h
  refine ⟨va_K.moved hW.alike h1, va_Z.moved hW.alike (h2.kept hq), va_T.moved hW.alike (h3.kept hq), vx_Zq.moved hW.alike (h4.kept hq), vx_Zq.moved hW.alike (h5.kept hq), ⟨fun q hq9 => ?_, fun E hE => va_Nw.warmC hW (h8 E hE), fun y hy => va_Nw.warmD hW (h9 y hy)⟩, h7⟩
  obtain ⟨sa, hsa⟩ := h6 q hq9
  exact ⟨sa, vk_R.warm hW hsa⟩
def PW (g : gG) (S : WS) (av : List Value) : Array Value → State → Prop := fun v U => v = av.toArray ∧ KS g U ∧ HW g S U.heap
theorem PW.blind (g : gG) (S : WS) (av : List Value) : FrameBlind (PW g S av) := fun a U gg mk h => ⟨h.1, KS.moved (u := U) (U := U.calling gg mk a) (State.WarmedH.refl U) (fun _ _ _ => rfl) h.2.1, h.2.2⟩
def RQ (v : Option Value) : Array Value → State → Outcome → State → Prop := fun _ st o t => o = .returned v ∧ t.heap = st.heap
def WQ (g : gG) (S' : WS) (v : Option Value) : Array Value → State → Outcome → State → Prop := fun _ st o t => o = .returned v ∧ HW g S' t.heap ∧ va_F (Ab g) st t
def CW (g : gG) (own : String) (p : Program) (s : State) (m : MethodId) (args : Array Value) : Prop := p.tables.exec = Jvm.exec ∧ s.vm.findClass own = some m.cls ∧ (∀ w ∈ WA, w.before args s = true) ∧ KS g s
def bI (b : Bool) : Int32 := if b then 1 else 0
theorem bI_t : bI true = 1 := rfl
theorem bI_f : bI false = 0 := rfl
theorem bI_0 (b : Bool) : bI b = 0 ↔ b = false := by cases b <;> decide
theorem bI_nar (b : Bool) : narrow .boolean (.int (bI b)) = .int (bI b) := by cases b <;> decide +kernel
def tN (i : Int32) : Nat := i.toNatClampNeg
def xRef (g : gG) : Value := .ref (gA g 0)
def mRef (g : gG) : Value := .ref (gA g 17)
theorem lc_ge_iff {x y : Int64} : 0 ≤ lg_cmp x y ↔ y ≤ x := lg_cmp_ge x y
theorem lc_le_iff {x y : Int64} : lg_cmp x y ≤ 0 ↔ x ≤ y := lg_cmp_le x y
theorem lc_gt_iff {x y : Int64} : 0 < lg_cmp x y ↔ y < x := lg_cmp_gt x y
theorem lc_lt_iff {x y : Int64} : lg_cmp x y < 0 ↔ x < y := lg_cmp_lt x y
theorem lc_eq_iff {x y : Int64} : lg_cmp x y = 0 ↔ x = y := by
  unfold lg_cmp
  by_cases h : x > y
  · rw [if_pos h]
    exact ⟨fun q => absurd q (by decide), fun q => absurd h (by rw [q]; exact Int64.lt_irrefl)⟩
  · rw [if_neg h]
    by_cases h2 : x = y
    · rw [if_pos h2]; exact ⟨fun _ => h2, fun _ => rfl⟩
    · rw [if_neg h2]; exact ⟨fun q => absurd q (by decide), fun q => absurd q h2⟩
theorem lc_ne_iff {x y : Int64} : ¬ lg_cmp x y = 0 ↔ ¬ x = y := not_congr lc_eq_iff
section WROWS
variable {p : Program} {l : Launch} {e : Env} {R : Room} {s : State} {m : MethodId} {args : Array Value} {below : List Frame} {meth : Method} {c : Code} {H : Heap} {locs : List Loc} {cells slots : Nat} {Q : State → Prop}
variable {cc : ByteArray} {pc : Nat} {ls : Array Slot} {rest : List Value} {g : gG} {S : WS} {own : String}
theorem KS.at (C : CW g own p s m args) (hS : va_S (Ab g) s.heap H locs) {U : State} (hU : U.heap = H) (hW : s.WarmedH U.vm) : KS g U :=
  KS.moved hW (fun a h1 h2 => by rw [hU]; exact hS.2.1 a h1 h2) C.2.2.2
theorem gX_factors (C : CW g RX0 p s m args) (hb : c.code = cc) (hP : HW g S H) (hdg : decode cc pc = .ok (.getfield 11, 3)) (kk : W p l e R s m args below meth c H locs cells slots Q (F0 m (pc + 3) ls (.ref (gA g 1) :: rest))) : W p l e R s m args below meth c H locs cells slots Q (F0 m (pc) ls (.ref (gA g 0) :: rest)) :=
  va_get (D := gD g) (ci := 0) (v := .ref (gA g 1)) (C := RX0) (T := TX0) (N := 16) C.1 hb C.2.2.1 inlX0 C.2.1 C.2.2.2.1 hP 0 rfl rfl 0 (by decide) (C.2.2.1 _ wm_15) (fun _ h9 => h9) rfl hdg kk
theorem gX_rowLevels (C : CW g RX0 p s m args) (hb : c.code = cc) (hP : HW g S H) (hdg : decode cc pc = .ok (.getfield 14, 3)) (kk : W p l e R s m args below meth c H locs cells slots Q (F0 m (pc + 3) ls (.ref (gA g 2) :: rest))) : W p l e R s m args below meth c H locs cells slots Q (F0 m (pc) ls (.ref (gA g 0) :: rest)) :=
  va_get (D := gD g) (ci := 0) (v := .ref (gA g 2)) (C := RX0) (T := TX0) (N := 16) C.1 hb C.2.2.1 inlX0 C.2.1 C.2.2.2.1 hP 0 rfl rfl 1 (by decide) (C.2.2.1 _ wm_16) (fun _ h9 => h9) rfl hdg kk
theorem gX_exposures (C : CW g RX0 p s m args) (hb : c.code = cc) (hP : HW g S H) (hdg : decode cc pc = .ok (.getfield 17, 3)) (kk : W p l e R s m args below meth c H locs cells slots Q (F0 m (pc + 3) ls (.ref (gA g 9) :: rest))) : W p l e R s m args below meth c H locs cells slots Q (F0 m (pc) ls (.ref (gA g 0) :: rest)) :=
  va_get (D := gD g) (ci := 0) (v := .ref (gA g 9)) (C := RX0) (T := TX0) (N := 16) C.1 hb C.2.2.1 inlX0 C.2.1 C.2.2.2.1 hP 0 rfl rfl 2 (by decide) (C.2.2.1 _ wm_17) (fun _ h9 => h9) rfl hdg kk
theorem gX_claims (C : CW g RX0 p s m args) (hb : c.code = cc) (hP : HW g S H) (hdg : decode cc pc = .ok (.getfield 21, 3)) (kk : W p l e R s m args below meth c H locs cells slots Q (F0 m (pc + 3) ls (.ref (gA g 10) :: rest))) : W p l e R s m args below meth c H locs cells slots Q (F0 m (pc) ls (.ref (gA g 0) :: rest)) :=
  va_get (D := gD g) (ci := 0) (v := .ref (gA g 10)) (C := RX0) (T := TX0) (N := 16) C.1 hb C.2.2.1 inlX0 C.2.1 C.2.2.2.1 hP 0 rfl rfl 3 (by decide) (C.2.2.1 _ wm_18) (fun _ h9 => h9) rfl hdg kk
theorem gX_losses (C : CW g RX0 p s m args) (hb : c.code = cc) (hP : HW g S H) (hdg : decode cc pc = .ok (.getfield 24, 3)) (kk : W p l e R s m args below meth c H locs cells slots Q (F0 m (pc + 3) ls (.ref (gA g 11) :: rest))) : W p l e R s m args below meth c H locs cells slots Q (F0 m (pc) ls (.ref (gA g 0) :: rest)) :=
  va_get (D := gD g) (ci := 0) (v := .ref (gA g 11)) (C := RX0) (T := TX0) (N := 16) C.1 hb C.2.2.1 inlX0 C.2.1 C.2.2.2.1 hP 0 rfl rfl 4 (by decide) (C.2.2.1 _ wm_19) (fun _ h9 => h9) rfl hdg kk
theorem gX_oldPremiums (C : CW g RX0 p s m args) (hb : c.code = cc) (hP : HW g S H) (hdg : decode cc pc = .ok (.getfield 27, 3)) (kk : W p l e R s m args below meth c H locs cells slots Q (F0 m (pc + 3) ls (.ref (gA g 12) :: rest))) : W p l e R s m args below meth c H locs cells slots Q (F0 m (pc) ls (.ref (gA g 0) :: rest)) :=
  va_get (D := gD g) (ci := 0) (v := .ref (gA g 12)) (C := RX0) (T := TX0) (N := 16) C.1 hb C.2.2.1 inlX0 C.2.1 C.2.2.2.1 hP 0 rfl rfl 5 (by decide) (C.2.2.1 _ wm_20) (fun _ h9 => h9) rfl hdg kk
theorem gX_live (C : CW g RX0 p s m args) (hb : c.code = cc) (hP : HW g S H) (hdg : decode cc pc = .ok (.getfield 31, 3)) (kk : W p l e R s m args below meth c H locs cells slots Q (F0 m (pc + 3) ls (.ref (gA g 13) :: rest))) : W p l e R s m args below meth c H locs cells slots Q (F0 m (pc) ls (.ref (gA g 0) :: rest)) :=
  va_get (D := gD g) (ci := 0) (v := .ref (gA g 13)) (C := RX0) (T := TX0) (N := 16) C.1 hb C.2.2.1 inlX0 C.2.1 C.2.2.2.1 hP 0 rfl rfl 6 (by decide) (C.2.2.1 _ wm_22) (fun _ h9 => h9) rfl hdg kk
theorem gX_addedRows (C : CW g RX0 p s m args) (hb : c.code = cc) (hP : HW g S H) (hdg : decode cc pc = .ok (.getfield 35, 3)) (kk : W p l e R s m args below meth c H locs cells slots Q (F0 m (pc + 3) ls (.int (xSc S 0) :: rest))) : W p l e R s m args below meth c H locs cells slots Q (F0 m (pc) ls (.ref (gA g 0) :: rest)) :=
  va_get (D := gD g) (ci := 0) (v := .int (xSc S 0)) (C := RX0) (T := TX0) (N := 16) C.1 hb C.2.2.1 inlX0 C.2.1 C.2.2.2.1 hP 0 rfl rfl 7 (by decide) (C.2.2.1 _ wm_23) (fun _ h9 => h9) rfl hdg kk
theorem pX_addedRows (C : CW g RX0 p s m args) (hb : c.code = cc) (hP : HW g S H) (hS : va_S (Ab g) s.heap H locs) {x : Int32} (hdg : decode cc pc = .ok (.putfield 35, 3)) (kk : ∀ (H1 : Heap) (locs1 : List Loc), HW g (xsSc S 0 x) H1 → va_S (Ab g) s.heap H1 locs1 → W p l e R s m args below meth c H1 locs1 cells slots Q (F0 m (pc + 3) ls rest)) : W p l e R s m args below meth c H locs cells slots Q (F0 m (pc) ls (.int x :: .ref (gA g 0) :: rest)) :=
  va_put (D := gD g) (ci := 0) (v := .int x) (ty := .int) (C := RX0) (T := TX0) (N := 16) C.1 hb C.2.2.1 inlX0 tyX0 tyX0_ok nmX0 C.2.1 C.2.2.2.1 hP (wD C.2.2.2.2.2.2.2.2.2 S) hS 0 rfl rfl 7 (by decide) (C.2.2.1 _ wm_23) (fun _ h9 => h9) rfl (by decide +kernel) rfl rfl (Nat.le_of_ble_eq_true rfl) hdg (fun H1 locs1 hP1 _ hS1 => kk H1 locs1 hP1 hS1)
theorem gX_liveRows (C : CW g RX0 p s m args) (hb : c.code = cc) (hP : HW g S H) (hdg : decode cc pc = .ok (.getfield 39, 3)) (kk : W p l e R s m args below meth c H locs cells slots Q (F0 m (pc + 3) ls (.int (xSc S 1) :: rest))) : W p l e R s m args below meth c H locs cells slots Q (F0 m (pc) ls (.ref (gA g 0) :: rest)) :=
  va_get (D := gD g) (ci := 0) (v := .int (xSc S 1)) (C := RX0) (T := TX0) (N := 16) C.1 hb C.2.2.1 inlX0 C.2.1 C.2.2.2.1 hP 0 rfl rfl 8 (by decide) (C.2.2.1 _ wm_24) (fun _ h9 => h9) rfl hdg kk
theorem pX_liveRows (C : CW g RX0 p s m args) (hb : c.code = cc) (hP : HW g S H) (hS : va_S (Ab g) s.heap H locs) {x : Int32} (hdg : decode cc pc = .ok (.putfield 39, 3)) (kk : ∀ (H1 : Heap) (locs1 : List Loc), HW g (xsSc S 1 x) H1 → va_S (Ab g) s.heap H1 locs1 → W p l e R s m args below meth c H1 locs1 cells slots Q (F0 m (pc + 3) ls rest)) : W p l e R s m args below meth c H locs cells slots Q (F0 m (pc) ls (.int x :: .ref (gA g 0) :: rest)) :=
  va_put (D := gD g) (ci := 0) (v := .int x) (ty := .int) (C := RX0) (T := TX0) (N := 16) C.1 hb C.2.2.1 inlX0 tyX0 tyX0_ok nmX0 C.2.1 C.2.2.2.1 hP (wD C.2.2.2.2.2.2.2.2.2 S) hS 0 rfl rfl 8 (by decide) (C.2.2.1 _ wm_24) (fun _ h9 => h9) rfl (by decide +kernel) rfl rfl (Nat.le_of_ble_eq_true rfl) hdg (fun H1 locs1 hP1 _ hS1 => kk H1 locs1 hP1 hS1)
theorem gX_credibility (C : CW g RX0 p s m args) (hb : c.code = cc) (hP : HW g S H) (hdg : decode cc pc = .ok (.getfield 42, 3)) (kk : W p l e R s m args below meth c H locs cells slots Q (F0 m (pc + 3) ls (.int (xSc S 2) :: rest))) : W p l e R s m args below meth c H locs cells slots Q (F0 m (pc) ls (.ref (gA g 0) :: rest)) :=
  va_get (D := gD g) (ci := 0) (v := .int (xSc S 2)) (C := RX0) (T := TX0) (N := 16) C.1 hb C.2.2.1 inlX0 C.2.1 C.2.2.2.1 hP 0 rfl rfl 9 (by decide) (C.2.2.1 _ wm_25) (fun _ h9 => h9) rfl hdg kk
theorem pX_credibility (C : CW g RX0 p s m args) (hb : c.code = cc) (hP : HW g S H) (hS : va_S (Ab g) s.heap H locs) {x : Int32} (hdg : decode cc pc = .ok (.putfield 42, 3)) (kk : ∀ (H1 : Heap) (locs1 : List Loc), HW g (xsSc S 2 x) H1 → va_S (Ab g) s.heap H1 locs1 → W p l e R s m args below meth c H1 locs1 cells slots Q (F0 m (pc + 3) ls rest)) : W p l e R s m args below meth c H locs cells slots Q (F0 m (pc) ls (.int x :: .ref (gA g 0) :: rest)) :=
  va_put (D := gD g) (ci := 0) (v := .int x) (ty := .int) (C := RX0) (T := TX0) (N := 16) C.1 hb C.2.2.1 inlX0 tyX0 tyX0_ok nmX0 C.2.1 C.2.2.2.1 hP (wD C.2.2.2.2.2.2.2.2.2 S) hS 0 rfl rfl 9 (by decide) (C.2.2.1 _ wm_25) (fun _ h9 => h9) rfl (by decide +kernel) rfl rfl (Nat.le_of_ble_eq_true rfl) hdg (fun H1 locs1 hP1 _ hS1 => kk H1 locs1 hP1 hS1)
theorem gX_cap (C : CW g RX0 p s m args) (hb : c.code = cc) (hP : HW g S H) (hdg : decode cc pc = .ok (.getfield 45, 3)) (kk : W p l e R s m args below meth c H locs cells slots Q (F0 m (pc + 3) ls (.int (xSc S 3) :: rest))) : W p l e R s m args below meth c H locs cells slots Q (F0 m (pc) ls (.ref (gA g 0) :: rest)) :=
  va_get (D := gD g) (ci := 0) (v := .int (xSc S 3)) (C := RX0) (T := TX0) (N := 16) C.1 hb C.2.2.1 inlX0 C.2.1 C.2.2.2.1 hP 0 rfl rfl 10 (by decide) (C.2.2.1 _ wm_26) (fun _ h9 => h9) rfl hdg kk
theorem pX_cap (C : CW g RX0 p s m args) (hb : c.code = cc) (hP : HW g S H) (hS : va_S (Ab g) s.heap H locs) {x : Int32} (hdg : decode cc pc = .ok (.putfield 45, 3)) (kk : ∀ (H1 : Heap) (locs1 : List Loc), HW g (xsSc S 3 x) H1 → va_S (Ab g) s.heap H1 locs1 → W p l e R s m args below meth c H1 locs1 cells slots Q (F0 m (pc + 3) ls rest)) : W p l e R s m args below meth c H locs cells slots Q (F0 m (pc) ls (.int x :: .ref (gA g 0) :: rest)) :=
  va_put (D := gD g) (ci := 0) (v := .int x) (ty := .int) (C := RX0) (T := TX0) (N := 16) C.1 hb C.2.2.1 inlX0 tyX0 tyX0_ok nmX0 C.2.1 C.2.2.2.1 hP (wD C.2.2.2.2.2.2.2.2.2 S) hS 0 rfl rfl 10 (by decide) (C.2.2.1 _ wm_26) (fun _ h9 => h9) rfl (by decide +kernel) rfl rfl (Nat.le_of_ble_eq_true rfl) hdg (fun H1 locs1 hP1 _ hS1 => kk H1 locs1 hP1 hS1)
theorem gX_spreadNow (C : CW g RX0 p s m args) (hb : c.code = cc) (hP : HW g S H) (hdg : decode cc pc = .ok (.getfield 48, 3)) (kk : W p l e R s m args below meth c H locs cells slots Q (F0 m (pc + 3) ls (.int (xSc S 4) :: rest))) : W p l e R s m args below meth c H locs cells slots Q (F0 m (pc) ls (.ref (gA g 0) :: rest)) :=
  va_get (D := gD g) (ci := 0) (v := .int (xSc S 4)) (C := RX0) (T := TX0) (N := 16) C.1 hb C.2.2.1 inlX0 C.2.1 C.2.2.2.1 hP 0 rfl rfl 11 (by decide) (C.2.2.1 _ wm_27) (fun _ h9 => h9) rfl hdg kk
theorem pX_spreadNow (C : CW g RX0 p s m args) (hb : c.code = cc) (hP : HW g S H) (hS : va_S (Ab g) s.heap H locs) {x : Int32} (hdg : decode cc pc = .ok (.putfield 48, 3)) (kk : ∀ (H1 : Heap) (locs1 : List Loc), HW g (xsSc S 4 x) H1 → va_S (Ab g) s.heap H1 locs1 → W p l e R s m args below meth c H1 locs1 cells slots Q (F0 m (pc + 3) ls rest)) : W p l e R s m args below meth c H locs cells slots Q (F0 m (pc) ls (.int x :: .ref (gA g 0) :: rest)) :=
  va_put (D := gD g) (ci := 0) (v := .int x) (ty := .int) (C := RX0) (T := TX0) (N := 16) C.1 hb C.2.2.1 inlX0 tyX0 tyX0_ok nmX0 C.2.1 C.2.2.2.1 hP (wD C.2.2.2.2.2.2.2.2.2 S) hS 0 rfl rfl 11 (by decide) (C.2.2.1 _ wm_27) (fun _ h9 => h9) rfl (by decide +kernel) rfl rfl (Nat.le_of_ble_eq_true rfl) hdg (fun H1 locs1 hP1 _ hS1 => kk H1 locs1 hP1 hS1)
theorem gX_baseNow (C : CW g RX0 p s m args) (hb : c.code = cc) (hP : HW g S H) (hdg : decode cc pc = .ok (.getfield 51, 3)) (kk : W p l e R s m args below meth c H locs cells slots Q (F0 m (pc + 3) ls (.long (xBase S) :: rest))) : W p l e R s m args below meth c H locs cells slots Q (F0 m (pc) ls (.ref (gA g 0) :: rest)) :=
  va_get (D := gD g) (ci := 0) (v := .long (xBase S)) (C := RX0) (T := TX0) (N := 16) C.1 hb C.2.2.1 inlX0 C.2.1 C.2.2.2.1 hP 0 rfl rfl 12 (by decide) (C.2.2.1 _ wm_28) (fun _ h9 => h9) rfl hdg kk
theorem pX_baseNow (C : CW g RX0 p s m args) (hb : c.code = cc) (hP : HW g S H) (hS : va_S (Ab g) s.heap H locs) {x : Int64} (hdg : decode cc pc = .ok (.putfield 51, 3)) (kk : ∀ (H1 : Heap) (locs1 : List Loc), HW g (xsBase S x) H1 → va_S (Ab g) s.heap H1 locs1 → W p l e R s m args below meth c H1 locs1 cells slots Q (F0 m (pc + 3) ls rest)) : W p l e R s m args below meth c H locs cells slots Q (F0 m (pc) ls (.long x :: .ref (gA g 0) :: rest)) :=
  va_put (D := gD g) (ci := 0) (v := .long x) (ty := .long) (C := RX0) (T := TX0) (N := 16) C.1 hb C.2.2.1 inlX0 tyX0 tyX0_ok nmX0 C.2.1 C.2.2.2.1 hP (wD C.2.2.2.2.2.2.2.2.2 S) hS 0 rfl rfl 12 (by decide) (C.2.2.1 _ wm_28) (fun _ h9 => h9) rfl (by decide +kernel) rfl rfl (Nat.le_of_ble_eq_true rfl) hdg (fun H1 locs1 hP1 _ hS1 => kk H1 locs1 hP1 hS1)
theorem gX_fittedLosses (C : CW g RX0 p s m args) (hb : c.code = cc) (hP : HW g S H) (hdg : decode cc pc = .ok (.getfield 55, 3)) (kk : W p l e R s m args below meth c H locs cells slots Q (F0 m (pc + 3) ls (.ref (gA g 14) :: rest))) : W p l e R s m args below meth c H locs cells slots Q (F0 m (pc) ls (.ref (gA g 0) :: rest)) :=
  va_get (D := gD g) (ci := 0) (v := .ref (gA g 14)) (C := RX0) (T := TX0) (N := 16) C.1 hb C.2.2.1 inlX0 C.2.1 C.2.2.2.1 hP 0 rfl rfl 13 (by decide) (C.2.2.1 _ wm_29) (fun _ h9 => h9) rfl hdg kk
theorem gX_groupStarts (C : CW g RX0 p s m args) (hb : c.code = cc) (hP : HW g S H) (hdg : decode cc pc = .ok (.getfield 58, 3)) (kk : W p l e R s m args below meth c H locs cells slots Q (F0 m (pc + 3) ls (.ref (gA g 15) :: rest))) : W p l e R s m args below meth c H locs cells slots Q (F0 m (pc) ls (.ref (gA g 0) :: rest)) :=
  va_get (D := gD g) (ci := 0) (v := .ref (gA g 15)) (C := RX0) (T := TX0) (N := 16) C.1 hb C.2.2.1 inlX0 C.2.1 C.2.2.2.1 hP 0 rfl rfl 14 (by decide) (C.2.2.1 _ wm_30) (fun _ h9 => h9) rfl hdg kk
theorem gX_factorsBefore (C : CW g RX0 p s m args) (hb : c.code = cc) (hP : HW g S H) (hdg : decode cc pc = .ok (.getfield 61, 3)) (kk : W p l e R s m args below meth c H locs cells slots Q (F0 m (pc + 3) ls (.ref (gA g 16) :: rest))) : W p l e R s m args below meth c H locs cells slots Q (F0 m (pc) ls (.ref (gA g 0) :: rest)) :=
  va_get (D := gD g) (ci := 0) (v := .ref (gA g 16)) (C := RX0) (T := TX0) (N := 16) C.1 hb C.2.2.1 inlX0 C.2.1 C.2.2.2.1 hP 0 rfl rfl 15 (by decide) (C.2.2.1 _ wm_31) (fun _ h9 => h9) rfl hdg kk
theorem gM_levels (C : CW g RX1 p s m args) (hb : c.code = cc) (hP : HW g S H) (hdg : decode cc pc = .ok (.getfield 7, 3)) (kk : W p l e R s m args below meth c H locs cells slots Q (F0 m (pc + 3) ls (.ref (gA g 18) :: rest))) : W p l e R s m args below meth c H locs cells slots Q (F0 m (pc) ls (.ref (gA g 17) :: rest)) :=
  va_get (D := gD g) (ci := 1) (v := .ref (gA g 18)) (C := RX1) (T := TX1) (N := 14) C.1 hb C.2.2.1 inlX1 C.2.1 C.2.2.2.1 hP 17 rfl rfl 0 (by decide) (C.2.2.1 _ wm_40) (fun _ h9 => h9) rfl hdg kk
theorem gM_exposures (C : CW g RX1 p s m args) (hb : c.code = cc) (hP : HW g S H) (hdg : decode cc pc = .ok (.getfield 13, 3)) (kk : W p l e R s m args below meth c H locs cells slots Q (F0 m (pc + 3) ls (.ref (gA g 19) :: rest))) : W p l e R s m args below meth c H locs cells slots Q (F0 m (pc) ls (.ref (gA g 17) :: rest)) :=
  va_get (D := gD g) (ci := 1) (v := .ref (gA g 19)) (C := RX1) (T := TX1) (N := 14) C.1 hb C.2.2.1 inlX1 C.2.1 C.2.2.2.1 hP 17 rfl rfl 1 (by decide) (C.2.2.1 _ wm_41) (fun _ h9 => h9) rfl hdg kk
theorem gM_claims (C : CW g RX1 p s m args) (hb : c.code = cc) (hP : HW g S H) (hdg : decode cc pc = .ok (.getfield 16, 3)) (kk : W p l e R s m args below meth c H locs cells slots Q (F0 m (pc + 3) ls (.ref (gA g 20) :: rest))) : W p l e R s m args below meth c H locs cells slots Q (F0 m (pc) ls (.ref (gA g 17) :: rest)) :=
  va_get (D := gD g) (ci := 1) (v := .ref (gA g 20)) (C := RX1) (T := TX1) (N := 14) C.1 hb C.2.2.1 inlX1 C.2.1 C.2.2.2.1 hP 17 rfl rfl 2 (by decide) (C.2.2.1 _ wm_42) (fun _ h9 => h9) rfl hdg kk
theorem gM_losses (C : CW g RX1 p s m args) (hb : c.code = cc) (hP : HW g S H) (hdg : decode cc pc = .ok (.getfield 19, 3)) (kk : W p l e R s m args below meth c H locs cells slots Q (F0 m (pc + 3) ls (.ref (gA g 21) :: rest))) : W p l e R s m args below meth c H locs cells slots Q (F0 m (pc) ls (.ref (gA g 17) :: rest)) :=
  va_get (D := gD g) (ci := 1) (v := .ref (gA g 21)) (C := RX1) (T := TX1) (N := 14) C.1 hb C.2.2.1 inlX1 C.2.1 C.2.2.2.1 hP 17 rfl rfl 3 (by decide) (C.2.2.1 _ wm_43) (fun _ h9 => h9) rfl hdg kk
theorem gM_olds (C : CW g RX1 p s m args) (hb : c.code = cc) (hP : HW g S H) (hdg : decode cc pc = .ok (.getfield 22, 3)) (kk : W p l e R s m args below meth c H locs cells slots Q (F0 m (pc + 3) ls (.ref (gA g 22) :: rest))) : W p l e R s m args below meth c H locs cells slots Q (F0 m (pc) ls (.ref (gA g 17) :: rest)) :=
  va_get (D := gD g) (ci := 1) (v := .ref (gA g 22)) (C := RX1) (T := TX1) (N := 14) C.1 hb C.2.2.1 inlX1 C.2.1 C.2.2.2.1 hP 17 rfl rfl 4 (by decide) (C.2.2.1 _ wm_44) (fun _ h9 => h9) rfl hdg kk
theorem gM_gone (C : CW g RX1 p s m args) (hb : c.code = cc) (hP : HW g S H) (hdg : decode cc pc = .ok (.getfield 25, 3)) (kk : W p l e R s m args below meth c H locs cells slots Q (F0 m (pc + 3) ls (.ref (gA g 23) :: rest))) : W p l e R s m args below meth c H locs cells slots Q (F0 m (pc) ls (.ref (gA g 17) :: rest)) :=
  va_get (D := gD g) (ci := 1) (v := .ref (gA g 23)) (C := RX1) (T := TX1) (N := 14) C.1 hb C.2.2.1 inlX1 C.2.1 C.2.2.2.1 hP 17 rfl rfl 5 (by decide) (C.2.2.1 _ wm_45) (fun _ h9 => h9) rfl hdg kk
theorem gM_rows (C : CW g RX1 p s m args) (hb : c.code = cc) (hP : HW g S H) (hdg : decode cc pc = .ok (.getfield 63, 3)) (kk : W p l e R s m args below meth c H locs cells slots Q (F0 m (pc + 3) ls (.int (mSc S 0) :: rest))) : W p l e R s m args below meth c H locs cells slots Q (F0 m (pc) ls (.ref (gA g 17) :: rest)) :=
  va_get (D := gD g) (ci := 1) (v := .int (mSc S 0)) (C := RX1) (T := TX1) (N := 14) C.1 hb C.2.2.1 inlX1 C.2.1 C.2.2.2.1 hP 17 rfl rfl 6 (by decide) (C.2.2.1 _ wm_95) (fun _ h9 => h9) rfl hdg kk
theorem pM_rows (C : CW g RX1 p s m args) (hb : c.code = cc) (hP : HW g S H) (hS : va_S (Ab g) s.heap H locs) {x : Int32} (hdg : decode cc pc = .ok (.putfield 63, 3)) (kk : ∀ (H1 : Heap) (locs1 : List Loc), HW g (msSc S 0 x) H1 → va_S (Ab g) s.heap H1 locs1 → W p l e R s m args below meth c H1 locs1 cells slots Q (F0 m (pc + 3) ls rest)) : W p l e R s m args below meth c H locs cells slots Q (F0 m (pc) ls (.int x :: .ref (gA g 17) :: rest)) :=
  va_put (D := gD g) (ci := 1) (v := .int x) (ty := .int) (C := RX1) (T := TX1) (N := 14) C.1 hb C.2.2.1 inlX1 tyX1 tyX1_ok nmX1 C.2.1 C.2.2.2.1 hP (wD C.2.2.2.2.2.2.2.2.2 S) hS 17 rfl rfl 6 (by decide) (C.2.2.1 _ wm_95) (fun _ h9 => h9) rfl (by decide +kernel) rfl rfl (Nat.le_of_ble_eq_true rfl) hdg (fun H1 locs1 hP1 _ hS1 => kk H1 locs1 hP1 hS1)
theorem gM_credibility (C : CW g RX1 p s m args) (hb : c.code = cc) (hP : HW g S H) (hdg : decode cc pc = .ok (.getfield 83, 3)) (kk : W p l e R s m args below meth c H locs cells slots Q (F0 m (pc + 3) ls (.int (mSc S 1) :: rest))) : W p l e R s m args below meth c H locs cells slots Q (F0 m (pc) ls (.ref (gA g 17) :: rest)) :=
  va_get (D := gD g) (ci := 1) (v := .int (mSc S 1)) (C := RX1) (T := TX1) (N := 14) C.1 hb C.2.2.1 inlX1 C.2.1 C.2.2.2.1 hP 17 rfl rfl 7 (by decide) (C.2.2.1 _ wm_167) (fun _ h9 => h9) rfl hdg kk
theorem pM_credibility (C : CW g RX1 p s m args) (hb : c.code = cc) (hP : HW g S H) (hS : va_S (Ab g) s.heap H locs) {x : Int32} (hdg : decode cc pc = .ok (.putfield 83, 3)) (kk : ∀ (H1 : Heap) (locs1 : List Loc), HW g (msSc S 1 x) H1 → va_S (Ab g) s.heap H1 locs1 → W p l e R s m args below meth c H1 locs1 cells slots Q (F0 m (pc + 3) ls rest)) : W p l e R s m args below meth c H locs cells slots Q (F0 m (pc) ls (.int x :: .ref (gA g 17) :: rest)) :=
  va_put (D := gD g) (ci := 1) (v := .int x) (ty := .int) (C := RX1) (T := TX1) (N := 14) C.1 hb C.2.2.1 inlX1 tyX1 tyX1_ok nmX1 C.2.1 C.2.2.2.1 hP (wD C.2.2.2.2.2.2.2.2.2 S) hS 17 rfl rfl 7 (by decide) (C.2.2.1 _ wm_167) (fun _ h9 => h9) rfl (by decide +kernel) rfl rfl (Nat.le_of_ble_eq_true rfl) hdg (fun H1 locs1 hP1 _ hS1 => kk H1 locs1 hP1 hS1)
theorem gM_cap (C : CW g RX1 p s m args) (hb : c.code = cc) (hP : HW g S H) (hdg : decode cc pc = .ok (.getfield 29, 3)) (kk : W p l e R s m args below meth c H locs cells slots Q (F0 m (pc + 3) ls (.int (mSc S 2) :: rest))) : W p l e R s m args below meth c H locs cells slots Q (F0 m (pc) ls (.ref (gA g 17) :: rest)) :=
  va_get (D := gD g) (ci := 1) (v := .int (mSc S 2)) (C := RX1) (T := TX1) (N := 14) C.1 hb C.2.2.1 inlX1 C.2.1 C.2.2.2.1 hP 17 rfl rfl 8 (by decide) (C.2.2.1 _ wm_46) (fun _ h9 => h9) rfl hdg kk
theorem pM_cap (C : CW g RX1 p s m args) (hb : c.code = cc) (hP : HW g S H) (hS : va_S (Ab g) s.heap H locs) {x : Int32} (hdg : decode cc pc = .ok (.putfield 29, 3)) (kk : ∀ (H1 : Heap) (locs1 : List Loc), HW g (msSc S 2 x) H1 → va_S (Ab g) s.heap H1 locs1 → W p l e R s m args below meth c H1 locs1 cells slots Q (F0 m (pc + 3) ls rest)) : W p l e R s m args below meth c H locs cells slots Q (F0 m (pc) ls (.int x :: .ref (gA g 17) :: rest)) :=
  va_put (D := gD g) (ci := 1) (v := .int x) (ty := .int) (C := RX1) (T := TX1) (N := 14) C.1 hb C.2.2.1 inlX1 tyX1 tyX1_ok nmX1 C.2.1 C.2.2.2.1 hP (wD C.2.2.2.2.2.2.2.2.2 S) hS 17 rfl rfl 8 (by decide) (C.2.2.1 _ wm_46) (fun _ h9 => h9) rfl (by decide +kernel) rfl rfl (Nat.le_of_ble_eq_true rfl) hdg (fun H1 locs1 hP1 _ hS1 => kk H1 locs1 hP1 hS1)
theorem gM_spread (C : CW g RX1 p s m args) (hb : c.code = cc) (hP : HW g S H) (hdg : decode cc pc = .ok (.getfield 35, 3)) (kk : W p l e R s m args below meth c H locs cells slots Q (F0 m (pc + 3) ls (.long (mSp S) :: rest))) : W p l e R s m args below meth c H locs cells slots Q (F0 m (pc) ls (.ref (gA g 17) :: rest)) :=
  va_get (D := gD g) (ci := 1) (v := .long (mSp S)) (C := RX1) (T := TX1) (N := 14) C.1 hb C.2.2.1 inlX1 C.2.1 C.2.2.2.1 hP 17 rfl rfl 9 (by decide) (C.2.2.1 _ wm_48) (fun _ h9 => h9) rfl hdg kk
theorem pM_spread (C : CW g RX1 p s m args) (hb : c.code = cc) (hP : HW g S H) (hS : va_S (Ab g) s.heap H locs) {x : Int64} (hdg : decode cc pc = .ok (.putfield 35, 3)) (kk : ∀ (H1 : Heap) (locs1 : List Loc), HW g (msSp S x) H1 → va_S (Ab g) s.heap H1 locs1 → W p l e R s m args below meth c H1 locs1 cells slots Q (F0 m (pc + 3) ls rest)) : W p l e R s m args below meth c H locs cells slots Q (F0 m (pc) ls (.long x :: .ref (gA g 17) :: rest)) :=
  va_put (D := gD g) (ci := 1) (v := .long x) (ty := .long) (C := RX1) (T := TX1) (N := 14) C.1 hb C.2.2.1 inlX1 tyX1 tyX1_ok nmX1 C.2.1 C.2.2.2.1 hP (wD C.2.2.2.2.2.2.2.2.2 S) hS 17 rfl rfl 9 (by decide) (C.2.2.1 _ wm_48) (fun _ h9 => h9) rfl (by decide +kernel) rfl rfl (Nat.le_of_ble_eq_true rfl) hdg (fun H1 locs1 hP1 _ hS1 => kk H1 locs1 hP1 hS1)
theorem gM_factors (C : CW g RX1 p s m args) (hb : c.code = cc) (hP : HW g S H) (hdg : decode cc pc = .ok (.getfield 39, 3)) (kk : W p l e R s m args below meth c H locs cells slots Q (F0 m (pc + 3) ls (.ref (gA g 24) :: rest))) : W p l e R s m args below meth c H locs cells slots Q (F0 m (pc) ls (.ref (gA g 17) :: rest)) :=
  va_get (D := gD g) (ci := 1) (v := .ref (gA g 24)) (C := RX1) (T := TX1) (N := 14) C.1 hb C.2.2.1 inlX1 C.2.1 C.2.2.2.1 hP 17 rfl rfl 10 (by decide) (C.2.2.1 _ wm_49) (fun _ h9 => h9) rfl hdg kk
theorem gM_found (C : CW g RX1 p s m args) (hb : c.code = cc) (hP : HW g S H) (hdg : decode cc pc = .ok (.getfield 42, 3)) (kk : W p l e R s m args below meth c H locs cells slots Q (F0 m (pc + 3) ls (.ref (gA g 25) :: rest))) : W p l e R s m args below meth c H locs cells slots Q (F0 m (pc) ls (.ref (gA g 17) :: rest)) :=
  va_get (D := gD g) (ci := 1) (v := .ref (gA g 25)) (C := RX1) (T := TX1) (N := 14) C.1 hb C.2.2.1 inlX1 C.2.1 C.2.2.2.1 hP 17 rfl rfl 11 (by decide) (C.2.2.1 _ wm_50) (fun _ h9 => h9) rfl hdg kk
theorem gM_joined (C : CW g RX1 p s m args) (hb : c.code = cc) (hP : HW g S H) (hdg : decode cc pc = .ok (.getfield 45, 3)) (kk : W p l e R s m args below meth c H locs cells slots Q (F0 m (pc + 3) ls (.ref (gA g 26) :: rest))) : W p l e R s m args below meth c H locs cells slots Q (F0 m (pc) ls (.ref (gA g 17) :: rest)) :=
  va_get (D := gD g) (ci := 1) (v := .ref (gA g 26)) (C := RX1) (T := TX1) (N := 14) C.1 hb C.2.2.1 inlX1 C.2.1 C.2.2.2.1 hP 17 rfl rfl 12 (by decide) (C.2.2.1 _ wm_51) (fun _ h9 => h9) rfl hdg kk
theorem gM_last (C : CW g RX1 p s m args) (hb : c.code = cc) (hP : HW g S H) (hdg : decode cc pc = .ok (.getfield 48, 3)) (kk : W p l e R s m args below meth c H locs cells slots Q (F0 m (pc + 3) ls (.int (mSc S 3) :: rest))) : W p l e R s m args below meth c H locs cells slots Q (F0 m (pc) ls (.ref (gA g 17) :: rest)) :=
  va_get (D := gD g) (ci := 1) (v := .int (mSc S 3)) (C := RX1) (T := TX1) (N := 14) C.1 hb C.2.2.1 inlX1 C.2.1 C.2.2.2.1 hP 17 rfl rfl 13 (by decide) (C.2.2.1 _ wm_112) (fun _ h9 => h9) rfl hdg kk
theorem pM_last (C : CW g RX1 p s m args) (hb : c.code = cc) (hP : HW g S H) (hS : va_S (Ab g) s.heap H locs) {x : Int32} (hdg : decode cc pc = .ok (.putfield 48, 3)) (kk : ∀ (H1 : Heap) (locs1 : List Loc), HW g (msSc S 3 x) H1 → va_S (Ab g) s.heap H1 locs1 → W p l e R s m args below meth c H1 locs1 cells slots Q (F0 m (pc + 3) ls rest)) : W p l e R s m args below meth c H locs cells slots Q (F0 m (pc) ls (.int x :: .ref (gA g 17) :: rest)) :=
  va_put (D := gD g) (ci := 1) (v := .int x) (ty := .int) (C := RX1) (T := TX1) (N := 14) C.1 hb C.2.2.1 inlX1 tyX1 tyX1_ok nmX1 C.2.1 C.2.2.2.1 hP (wD C.2.2.2.2.2.2.2.2.2 S) hS 17 rfl rfl 13 (by decide) (C.2.2.1 _ wm_112) (fun _ h9 => h9) rfl (by decide +kernel) rfl rfl (Nat.le_of_ble_eq_true rfl) hdg (fun H1 locs1 hP1 _ hS1 => kk H1 locs1 hP1 hS1)
theorem ldX_exposures (C : CW g own p s m args) (hb : c.code = cc) (hP : HW g S H) {i : Int32} {j : Nat} (hi : i = nI j) (hj : j < 40) (hdg : decode cc pc = .ok (.laload, 1)) (kk : W p l e R s m args below meth c H locs cells slots Q (F0 m (pc + 1) ls (.long (xLng S 0 j) :: rest))) : W p l e R s m args below meth c H locs cells slots Q (F0 m (pc) ls (.int i :: .ref (gA g 9) :: rest)) := by
  subst hi
  refine va_lald (D := gD g) (f := xLng S 0) C.1 hb C.2.2.2.1 hP 9 1 rfl rfl (vp_in_nI hj (by decide)) hdg ?_
  rw [nI_clamp (by omega)]
  exact kk
theorem stX_exposures (C : CW g own p s m args) (hb : c.code = cc) (hP : HW g S H) (hS : va_S (Ab g) s.heap H locs) {i : Int32} {j : Nat} {x : Int64} (hi : i = nI j) (hj : j < 40) (hdg : decode cc pc = .ok (.lastore, 1)) (kk : ∀ (H1 : Heap) (locs1 : List Loc), HW g (xsLng S 0 (vp_updL (xLng S 0) j x)) H1 → va_S (Ab g) s.heap H1 locs1 → W p l e R s m args below meth c H1 locs1 cells slots Q (F0 m (pc + 1) ls rest)) : W p l e R s m args below meth c H locs cells slots Q (F0 m (pc) ls (.long x :: .int i :: .ref (gA g 9) :: rest)) := by
  subst hi
  refine va_last (D := gD g) (f := xLng S 0) C.1 hb C.2.2.2.1 hP (wD C.2.2.2.2.2.2.2.2.2 S) hS 9 1 rfl rfl (vp_in_nI hj (by decide)) hdg (fun H1 locs1 hP1 _ hS1 => kk H1 locs1 ?_ hS1)
  rw [nI_clamp (by omega)] at hP1
  exact hP1
theorem ldX_claims (C : CW g own p s m args) (hb : c.code = cc) (hP : HW g S H) {i : Int32} {j : Nat} (hi : i = nI j) (hj : j < 40) (hdg : decode cc pc = .ok (.laload, 1)) (kk : W p l e R s m args below meth c H locs cells slots Q (F0 m (pc + 1) ls (.long (xLng S 1 j) :: rest))) : W p l e R s m args below meth c H locs cells slots Q (F0 m (pc) ls (.int i :: .ref (gA g 10) :: rest)) := by
  subst hi
  refine va_lald (D := gD g) (f := xLng S 1) C.1 hb C.2.2.2.1 hP 10 1 rfl rfl (vp_in_nI hj (by decide)) hdg ?_
  rw [nI_clamp (by omega)]
  exact kk
theorem stX_claims (C : CW g own p s m args) (hb : c.code = cc) (hP : HW g S H) (hS : va_S (Ab g) s.heap H locs) {i : Int32} {j : Nat} {x : Int64} (hi : i = nI j) (hj : j < 40) (hdg : decode cc pc = .ok (.lastore, 1)) (kk : ∀ (H1 : Heap) (locs1 : List Loc), HW g (xsLng S 1 (vp_updL (xLng S 1) j x)) H1 → va_S (Ab g) s.heap H1 locs1 → W p l e R s m args below meth c H1 locs1 cells slots Q (F0 m (pc + 1) ls rest)) : W p l e R s m args below meth c H locs cells slots Q (F0 m (pc) ls (.long x :: .int i :: .ref (gA g 10) :: rest)) := by
  subst hi
  refine va_last (D := gD g) (f := xLng S 1) C.1 hb C.2.2.2.1 hP (wD C.2.2.2.2.2.2.2.2.2 S) hS 10 1 rfl rfl (vp_in_nI hj (by decide)) hdg (fun H1 locs1 hP1 _ hS1 => kk H1 locs1 ?_ hS1)
  rw [nI_clamp (by omega)] at hP1
  exact hP1
theorem ldX_losses (C : CW g own p s m args) (hb : c.code = cc) (hP : HW g S H) {i : Int32} {j : Nat} (hi : i = nI j) (hj : j < 40) (hdg : decode cc pc = .ok (.laload, 1)) (kk : W p l e R s m args below meth c H locs cells slots Q (F0 m (pc + 1) ls (.long (xLng S 2 j) :: rest))) : W p l e R s m args below meth c H locs cells slots Q (F0 m (pc) ls (.int i :: .ref (gA g 11) :: rest)) := by
  subst hi
  refine va_lald (D := gD g) (f := xLng S 2) C.1 hb C.2.2.2.1 hP 11 1 rfl rfl (vp_in_nI hj (by decide)) hdg ?_
  rw [nI_clamp (by omega)]
  exact kk
theorem stX_losses (C : CW g own p s m args) (hb : c.code = cc) (hP : HW g S H) (hS : va_S (Ab g) s.heap H locs) {i : Int32} {j : Nat} {x : Int64} (hi : i = nI j) (hj : j < 40) (hdg : decode cc pc = .ok (.lastore, 1)) (kk : ∀ (H1 : Heap) (locs1 : List Loc), HW g (xsLng S 2 (vp_updL (xLng S 2) j x)) H1 → va_S (Ab g) s.heap H1 locs1 → W p l e R s m args below meth c H1 locs1 cells slots Q (F0 m (pc + 1) ls rest)) : W p l e R s m args below meth c H locs cells slots Q (F0 m (pc) ls (.long x :: .int i :: .ref (gA g 11) :: rest)) := by
  subst hi
  refine va_last (D := gD g) (f := xLng S 2) C.1 hb C.2.2.2.1 hP (wD C.2.2.2.2.2.2.2.2.2 S) hS 11 1 rfl rfl (vp_in_nI hj (by decide)) hdg (fun H1 locs1 hP1 _ hS1 => kk H1 locs1 ?_ hS1)
  rw [nI_clamp (by omega)] at hP1
  exact hP1
theorem ldX_oldPremiums (C : CW g own p s m args) (hb : c.code = cc) (hP : HW g S H) {i : Int32} {j : Nat} (hi : i = nI j) (hj : j < 40) (hdg : decode cc pc = .ok (.iaload, 1)) (kk : W p l e R s m args below meth c H locs cells slots Q (F0 m (pc + 1) ls (.int (xIa S 0 j) :: rest))) : W p l e R s m args below meth c H locs cells slots Q (F0 m (pc) ls (.int i :: .ref (gA g 12) :: rest)) := by
  subst hi
  refine va_iald (D := gD g) (f := xIa S 0) C.1 hb C.2.2.2.1 hP 12 0 rfl rfl (vp_in_nI hj (by decide)) hdg ?_
  rw [nI_clamp (by omega)]
  exact kk
theorem stX_oldPremiums (C : CW g own p s m args) (hb : c.code = cc) (hP : HW g S H) (hS : va_S (Ab g) s.heap H locs) {i : Int32} {j : Nat} {x : Int32} (hi : i = nI j) (hj : j < 40) (hdg : decode cc pc = .ok (.iastore, 1)) (kk : ∀ (H1 : Heap) (locs1 : List Loc), HW g (xsIa S 0 (upd (xIa S 0) j x)) H1 → va_S (Ab g) s.heap H1 locs1 → W p l e R s m args below meth c H1 locs1 cells slots Q (F0 m (pc + 1) ls rest)) : W p l e R s m args below meth c H locs cells slots Q (F0 m (pc) ls (.int x :: .int i :: .ref (gA g 12) :: rest)) := by
  subst hi
  refine va_iast (D := gD g) (f := xIa S 0) C.1 hb C.2.2.2.1 hP (wD C.2.2.2.2.2.2.2.2.2 S) hS 12 0 rfl rfl (vp_in_nI hj (by decide)) hdg (fun H1 locs1 hP1 _ hS1 => kk H1 locs1 ?_ hS1)
  rw [nI_clamp (by omega)] at hP1
  exact hP1
theorem ldX_live (C : CW g own p s m args) (hb : c.code = cc) (hP : HW g S H) {i : Int32} {j : Nat} (hi : i = nI j) (hj : j < 40) (hdg : decode cc pc = .ok (.baload, 1)) (kk : W p l e R s m args below meth c H locs cells slots Q (F0 m (pc + 1) ls (.int (xIa S 1 j) :: rest))) : W p l e R s m args below meth c H locs cells slots Q (F0 m (pc) ls (.int i :: .ref (gA g 13) :: rest)) := by
  subst hi
  refine va_zald (D := gD g) (f := xIa S 1) C.1 hb C.2.2.2.1 hP 13 2 rfl rfl (vp_in_nI hj (by decide)) hdg ?_
  rw [nI_clamp (by omega)]
  exact kk
theorem stX_live (C : CW g own p s m args) (hb : c.code = cc) (hP : HW g S H) (hS : va_S (Ab g) s.heap H locs) {i : Int32} {j : Nat} {x : Int32} (hi : i = nI j) (hj : j < 40) (hz : vp_nar .boolean x = x) (hdg : decode cc pc = .ok (.bastore, 1)) (kk : ∀ (H1 : Heap) (locs1 : List Loc), HW g (xsIa S 1 (upd (xIa S 1) j x)) H1 → va_S (Ab g) s.heap H1 locs1 → W p l e R s m args below meth c H1 locs1 cells slots Q (F0 m (pc + 1) ls rest)) : W p l e R s m args below meth c H locs cells slots Q (F0 m (pc) ls (.int x :: .int i :: .ref (gA g 13) :: rest)) := by
  subst hi
  refine va_zast (D := gD g) (f := xIa S 1) C.1 hb C.2.2.2.1 hP (wD C.2.2.2.2.2.2.2.2.2 S) hS 13 2 rfl rfl (vp_in_nI hj (by decide)) hdg (fun H1 locs1 hP1 _ hS1 => kk H1 locs1 ?_ hS1)
  rw [nI_clamp (by omega), hz] at hP1
  exact hP1
theorem ldX_fittedLosses (C : CW g own p s m args) (hb : c.code = cc) (hP : HW g S H) {i : Int32} {j : Nat} (hi : i = nI j) (hj : j < 40) (hdg : decode cc pc = .ok (.laload, 1)) (kk : W p l e R s m args below meth c H locs cells slots Q (F0 m (pc + 1) ls (.long (xLng S 3 j) :: rest))) : W p l e R s m args below meth c H locs cells slots Q (F0 m (pc) ls (.int i :: .ref (gA g 14) :: rest)) := by
  subst hi
  refine va_lald (D := gD g) (f := xLng S 3) C.1 hb C.2.2.2.1 hP 14 1 rfl rfl (vp_in_nI hj (by decide)) hdg ?_
  rw [nI_clamp (by omega)]
  exact kk
theorem stX_fittedLosses (C : CW g own p s m args) (hb : c.code = cc) (hP : HW g S H) (hS : va_S (Ab g) s.heap H locs) {i : Int32} {j : Nat} {x : Int64} (hi : i = nI j) (hj : j < 40) (hdg : decode cc pc = .ok (.lastore, 1)) (kk : ∀ (H1 : Heap) (locs1 : List Loc), HW g (xsLng S 3 (vp_updL (xLng S 3) j x)) H1 → va_S (Ab g) s.heap H1 locs1 → W p l e R s m args below meth c H1 locs1 cells slots Q (F0 m (pc + 1) ls rest)) : W p l e R s m args below meth c H locs cells slots Q (F0 m (pc) ls (.long x :: .int i :: .ref (gA g 14) :: rest)) := by
  subst hi
  refine va_last (D := gD g) (f := xLng S 3) C.1 hb C.2.2.2.1 hP (wD C.2.2.2.2.2.2.2.2.2 S) hS 14 1 rfl rfl (vp_in_nI hj (by decide)) hdg (fun H1 locs1 hP1 _ hS1 => kk H1 locs1 ?_ hS1)
  rw [nI_clamp (by omega)] at hP1
  exact hP1
theorem ldX_groupStarts (C : CW g own p s m args) (hb : c.code = cc) (hP : HW g S H) {i : Int32} {j : Nat} (hi : i = nI j) (hj : j < 4) (hdg : decode cc pc = .ok (.iaload, 1)) (kk : W p l e R s m args below meth c H locs cells slots Q (F0 m (pc + 1) ls (.int (xIa S 2 j) :: rest))) : W p l e R s m args below meth c H locs cells slots Q (F0 m (pc) ls (.int i :: .ref (gA g 15) :: rest)) := by
  subst hi
  refine va_iald (D := gD g) (f := xIa S 2) C.1 hb C.2.2.2.1 hP 15 0 rfl rfl (vp_in_nI hj (by decide)) hdg ?_
  rw [nI_clamp (by omega)]
  exact kk
theorem stX_groupStarts (C : CW g own p s m args) (hb : c.code = cc) (hP : HW g S H) (hS : va_S (Ab g) s.heap H locs) {i : Int32} {j : Nat} {x : Int32} (hi : i = nI j) (hj : j < 4) (hdg : decode cc pc = .ok (.iastore, 1)) (kk : ∀ (H1 : Heap) (locs1 : List Loc), HW g (xsIa S 2 (upd (xIa S 2) j x)) H1 → va_S (Ab g) s.heap H1 locs1 → W p l e R s m args below meth c H1 locs1 cells slots Q (F0 m (pc + 1) ls rest)) : W p l e R s m args below meth c H locs cells slots Q (F0 m (pc) ls (.int x :: .int i :: .ref (gA g 15) :: rest)) := by
  subst hi
  refine va_iast (D := gD g) (f := xIa S 2) C.1 hb C.2.2.2.1 hP (wD C.2.2.2.2.2.2.2.2.2 S) hS 15 0 rfl rfl (vp_in_nI hj (by decide)) hdg (fun H1 locs1 hP1 _ hS1 => kk H1 locs1 ?_ hS1)
  rw [nI_clamp (by omega)] at hP1
  exact hP1
theorem ldX_factorsBefore (C : CW g own p s m args) (hb : c.code = cc) (hP : HW g S H) {i : Int32} {j : Nat} (hi : i = nI j) (hj : j < 4) (hdg : decode cc pc = .ok (.iaload, 1)) (kk : W p l e R s m args below meth c H locs cells slots Q (F0 m (pc + 1) ls (.int (xIa S 3 j) :: rest))) : W p l e R s m args below meth c H locs cells slots Q (F0 m (pc) ls (.int i :: .ref (gA g 16) :: rest)) := by
  subst hi
  refine va_iald (D := gD g) (f := xIa S 3) C.1 hb C.2.2.2.1 hP 16 0 rfl rfl (vp_in_nI hj (by decide)) hdg ?_
  rw [nI_clamp (by omega)]
  exact kk
theorem stX_factorsBefore (C : CW g own p s m args) (hb : c.code = cc) (hP : HW g S H) (hS : va_S (Ab g) s.heap H locs) {i : Int32} {j : Nat} {x : Int32} (hi : i = nI j) (hj : j < 4) (hdg : decode cc pc = .ok (.iastore, 1)) (kk : ∀ (H1 : Heap) (locs1 : List Loc), HW g (xsIa S 3 (upd (xIa S 3) j x)) H1 → va_S (Ab g) s.heap H1 locs1 → W p l e R s m args below meth c H1 locs1 cells slots Q (F0 m (pc + 1) ls rest)) : W p l e R s m args below meth c H locs cells slots Q (F0 m (pc) ls (.int x :: .int i :: .ref (gA g 16) :: rest)) := by
  subst hi
  refine va_iast (D := gD g) (f := xIa S 3) C.1 hb C.2.2.2.1 hP (wD C.2.2.2.2.2.2.2.2.2 S) hS 16 0 rfl rfl (vp_in_nI hj (by decide)) hdg (fun H1 locs1 hP1 _ hS1 => kk H1 locs1 ?_ hS1)
  rw [nI_clamp (by omega)] at hP1
  exact hP1
theorem ldM_levels (C : CW g own p s m args) (hb : c.code = cc) (hP : HW g S H) {i : Int32} {j : Nat} (hi : i = nI j) (hj : j < 120) (hdg : decode cc pc = .ok (.iaload, 1)) (kk : W p l e R s m args below meth c H locs cells slots Q (F0 m (pc + 1) ls (.int (mIa S 0 j) :: rest))) : W p l e R s m args below meth c H locs cells slots Q (F0 m (pc) ls (.int i :: .ref (gA g 18) :: rest)) := by
  subst hi
  refine va_iald (D := gD g) (f := mIa S 0) C.1 hb C.2.2.2.1 hP 18 0 rfl rfl (vp_in_nI hj (by decide)) hdg ?_
  rw [nI_clamp (by omega)]
  exact kk
theorem stM_levels (C : CW g own p s m args) (hb : c.code = cc) (hP : HW g S H) (hS : va_S (Ab g) s.heap H locs) {i : Int32} {j : Nat} {x : Int32} (hi : i = nI j) (hj : j < 120) (hdg : decode cc pc = .ok (.iastore, 1)) (kk : ∀ (H1 : Heap) (locs1 : List Loc), HW g (msIa S 0 (upd (mIa S 0) j x)) H1 → va_S (Ab g) s.heap H1 locs1 → W p l e R s m args below meth c H1 locs1 cells slots Q (F0 m (pc + 1) ls rest)) : W p l e R s m args below meth c H locs cells slots Q (F0 m (pc) ls (.int x :: .int i :: .ref (gA g 18) :: rest)) := by
  subst hi
  refine va_iast (D := gD g) (f := mIa S 0) C.1 hb C.2.2.2.1 hP (wD C.2.2.2.2.2.2.2.2.2 S) hS 18 0 rfl rfl (vp_in_nI hj (by decide)) hdg (fun H1 locs1 hP1 _ hS1 => kk H1 locs1 ?_ hS1)
  rw [nI_clamp (by omega)] at hP1
  exact hP1
theorem ldM_exposures (C : CW g own p s m args) (hb : c.code = cc) (hP : HW g S H) {i : Int32} {j : Nat} (hi : i = nI j) (hj : j < 40) (hdg : decode cc pc = .ok (.iaload, 1)) (kk : W p l e R s m args below meth c H locs cells slots Q (F0 m (pc + 1) ls (.int (mIa S 1 j) :: rest))) : W p l e R s m args below meth c H locs cells slots Q (F0 m (pc) ls (.int i :: .ref (gA g 19) :: rest)) := by
  subst hi
  refine va_iald (D := gD g) (f := mIa S 1) C.1 hb C.2.2.2.1 hP 19 0 rfl rfl (vp_in_nI hj (by decide)) hdg ?_
  rw [nI_clamp (by omega)]
  exact kk
theorem stM_exposures (C : CW g own p s m args) (hb : c.code = cc) (hP : HW g S H) (hS : va_S (Ab g) s.heap H locs) {i : Int32} {j : Nat} {x : Int32} (hi : i = nI j) (hj : j < 40) (hdg : decode cc pc = .ok (.iastore, 1)) (kk : ∀ (H1 : Heap) (locs1 : List Loc), HW g (msIa S 1 (upd (mIa S 1) j x)) H1 → va_S (Ab g) s.heap H1 locs1 → W p l e R s m args below meth c H1 locs1 cells slots Q (F0 m (pc + 1) ls rest)) : W p l e R s m args below meth c H locs cells slots Q (F0 m (pc) ls (.int x :: .int i :: .ref (gA g 19) :: rest)) := by
  subst hi
  refine va_iast (D := gD g) (f := mIa S 1) C.1 hb C.2.2.2.1 hP (wD C.2.2.2.2.2.2.2.2.2 S) hS 19 0 rfl rfl (vp_in_nI hj (by decide)) hdg (fun H1 locs1 hP1 _ hS1 => kk H1 locs1 ?_ hS1)
  rw [nI_clamp (by omega)] at hP1
  exact hP1
theorem ldM_claims (C : CW g own p s m args) (hb : c.code = cc) (hP : HW g S H) {i : Int32} {j : Nat} (hi : i = nI j) (hj : j < 40) (hdg : decode cc pc = .ok (.iaload, 1)) (kk : W p l e R s m args below meth c H locs cells slots Q (F0 m (pc + 1) ls (.int (mIa S 2 j) :: rest))) : W p l e R s m args below meth c H locs cells slots Q (F0 m (pc) ls (.int i :: .ref (gA g 20) :: rest)) := by
  subst hi
  refine va_iald (D := gD g) (f := mIa S 2) C.1 hb C.2.2.2.1 hP 20 0 rfl rfl (vp_in_nI hj (by decide)) hdg ?_
  rw [nI_clamp (by omega)]
  exact kk
theorem stM_claims (C : CW g own p s m args) (hb : c.code = cc) (hP : HW g S H) (hS : va_S (Ab g) s.heap H locs) {i : Int32} {j : Nat} {x : Int32} (hi : i = nI j) (hj : j < 40) (hdg : decode cc pc = .ok (.iastore, 1)) (kk : ∀ (H1 : Heap) (locs1 : List Loc), HW g (msIa S 2 (upd (mIa S 2) j x)) H1 → va_S (Ab g) s.heap H1 locs1 → W p l e R s m args below meth c H1 locs1 cells slots Q (F0 m (pc + 1) ls rest)) : W p l e R s m args below meth c H locs cells slots Q (F0 m (pc) ls (.int x :: .int i :: .ref (gA g 20) :: rest)) := by
  subst hi
  refine va_iast (D := gD g) (f := mIa S 2) C.1 hb C.2.2.2.1 hP (wD C.2.2.2.2.2.2.2.2.2 S) hS 20 0 rfl rfl (vp_in_nI hj (by decide)) hdg (fun H1 locs1 hP1 _ hS1 => kk H1 locs1 ?_ hS1)
  rw [nI_clamp (by omega)] at hP1
  exact hP1
theorem ldM_losses (C : CW g own p s m args) (hb : c.code = cc) (hP : HW g S H) {i : Int32} {j : Nat} (hi : i = nI j) (hj : j < 40) (hdg : decode cc pc = .ok (.iaload, 1)) (kk : W p l e R s m args below meth c H locs cells slots Q (F0 m (pc + 1) ls (.int (mIa S 3 j) :: rest))) : W p l e R s m args below meth c H locs cells slots Q (F0 m (pc) ls (.int i :: .ref (gA g 21) :: rest)) := by
  subst hi
  refine va_iald (D := gD g) (f := mIa S 3) C.1 hb C.2.2.2.1 hP 21 0 rfl rfl (vp_in_nI hj (by decide)) hdg ?_
  rw [nI_clamp (by omega)]
  exact kk
theorem stM_losses (C : CW g own p s m args) (hb : c.code = cc) (hP : HW g S H) (hS : va_S (Ab g) s.heap H locs) {i : Int32} {j : Nat} {x : Int32} (hi : i = nI j) (hj : j < 40) (hdg : decode cc pc = .ok (.iastore, 1)) (kk : ∀ (H1 : Heap) (locs1 : List Loc), HW g (msIa S 3 (upd (mIa S 3) j x)) H1 → va_S (Ab g) s.heap H1 locs1 → W p l e R s m args below meth c H1 locs1 cells slots Q (F0 m (pc + 1) ls rest)) : W p l e R s m args below meth c H locs cells slots Q (F0 m (pc) ls (.int x :: .int i :: .ref (gA g 21) :: rest)) := by
  subst hi
  refine va_iast (D := gD g) (f := mIa S 3) C.1 hb C.2.2.2.1 hP (wD C.2.2.2.2.2.2.2.2.2 S) hS 21 0 rfl rfl (vp_in_nI hj (by decide)) hdg (fun H1 locs1 hP1 _ hS1 => kk H1 locs1 ?_ hS1)
  rw [nI_clamp (by omega)] at hP1
  exact hP1
theorem ldM_olds (C : CW g own p s m args) (hb : c.code = cc) (hP : HW g S H) {i : Int32} {j : Nat} (hi : i = nI j) (hj : j < 40) (hdg : decode cc pc = .ok (.iaload, 1)) (kk : W p l e R s m args below meth c H locs cells slots Q (F0 m (pc + 1) ls (.int (mIa S 4 j) :: rest))) : W p l e R s m args below meth c H locs cells slots Q (F0 m (pc) ls (.int i :: .ref (gA g 22) :: rest)) := by
  subst hi
  refine va_iald (D := gD g) (f := mIa S 4) C.1 hb C.2.2.2.1 hP 22 0 rfl rfl (vp_in_nI hj (by decide)) hdg ?_
  rw [nI_clamp (by omega)]
  exact kk
theorem stM_olds (C : CW g own p s m args) (hb : c.code = cc) (hP : HW g S H) (hS : va_S (Ab g) s.heap H locs) {i : Int32} {j : Nat} {x : Int32} (hi : i = nI j) (hj : j < 40) (hdg : decode cc pc = .ok (.iastore, 1)) (kk : ∀ (H1 : Heap) (locs1 : List Loc), HW g (msIa S 4 (upd (mIa S 4) j x)) H1 → va_S (Ab g) s.heap H1 locs1 → W p l e R s m args below meth c H1 locs1 cells slots Q (F0 m (pc + 1) ls rest)) : W p l e R s m args below meth c H locs cells slots Q (F0 m (pc) ls (.int x :: .int i :: .ref (gA g 22) :: rest)) := by
  subst hi
  refine va_iast (D := gD g) (f := mIa S 4) C.1 hb C.2.2.2.1 hP (wD C.2.2.2.2.2.2.2.2.2 S) hS 22 0 rfl rfl (vp_in_nI hj (by decide)) hdg (fun H1 locs1 hP1 _ hS1 => kk H1 locs1 ?_ hS1)
  rw [nI_clamp (by omega)] at hP1
  exact hP1
theorem ldM_gone (C : CW g own p s m args) (hb : c.code = cc) (hP : HW g S H) {i : Int32} {j : Nat} (hi : i = nI j) (hj : j < 40) (hdg : decode cc pc = .ok (.baload, 1)) (kk : W p l e R s m args below meth c H locs cells slots Q (F0 m (pc + 1) ls (.int (mIa S 5 j) :: rest))) : W p l e R s m args below meth c H locs cells slots Q (F0 m (pc) ls (.int i :: .ref (gA g 23) :: rest)) := by
  subst hi
  refine va_zald (D := gD g) (f := mIa S 5) C.1 hb C.2.2.2.1 hP 23 2 rfl rfl (vp_in_nI hj (by decide)) hdg ?_
  rw [nI_clamp (by omega)]
  exact kk
theorem stM_gone (C : CW g own p s m args) (hb : c.code = cc) (hP : HW g S H) (hS : va_S (Ab g) s.heap H locs) {i : Int32} {j : Nat} {x : Int32} (hi : i = nI j) (hj : j < 40) (hz : vp_nar .boolean x = x) (hdg : decode cc pc = .ok (.bastore, 1)) (kk : ∀ (H1 : Heap) (locs1 : List Loc), HW g (msIa S 5 (upd (mIa S 5) j x)) H1 → va_S (Ab g) s.heap H1 locs1 → W p l e R s m args below meth c H1 locs1 cells slots Q (F0 m (pc + 1) ls rest)) : W p l e R s m args below meth c H locs cells slots Q (F0 m (pc) ls (.int x :: .int i :: .ref (gA g 23) :: rest)) := by
  subst hi
  refine va_zast (D := gD g) (f := mIa S 5) C.1 hb C.2.2.2.1 hP (wD C.2.2.2.2.2.2.2.2.2 S) hS 23 2 rfl rfl (vp_in_nI hj (by decide)) hdg (fun H1 locs1 hP1 _ hS1 => kk H1 locs1 ?_ hS1)
  rw [nI_clamp (by omega), hz] at hP1
  exact hP1
theorem ldM_factors (C : CW g own p s m args) (hb : c.code = cc) (hP : HW g S H) {i : Int32} {j : Nat} (hi : i = nI j) (hj : j < 12) (hdg : decode cc pc = .ok (.iaload, 1)) (kk : W p l e R s m args below meth c H locs cells slots Q (F0 m (pc + 1) ls (.int (mIa S 6 j) :: rest))) : W p l e R s m args below meth c H locs cells slots Q (F0 m (pc) ls (.int i :: .ref (gA g 24) :: rest)) := by
  subst hi
  refine va_iald (D := gD g) (f := mIa S 6) C.1 hb C.2.2.2.1 hP 24 0 rfl rfl (vp_in_nI hj (by decide)) hdg ?_
  rw [nI_clamp (by omega)]
  exact kk
theorem stM_factors (C : CW g own p s m args) (hb : c.code = cc) (hP : HW g S H) (hS : va_S (Ab g) s.heap H locs) {i : Int32} {j : Nat} {x : Int32} (hi : i = nI j) (hj : j < 12) (hdg : decode cc pc = .ok (.iastore, 1)) (kk : ∀ (H1 : Heap) (locs1 : List Loc), HW g (msIa S 6 (upd (mIa S 6) j x)) H1 → va_S (Ab g) s.heap H1 locs1 → W p l e R s m args below meth c H1 locs1 cells slots Q (F0 m (pc + 1) ls rest)) : W p l e R s m args below meth c H locs cells slots Q (F0 m (pc) ls (.int x :: .int i :: .ref (gA g 24) :: rest)) := by
  subst hi
  refine va_iast (D := gD g) (f := mIa S 6) C.1 hb C.2.2.2.1 hP (wD C.2.2.2.2.2.2.2.2.2 S) hS 24 0 rfl rfl (vp_in_nI hj (by decide)) hdg (fun H1 locs1 hP1 _ hS1 => kk H1 locs1 ?_ hS1)
  rw [nI_clamp (by omega)] at hP1
  exact hP1
theorem ldM_found (C : CW g own p s m args) (hb : c.code = cc) (hP : HW g S H) {i : Int32} {j : Nat} (hi : i = nI j) (hj : j < 4) (hdg : decode cc pc = .ok (.iaload, 1)) (kk : W p l e R s m args below meth c H locs cells slots Q (F0 m (pc + 1) ls (.int (mIa S 7 j) :: rest))) : W p l e R s m args below meth c H locs cells slots Q (F0 m (pc) ls (.int i :: .ref (gA g 25) :: rest)) := by
  subst hi
  refine va_iald (D := gD g) (f := mIa S 7) C.1 hb C.2.2.2.1 hP 25 0 rfl rfl (vp_in_nI hj (by decide)) hdg ?_
  rw [nI_clamp (by omega)]
  exact kk
theorem stM_found (C : CW g own p s m args) (hb : c.code = cc) (hP : HW g S H) (hS : va_S (Ab g) s.heap H locs) {i : Int32} {j : Nat} {x : Int32} (hi : i = nI j) (hj : j < 4) (hdg : decode cc pc = .ok (.iastore, 1)) (kk : ∀ (H1 : Heap) (locs1 : List Loc), HW g (msIa S 7 (upd (mIa S 7) j x)) H1 → va_S (Ab g) s.heap H1 locs1 → W p l e R s m args below meth c H1 locs1 cells slots Q (F0 m (pc + 1) ls rest)) : W p l e R s m args below meth c H locs cells slots Q (F0 m (pc) ls (.int x :: .int i :: .ref (gA g 25) :: rest)) := by
  subst hi
  refine va_iast (D := gD g) (f := mIa S 7) C.1 hb C.2.2.2.1 hP (wD C.2.2.2.2.2.2.2.2.2 S) hS 25 0 rfl rfl (vp_in_nI hj (by decide)) hdg (fun H1 locs1 hP1 _ hS1 => kk H1 locs1 ?_ hS1)
  rw [nI_clamp (by omega)] at hP1
  exact hP1
theorem ldM_joined (C : CW g own p s m args) (hb : c.code = cc) (hP : HW g S H) {i : Int32} {j : Nat} (hi : i = nI j) (hj : j < 4) (hdg : decode cc pc = .ok (.iaload, 1)) (kk : W p l e R s m args below meth c H locs cells slots Q (F0 m (pc + 1) ls (.int (mIa S 8 j) :: rest))) : W p l e R s m args below meth c H locs cells slots Q (F0 m (pc) ls (.int i :: .ref (gA g 26) :: rest)) := by
  subst hi
  refine va_iald (D := gD g) (f := mIa S 8) C.1 hb C.2.2.2.1 hP 26 0 rfl rfl (vp_in_nI hj (by decide)) hdg ?_
  rw [nI_clamp (by omega)]
  exact kk
theorem stM_joined (C : CW g own p s m args) (hb : c.code = cc) (hP : HW g S H) (hS : va_S (Ab g) s.heap H locs) {i : Int32} {j : Nat} {x : Int32} (hi : i = nI j) (hj : j < 4) (hdg : decode cc pc = .ok (.iastore, 1)) (kk : ∀ (H1 : Heap) (locs1 : List Loc), HW g (msIa S 8 (upd (mIa S 8) j x)) H1 → va_S (Ab g) s.heap H1 locs1 → W p l e R s m args below meth c H1 locs1 cells slots Q (F0 m (pc + 1) ls rest)) : W p l e R s m args below meth c H locs cells slots Q (F0 m (pc) ls (.int x :: .int i :: .ref (gA g 26) :: rest)) := by
  subst hi
  refine va_iast (D := gD g) (f := mIa S 8) C.1 hb C.2.2.2.1 hP (wD C.2.2.2.2.2.2.2.2.2 S) hS 26 0 rfl rfl (vp_in_nI hj (by decide)) hdg (fun H1 locs1 hP1 _ hS1 => kk H1 locs1 ?_ hS1)
  rw [nI_clamp (by omega)] at hP1
  exact hP1
theorem ldO_out (C : CW g own p s m args) (hb : c.code = cc) (hP : HW g S H) {i : Int32} {j : Nat} (hi : i = nI j) (hj : j < 1) (hdg : decode cc pc = .ok (.laload, 1)) (kk : W p l e R s m args below meth c H locs cells slots Q (F0 m (pc + 1) ls (.long (wOut S j) :: rest))) : W p l e R s m args below meth c H locs cells slots Q (F0 m (pc) ls (.int i :: .ref (gA g 27) :: rest)) := by
  subst hi
  refine va_lald (D := gD g) (f := wOut S) C.1 hb C.2.2.2.1 hP 27 1 rfl rfl (vp_in_nI hj (by decide)) hdg ?_
  rw [nI_clamp (by omega)]
  exact kk
theorem stO_out (C : CW g own p s m args) (hb : c.code = cc) (hP : HW g S H) (hS : va_S (Ab g) s.heap H locs) {i : Int32} {j : Nat} {x : Int64} (hi : i = nI j) (hj : j < 1) (hdg : decode cc pc = .ok (.lastore, 1)) (kk : ∀ (H1 : Heap) (locs1 : List Loc), HW g (wsOut S (vp_updL (wOut S) j x)) H1 → va_S (Ab g) s.heap H1 locs1 → W p l e R s m args below meth c H1 locs1 cells slots Q (F0 m (pc + 1) ls rest)) : W p l e R s m args below meth c H locs cells slots Q (F0 m (pc) ls (.long x :: .int i :: .ref (gA g 27) :: rest)) := by
  subst hi
  refine va_last (D := gD g) (f := wOut S) C.1 hb C.2.2.2.1 hP (wD C.2.2.2.2.2.2.2.2.2 S) hS 27 1 rfl rfl (vp_in_nI hj (by decide)) hdg (fun H1 locs1 hP1 _ hS1 => kk H1 locs1 ?_ hS1)
  rw [nI_clamp (by omega)] at hP1
  exact hP1
theorem al_fac (C : CW g own p s m args) (hb : c.code = cc) (hP : HW g S H) {i : Int32} {t : Nat} (hi : i = nI t) (ht : t < 3) (hdg : decode cc pc = .ok (.aaload, 1)) (kk : W p l e R s m args below meth c H locs cells slots Q (F0 m (pc + 1) ls (.ref (gA g (3 + t)) :: rest))) : W p l e R s m args below meth c H locs cells slots Q (F0 m (pc) ls (.int i :: .ref (gA g 1) :: rest)) := by
  subst hi
  have hin : vp_in (nI t) 3 := vp_in_nI ht (by decide)
  have hlt : (nI t).toNatClampNeg < 3 := by rw [nI_clamp (by omega)]; exact ht
  refine W.aald (v := .ref (gA g (3 + t))) (ty := .array .int) C.1 hb (hP 1 _ rfl) ((C.2.2.2.1.2 3 _ rfl).1 3 (fun j => va_rf (some (gA g (3 + j))))) rfl (fun q => by cases q) (by show ¬ (nI t < 0 ∨ (arrV _ _ _).slots.size ≤ _); rw [arrV_size]; exact hin) (by show (arrV _ _ _).slots[_]? = _; rw [arrV_read _ _ hlt, nI_clamp (by omega)]; rfl) rfl rfl hdg kk
theorem wW_fac (g : gG) (S : WS) {t : Nat} (ht : t < 3) : (wW g S)[3 + t]? = some (gA g (3 + t), .inl (gT g 0, 4, .inl (xFac S t))) := by
  rcases (show t = 0 ∨ t = 1 ∨ t = 2 by omega) with rfl | rfl | rfl <;> rfl
theorem wW_sfac (g : gG) (S : WS) {t : Nat} (ht : t < 3) (f : Nat → Int32) : (wW g S).set (3 + t) (gA g (3 + t), .inl (gT g 0, 4, .inl f)) = wW g (xsFac S t f) := by
  rcases (show t = 0 ∨ t = 1 ∨ t = 2 by omega) with rfl | rfl | rfl <;> rfl
theorem ldX_fac (C : CW g own p s m args) (hb : c.code = cc) (hP : HW g S H) {t : Nat} (ht : t < 3) {i : Int32} {j : Nat} (hi : i = nI j) (hj : j < 4) (hdg : decode cc pc = .ok (.iaload, 1)) (kk : W p l e R s m args below meth c H locs cells slots Q (F0 m (pc + 1) ls (.int (xFac S t j) :: rest))) : W p l e R s m args below meth c H locs cells slots Q (F0 m (pc) ls (.int i :: .ref (gA g (3 + t)) :: rest)) := by
  subst hi
  refine va_iald (D := gD g) (f := xFac S t) C.1 hb C.2.2.2.1 hP (3 + t) 0 (wW_fac g S ht) rfl (vp_in_nI hj (by decide)) hdg ?_
  rw [nI_clamp (by omega)]
  exact kk
theorem stX_fac (C : CW g own p s m args) (hb : c.code = cc) (hP : HW g S H) (hS : va_S (Ab g) s.heap H locs) {t : Nat} (ht : t < 3) {i : Int32} {j : Nat} {x : Int32} (hi : i = nI j) (hj : j < 4) (hdg : decode cc pc = .ok (.iastore, 1)) (kk : ∀ (H1 : Heap) (locs1 : List Loc), HW g (xsFac S t (upd (xFac S t) j x)) H1 → va_S (Ab g) s.heap H1 locs1 → W p l e R s m args below meth c H1 locs1 cells slots Q (F0 m (pc + 1) ls rest)) : W p l e R s m args below meth c H locs cells slots Q (F0 m (pc) ls (.int x :: .int i :: .ref (gA g (3 + t)) :: rest)) := by
  subst hi
  refine va_iast (D := gD g) (f := xFac S t) C.1 hb C.2.2.2.1 hP (wD C.2.2.2.2.2.2.2.2.2 S) hS (3 + t) 0 (wW_fac g S ht) rfl (vp_in_nI hj (by decide)) hdg (fun H1 locs1 hP1 _ hS1 => kk H1 locs1 ?_ hS1)
  rw [nI_clamp (by omega), wW_sfac g S ht] at hP1
  exact hP1
theorem al_lev (C : CW g own p s m args) (hb : c.code = cc) (hP : HW g S H) {i : Int32} {t : Nat} (hi : i = nI t) (ht : t < 3) (hdg : decode cc pc = .ok (.aaload, 1)) (kk : W p l e R s m args below meth c H locs cells slots Q (F0 m (pc + 1) ls (.ref (gA g (6 + t)) :: rest))) : W p l e R s m args below meth c H locs cells slots Q (F0 m (pc) ls (.int i :: .ref (gA g 2) :: rest)) := by
  subst hi
  have hin : vp_in (nI t) 3 := vp_in_nI ht (by decide)
  have hlt : (nI t).toNatClampNeg < 3 := by rw [nI_clamp (by omega)]; exact ht
  refine W.aald (v := .ref (gA g (6 + t))) (ty := .array .int) C.1 hb (hP 2 _ rfl) ((C.2.2.2.1.2 3 _ rfl).1 3 (fun j => va_rf (some (gA g (6 + j))))) rfl (fun q => by cases q) (by show ¬ (nI t < 0 ∨ (arrV _ _ _).slots.size ≤ _); rw [arrV_size]; exact hin) (by show (arrV _ _ _).slots[_]? = _; rw [arrV_read _ _ hlt, nI_clamp (by omega)]; rfl) rfl rfl hdg kk
theorem wW_lev (g : gG) (S : WS) {t : Nat} (ht : t < 3) : (wW g S)[6 + t]? = some (gA g (6 + t), .inl (gT g 0, 40, .inl (xLev S t))) := by
  rcases (show t = 0 ∨ t = 1 ∨ t = 2 by omega) with rfl | rfl | rfl <;> rfl
theorem wW_slev (g : gG) (S : WS) {t : Nat} (ht : t < 3) (f : Nat → Int32) : (wW g S).set (6 + t) (gA g (6 + t), .inl (gT g 0, 40, .inl f)) = wW g (xsLev S t f) := by
  rcases (show t = 0 ∨ t = 1 ∨ t = 2 by omega) with rfl | rfl | rfl <;> rfl
theorem ldX_lev (C : CW g own p s m args) (hb : c.code = cc) (hP : HW g S H) {t : Nat} (ht : t < 3) {i : Int32} {j : Nat} (hi : i = nI j) (hj : j < 40) (hdg : decode cc pc = .ok (.iaload, 1)) (kk : W p l e R s m args below meth c H locs cells slots Q (F0 m (pc + 1) ls (.int (xLev S t j) :: rest))) : W p l e R s m args below meth c H locs cells slots Q (F0 m (pc) ls (.int i :: .ref (gA g (6 + t)) :: rest)) := by
  subst hi
  refine va_iald (D := gD g) (f := xLev S t) C.1 hb C.2.2.2.1 hP (6 + t) 0 (wW_lev g S ht) rfl (vp_in_nI hj (by decide)) hdg ?_
  rw [nI_clamp (by omega)]
  exact kk
theorem stX_lev (C : CW g own p s m args) (hb : c.code = cc) (hP : HW g S H) (hS : va_S (Ab g) s.heap H locs) {t : Nat} (ht : t < 3) {i : Int32} {j : Nat} {x : Int32} (hi : i = nI j) (hj : j < 40) (hdg : decode cc pc = .ok (.iastore, 1)) (kk : ∀ (H1 : Heap) (locs1 : List Loc), HW g (xsLev S t (upd (xLev S t) j x)) H1 → va_S (Ab g) s.heap H1 locs1 → W p l e R s m args below meth c H1 locs1 cells slots Q (F0 m (pc + 1) ls rest)) : W p l e R s m args below meth c H locs cells slots Q (F0 m (pc) ls (.int x :: .int i :: .ref (gA g (6 + t)) :: rest)) := by
  subst hi
  refine va_iast (D := gD g) (f := xLev S t) C.1 hb C.2.2.2.1 hP (wD C.2.2.2.2.2.2.2.2.2 S) hS (6 + t) 0 (wW_lev g S ht) rfl (vp_in_nI hj (by decide)) hdg (fun H1 locs1 hP1 _ hS1 => kk H1 locs1 ?_ hS1)
  rw [nI_clamp (by omega), wW_slev g S ht] at hP1
  exact hP1
theorem gX_LEVELS (C : CW g RX0 p s m args) (hb : c.code = cc) (hS : va_S (Ab g) s.heap H locs) (hdg : decode cc pc = .ok (.getstatic 130, 3)) (kk : W p l e R s m args below meth c H locs cells slots Q (F0 m (pc + 3) ls (.ref (gL g) :: rest))) : W p l e R s m args below meth c H locs cells slots Q (F0 m (pc) ls rest) :=
  va_gets C.1 hb C.2.2.2.2.1 hS C.2.1 (C.2.2.1 _ wm_70) (fun _ h9 => h9) hdg kk
theorem ldX_LEVELS (C : CW g own p s m args) (hb : c.code = cc) (hS : va_S (Ab g) s.heap H locs) {i : Int32} {j : Nat} (hi : i = nI j) (hj : j < 3) (hdg : decode cc pc = .ok (.iaload, 1)) (kk : W p l e R s m args below meth c H locs cells slots Q (F0 m (pc + 1) ls (.int (nI (levN j)) :: rest))) : W p l e R s m args below meth c H locs cells slots Q (F0 m (pc) ls (.int i :: .ref (gL g) :: rest)) := by
  subst hi
  exact va_ti C.1 hb C.2.2.2.2.2.1 hS (vp_in_nI hj (by decide)) (by rw [nI_clamp (by omega)]) hdg kk
theorem lc_le (C : CW g own p s m args) (hb : c.code = cc) {x y : Int64} {off : Int} {tgt : Nat} (hd0 : decode cc pc = .ok (.lcmp, 1)) (hdg : decode cc (pc + 1) = .ok (.ifCond .le off, 3)) (ht : ((pc + 1 : Nat) : Int) + off = (tgt : Int)) (kt : x ≤ y → W p l e R s m args below meth c H locs cells slots Q (F0 m (tgt) ls rest)) (kf : ¬ x ≤ y → W p l e R s m args below meth c H locs cells slots Q (F0 m (pc + 4) ls rest)) : W p l e R s m args below meth c H locs cells slots Q (F0 m (pc) ls (.long y :: .long x :: rest)) := by
  refine W.lcmp C.1 hb hd0 ?_
  refine lv_if_le C.1 hb hdg ht (fun h => kt ?_) (fun h => kf ?_)
  · exact lc_le_iff.mp h
  · exact fun q => h (lc_le_iff.mpr q)
theorem lc_ge (C : CW g own p s m args) (hb : c.code = cc) {x y : Int64} {off : Int} {tgt : Nat} (hd0 : decode cc pc = .ok (.lcmp, 1)) (hdg : decode cc (pc + 1) = .ok (.ifCond .ge off, 3)) (ht : ((pc + 1 : Nat) : Int) + off = (tgt : Int)) (kt : y ≤ x → W p l e R s m args below meth c H locs cells slots Q (F0 m (tgt) ls rest)) (kf : ¬ y ≤ x → W p l e R s m args below meth c H locs cells slots Q (F0 m (pc + 4) ls rest)) : W p l e R s m args below meth c H locs cells slots Q (F0 m (pc) ls (.long y :: .long x :: rest)) := by
  refine W.lcmp C.1 hb hd0 ?_
  refine lv_if_ge C.1 hb hdg ht (fun h => kt ?_) (fun h => kf ?_)
  · exact lc_ge_iff.mp h
  · exact fun q => h (lc_ge_iff.mpr q)
theorem lc_lt (C : CW g own p s m args) (hb : c.code = cc) {x y : Int64} {off : Int} {tgt : Nat} (hd0 : decode cc pc = .ok (.lcmp, 1)) (hdg : decode cc (pc + 1) = .ok (.ifCond .lt off, 3)) (ht : ((pc + 1 : Nat) : Int) + off = (tgt : Int)) (kt : x < y → W p l e R s m args below meth c H locs cells slots Q (F0 m (tgt) ls rest)) (kf : ¬ x < y → W p l e R s m args below meth c H locs cells slots Q (F0 m (pc + 4) ls rest)) : W p l e R s m args below meth c H locs cells slots Q (F0 m (pc) ls (.long y :: .long x :: rest)) := by
  refine W.lcmp C.1 hb hd0 ?_
  refine lv_if_lt C.1 hb hdg ht (fun h => kt ?_) (fun h => kf ?_)
  · exact lc_lt_iff.mp h
  · exact fun q => h (lc_lt_iff.mpr q)
theorem lc_gt (C : CW g own p s m args) (hb : c.code = cc) {x y : Int64} {off : Int} {tgt : Nat} (hd0 : decode cc pc = .ok (.lcmp, 1)) (hdg : decode cc (pc + 1) = .ok (.ifCond .gt off, 3)) (ht : ((pc + 1 : Nat) : Int) + off = (tgt : Int)) (kt : y < x → W p l e R s m args below meth c H locs cells slots Q (F0 m (tgt) ls rest)) (kf : ¬ y < x → W p l e R s m args below meth c H locs cells slots Q (F0 m (pc + 4) ls rest)) : W p l e R s m args below meth c H locs cells slots Q (F0 m (pc) ls (.long y :: .long x :: rest)) := by
  refine W.lcmp C.1 hb hd0 ?_
  refine lv_if_gt C.1 hb hdg ht (fun h => kt ?_) (fun h => kf ?_)
  · exact lc_gt_iff.mp h
  · exact fun q => h (lc_gt_iff.mpr q)
theorem lc_eq (C : CW g own p s m args) (hb : c.code = cc) {x y : Int64} {off : Int} {tgt : Nat} (hd0 : decode cc pc = .ok (.lcmp, 1)) (hdg : decode cc (pc + 1) = .ok (.ifCond .eq off, 3)) (ht : ((pc + 1 : Nat) : Int) + off = (tgt : Int)) (kt : x = y → W p l e R s m args below meth c H locs cells slots Q (F0 m (tgt) ls rest)) (kf : ¬ x = y → W p l e R s m args below meth c H locs cells slots Q (F0 m (pc + 4) ls rest)) : W p l e R s m args below meth c H locs cells slots Q (F0 m (pc) ls (.long y :: .long x :: rest)) := by
  refine W.lcmp C.1 hb hd0 ?_
  refine lv_if_eq C.1 hb hdg ht (fun h => kt ?_) (fun h => kf ?_)
  · exact lc_eq_iff.mp h
  · exact fun q => h (lc_eq_iff.mpr q)
theorem lc_ne (C : CW g own p s m args) (hb : c.code = cc) {x y : Int64} {off : Int} {tgt : Nat} (hd0 : decode cc pc = .ok (.lcmp, 1)) (hdg : decode cc (pc + 1) = .ok (.ifCond .ne off, 3)) (ht : ((pc + 1 : Nat) : Int) + off = (tgt : Int)) (kt : ¬ x = y → W p l e R s m args below meth c H locs cells slots Q (F0 m (tgt) ls rest)) (kf : x = y → W p l e R s m args below meth c H locs cells slots Q (F0 m (pc + 4) ls rest)) : W p l e R s m args below meth c H locs cells slots Q (F0 m (pc) ls (.long y :: .long x :: rest)) := by
  refine W.lcmp C.1 hb hd0 ?_
  refine lv_if_ne C.1 hb hdg ht (fun h => kt ?_) (fun h => kf ?_)
  · exact lc_ne_iff.mp h
  · exact lc_eq_iff.mp h
end WROWS
