/-! The world of the class, the reference and the law's own array: one list of cells at addresses that are variables. -/
abbrev WA : List Cond := wsL_law
def wA (y : MethodName) (cc : ByteArray) (n : Nat) (ret : Option FieldType) : List Cond := Cond.code y cc n ret :: WA
theorem WA_good : WA.all goodWord = true := by decide +kernel
theorem wm_0 : Cond.methodLink RL 151 yL_isHeld ∈ WA := List.mem_of_getElem? (i := 0) (by decide +kernel)
theorem wm_1 : Cond.static yL_isHeld ∈ WA := List.mem_of_getElem? (i := 1) (by decide +kernel)
theorem wm_2 : Cond.initialized RL ∈ WA := List.mem_of_getElem? (i := 2) (by decide +kernel)
theorem wm_3 : Cond.codeWith yL_isHeld cL_isHeld 2 (some .boolean) [(0, 4, 5, 51), (0, 4, 8, 147), (0, 4, 11, 149)] ∈ WA := List.mem_of_getElem? (i := 3) rfl
theorem wm_4 : Cond.classLink RL 51 "java/lang/IndexOutOfBoundsException" ∈ WA := List.mem_of_getElem? (i := 4) (by decide +kernel)
theorem wm_5 : Cond.classLink RL 147 "java/lang/IllegalArgumentException" ∈ WA := List.mem_of_getElem? (i := 5) (by decide +kernel)
theorem wm_6 : Cond.classLink RL 149 "java/lang/IllegalStateException" ∈ WA := List.mem_of_getElem? (i := 6) (by decide +kernel)
theorem wm_7 : Cond.methodLink RL 143 yL_holds ∈ WA := List.mem_of_getElem? (i := 7) (by decide +kernel)
theorem wm_8 : Cond.static yL_holds ∈ WA := List.mem_of_getElem? (i := 8) (by decide +kernel)
theorem wm_9 : Cond.code yL_holds cL_holds 13 (some .boolean) ∈ WA := List.mem_of_getElem? (i := 9) rfl
theorem wm_10 : Cond.classLink RL 38 RX0 ∈ WA := List.mem_of_getElem? (i := 10) (by decide +kernel)
theorem wm_11 : Cond.instantiable RX0 16 ∈ WA := List.mem_of_getElem? (i := 11) (by decide +kernel)
theorem wm_12 : Cond.initialized RX0 ∈ WA := List.mem_of_getElem? (i := 12) (by decide +kernel)
theorem wm_13 : Cond.arrayClass .int ∈ WA := List.mem_of_getElem? (i := 13) (by decide +kernel)
theorem wm_14 : Cond.constant RL 134 (1000000000) ∈ WA := List.mem_of_getElem? (i := 14) (by decide +kernel)
theorem wm_15 : Cond.methodLink RL 129 yX0_init ∈ WA := List.mem_of_getElem? (i := 15) (by decide +kernel)
theorem wm_16 : Cond.instanceMethod yX0_init ∈ WA := List.mem_of_getElem? (i := 16) (by decide +kernel)
theorem wm_17 : Cond.code yX0_init cX0_init 2 none ∈ WA := List.mem_of_getElem? (i := 17) rfl
theorem wm_18 : Cond.methodLink RX0 1 objectInit ∈ WA := List.mem_of_getElem? (i := 18) (by decide +kernel)
theorem wm_19 : Cond.instanceMethod objectInit ∈ WA := List.mem_of_getElem? (i := 19) (by decide +kernel)
theorem wm_20 : Cond.code objectInit ⟨#[0xb1]⟩ 1 none ∈ WA := List.mem_of_getElem? (i := 20) rfl
theorem wm_21 : Cond.classLink RX0 9 "[[I" ∈ WA := List.mem_of_getElem? (i := 21) (by decide +kernel)
theorem wm_22 : Cond.fieldLink RX0 11 "RateFitter" "factors" "[[I" ∈ WA := List.mem_of_getElem? (i := 22) (by decide +kernel)
theorem wm_23 : Cond.fieldLink RX0 14 "RateFitter" "rowLevels" "[[I" ∈ WA := List.mem_of_getElem? (i := 23) (by decide +kernel)
theorem wm_24 : Cond.arrayClass .long ∈ WA := List.mem_of_getElem? (i := 24) (by decide +kernel)
theorem wm_25 : Cond.fieldLink RX0 17 "RateFitter" "exposures" "[J" ∈ WA := List.mem_of_getElem? (i := 25) (by decide +kernel)
theorem wm_26 : Cond.fieldLink RX0 21 "RateFitter" "claims" "[J" ∈ WA := List.mem_of_getElem? (i := 26) (by decide +kernel)
theorem wm_27 : Cond.fieldLink RX0 24 "RateFitter" "losses" "[J" ∈ WA := List.mem_of_getElem? (i := 27) (by decide +kernel)
theorem wm_28 : Cond.fieldLink RX0 27 "RateFitter" "oldPremiums" "[I" ∈ WA := List.mem_of_getElem? (i := 28) (by decide +kernel)
theorem wm_29 : Cond.arrayClass .boolean ∈ WA := List.mem_of_getElem? (i := 29) (by decide +kernel)
theorem wm_30 : Cond.fieldLink RX0 31 "RateFitter" "live" "[Z" ∈ WA := List.mem_of_getElem? (i := 30) (by decide +kernel)
theorem wm_31 : Cond.fieldLink RX0 35 "RateFitter" "addedRows" "I" ∈ WA := List.mem_of_getElem? (i := 31) (by decide +kernel)
theorem wm_32 : Cond.fieldLink RX0 39 "RateFitter" "liveRows" "I" ∈ WA := List.mem_of_getElem? (i := 32) (by decide +kernel)
theorem wm_33 : Cond.fieldLink RX0 42 "RateFitter" "credibility" "I" ∈ WA := List.mem_of_getElem? (i := 33) (by decide +kernel)
theorem wm_34 : Cond.fieldLink RX0 45 "RateFitter" "cap" "I" ∈ WA := List.mem_of_getElem? (i := 34) (by decide +kernel)
theorem wm_35 : Cond.fieldLink RX0 48 "RateFitter" "spreadNow" "I" ∈ WA := List.mem_of_getElem? (i := 35) (by decide +kernel)
theorem wm_36 : Cond.fieldLink RX0 51 "RateFitter" "baseNow" "J" ∈ WA := List.mem_of_getElem? (i := 36) (by decide +kernel)
theorem wm_37 : Cond.fieldLink RX0 55 "RateFitter" "fittedLosses" "[J" ∈ WA := List.mem_of_getElem? (i := 37) (by decide +kernel)
theorem wm_38 : Cond.fieldLink RX0 58 "RateFitter" "groupStarts" "[I" ∈ WA := List.mem_of_getElem? (i := 38) (by decide +kernel)
theorem wm_39 : Cond.fieldLink RX0 61 "RateFitter" "factorsBefore" "[I" ∈ WA := List.mem_of_getElem? (i := 39) (by decide +kernel)
theorem wm_40 : Cond.methodLink RX0 64 yJ7_fill_53178 ∈ WA := List.mem_of_getElem? (i := 40) (by decide +kernel)
theorem wm_41 : Cond.static yJ7_fill_53178 ∈ WA := List.mem_of_getElem? (i := 41) (by decide +kernel)
theorem wm_42 : Cond.initialized RJ7 ∈ WA := List.mem_of_getElem? (i := 42) (by decide +kernel)
theorem wm_43 : Cond.code yJ7_fill_53178 cJ7_fill_53178 4 none ∈ WA := List.mem_of_getElem? (i := 43) rfl
theorem wm_44 : Cond.methodLink RL 85 yX0_rows ∈ WA := List.mem_of_getElem? (i := 44) (by decide +kernel)
theorem wm_45 : Cond.instanceMethod yX0_rows ∈ WA := List.mem_of_getElem? (i := 45) (by decide +kernel)
theorem wm_46 : Cond.selects RX0 yX0_rows yX0_rows ∈ WA := List.mem_of_getElem? (i := 46) (by decide +kernel)
theorem wm_47 : Cond.code yX0_rows cX0_rows 1 (some .int) ∈ WA := List.mem_of_getElem? (i := 47) rfl
theorem wm_48 : Cond.methodLink RL 58 yX0_base ∈ WA := List.mem_of_getElem? (i := 48) (by decide +kernel)
theorem wm_49 : Cond.instanceMethod yX0_base ∈ WA := List.mem_of_getElem? (i := 49) (by decide +kernel)
theorem wm_50 : Cond.selects RX0 yX0_base yX0_base ∈ WA := List.mem_of_getElem? (i := 50) (by decide +kernel)
theorem wm_51 : Cond.code yX0_base cX0_base 1 (some .long) ∈ WA := List.mem_of_getElem? (i := 51) rfl
theorem wm_52 : Cond.methodLink RL 116 yX0_settle ∈ WA := List.mem_of_getElem? (i := 52) (by decide +kernel)
theorem wm_53 : Cond.instanceMethod yX0_settle ∈ WA := List.mem_of_getElem? (i := 53) (by decide +kernel)
theorem wm_54 : Cond.selects RX0 yX0_settle yX0_settle ∈ WA := List.mem_of_getElem? (i := 54) (by decide +kernel)
theorem wm_55 : Cond.code yX0_settle cX0_settle 2 (some .int) ∈ WA := List.mem_of_getElem? (i := 55) rfl
theorem wm_56 : Cond.methodLink RX0 126 yX0_changedByRound ∈ WA := List.mem_of_getElem? (i := 56) (by decide +kernel)
theorem wm_57 : Cond.instanceMethod yX0_changedByRound ∈ WA := List.mem_of_getElem? (i := 57) (by decide +kernel)
theorem wm_58 : Cond.selects RX0 yX0_changedByRound yX0_changedByRound ∈ WA := List.mem_of_getElem? (i := 58) (by decide +kernel)
theorem wm_59 : Cond.code yX0_changedByRound cX0_changedByRound 3 (some .int) ∈ WA := List.mem_of_getElem? (i := 59) rfl
theorem wm_60 : Cond.methodLink RX0 122 yX0_passOver ∈ WA := List.mem_of_getElem? (i := 60) (by decide +kernel)
theorem wm_61 : Cond.instanceMethod yX0_passOver ∈ WA := List.mem_of_getElem? (i := 61) (by decide +kernel)
theorem wm_62 : Cond.selects RX0 yX0_passOver yX0_passOver ∈ WA := List.mem_of_getElem? (i := 62) (by decide +kernel)
theorem wm_63 : Cond.code yX0_passOver cX0_passOver 5 (some .int) ∈ WA := List.mem_of_getElem? (i := 63) rfl
theorem wm_64 : Cond.fieldLink RX0 130 "RateFitter" "LEVELS" "[I" ∈ WA := List.mem_of_getElem? (i := 64) (by decide +kernel)
theorem wm_65 : Cond.methodLink RX0 191 yX0_foundFactor ∈ WA := List.mem_of_getElem? (i := 65) (by decide +kernel)
theorem wm_66 : Cond.instanceMethod yX0_foundFactor ∈ WA := List.mem_of_getElem? (i := 66) (by decide +kernel)
theorem wm_67 : Cond.selects RX0 yX0_foundFactor yX0_foundFactor ∈ WA := List.mem_of_getElem? (i := 67) (by decide +kernel)
theorem wm_68 : Cond.code yX0_foundFactor cX0_foundFactor 12 (some .int) ∈ WA := List.mem_of_getElem? (i := 68) rfl
theorem wm_69 : Cond.constantLong RX0 195 (100) ∈ WA := List.mem_of_getElem? (i := 69) (by decide +kernel)
theorem wm_70 : Cond.constantLong RX0 197 (100000) ∈ WA := List.mem_of_getElem? (i := 70) (by decide +kernel)
theorem wm_71 : Cond.methodLink RX0 165 yX0_levelTotal ∈ WA := List.mem_of_getElem? (i := 71) (by decide +kernel)
theorem wm_72 : Cond.instanceMethod yX0_levelTotal ∈ WA := List.mem_of_getElem? (i := 72) (by decide +kernel)
theorem wm_73 : Cond.selects RX0 yX0_levelTotal yX0_levelTotal ∈ WA := List.mem_of_getElem? (i := 73) (by decide +kernel)
theorem wm_74 : Cond.code yX0_levelTotal cX0_levelTotal 7 (some .long) ∈ WA := List.mem_of_getElem? (i := 74) rfl
theorem wm_75 : Cond.methodLink RX0 161 yX0_bounded ∈ WA := List.mem_of_getElem? (i := 75) (by decide +kernel)
theorem wm_76 : Cond.static yX0_bounded ∈ WA := List.mem_of_getElem? (i := 76) (by decide +kernel)
theorem wm_77 : Cond.code yX0_bounded cX0_bounded 6 (some .long) ∈ WA := List.mem_of_getElem? (i := 77) rfl
theorem wm_78 : Cond.methodLink RX0 173 Lib.MathLoose.max_long.x ∈ WA := List.mem_of_getElem? (i := 78) (by decide +kernel)
theorem wm_79 : Cond.static Lib.MathLoose.max_long.x ∈ WA := List.mem_of_getElem? (i := 79) (by decide +kernel)
theorem wm_80 : Cond.initialized "java/lang/Math" ∈ WA := List.mem_of_getElem? (i := 80) (by decide +kernel)
theorem wm_81 : Cond.code Lib.MathLoose.max_long.x Lib.MathLoose.max_long.code 4 (some .long) ∈ WA := List.mem_of_getElem? (i := 81) rfl
theorem wm_82 : Cond.methodLink RX0 155 Lib.MathLoose.min_long.x ∈ WA := List.mem_of_getElem? (i := 82) (by decide +kernel)
theorem wm_83 : Cond.static Lib.MathLoose.min_long.x ∈ WA := List.mem_of_getElem? (i := 83) (by decide +kernel)
theorem wm_84 : Cond.code Lib.MathLoose.min_long.x Lib.MathLoose.min_long.code 4 (some .long) ∈ WA := List.mem_of_getElem? (i := 84) rfl
theorem wm_85 : Cond.methodLink RX0 93 yX0_refit ∈ WA := List.mem_of_getElem? (i := 85) (by decide +kernel)
theorem wm_86 : Cond.instanceMethod yX0_refit ∈ WA := List.mem_of_getElem? (i := 86) (by decide +kernel)
theorem wm_87 : Cond.selects RX0 yX0_refit yX0_refit ∈ WA := List.mem_of_getElem? (i := 87) (by decide +kernel)
theorem wm_88 : Cond.code yX0_refit cX0_refit 4 none ∈ WA := List.mem_of_getElem? (i := 88) rfl
theorem wm_89 : Cond.constantLong RX0 147 (10000) ∈ WA := List.mem_of_getElem? (i := 89) (by decide +kernel)
theorem wm_90 : Cond.methodLink RX0 149 yX0_total ∈ WA := List.mem_of_getElem? (i := 90) (by decide +kernel)
theorem wm_91 : Cond.instanceMethod yX0_total ∈ WA := List.mem_of_getElem? (i := 91) (by decide +kernel)
theorem wm_92 : Cond.selects RX0 yX0_total yX0_total ∈ WA := List.mem_of_getElem? (i := 92) (by decide +kernel)
theorem wm_93 : Cond.code yX0_total cX0_total 5 (some .long) ∈ WA := List.mem_of_getElem? (i := 93) rfl
theorem wm_94 : Cond.methodLink RX0 188 yX0_fittedLoss ∈ WA := List.mem_of_getElem? (i := 94) (by decide +kernel)
theorem wm_95 : Cond.instanceMethod yX0_fittedLoss ∈ WA := List.mem_of_getElem? (i := 95) (by decide +kernel)
theorem wm_96 : Cond.selects RX0 yX0_fittedLoss yX0_fittedLoss ∈ WA := List.mem_of_getElem? (i := 96) (by decide +kernel)
theorem wm_97 : Cond.code yX0_fittedLoss cX0_fittedLoss 5 (some .long) ∈ WA := List.mem_of_getElem? (i := 97) rfl
theorem wm_98 : Cond.methodLink RL 130 yL_from ∈ WA := List.mem_of_getElem? (i := 98) (by decide +kernel)
theorem wm_99 : Cond.static yL_from ∈ WA := List.mem_of_getElem? (i := 99) (by decide +kernel)
theorem wm_100 : Cond.code yL_from cL_from 4 (some .int) ∈ WA := List.mem_of_getElem? (i := 100) rfl
theorem wm_101 : Cond.constant RL 7 (156007) ∈ WA := List.mem_of_getElem? (i := 101) (by decide +kernel)
theorem wm_102 : Cond.constant RL 8 (2147483647) ∈ WA := List.mem_of_getElem? (i := 102) (by decide +kernel)
theorem wm_103 : Cond.methodLink RL 135 yL_acts ∈ WA := List.mem_of_getElem? (i := 103) (by decide +kernel)
theorem wm_104 : Cond.static yL_acts ∈ WA := List.mem_of_getElem? (i := 104) (by decide +kernel)
theorem wm_105 : Cond.code yL_acts cL_acts 19 (some .boolean) ∈ WA := List.mem_of_getElem? (i := 105) rfl
theorem wm_106 : Cond.constant RL 93 (1000000) ∈ WA := List.mem_of_getElem? (i := 106) (by decide +kernel)
theorem wm_107 : Cond.constantLong RL 53 (-5) ∈ WA := List.mem_of_getElem? (i := 107) (by decide +kernel)
theorem wm_108 : Cond.constant RL 101 (3000000) ∈ WA := List.mem_of_getElem? (i := 108) (by decide +kernel)
theorem wm_109 : Cond.constant RL 105 (99901) ∈ WA := List.mem_of_getElem? (i := 109) (by decide +kernel)
theorem wm_110 : Cond.constantLong RL 9 (10000) ∈ WA := List.mem_of_getElem? (i := 110) (by decide +kernel)
theorem wm_111 : Cond.constantLong RL 124 (1000000) ∈ WA := List.mem_of_getElem? (i := 111) (by decide +kernel)
theorem wm_112 : Cond.methodLink RL 94 yX0_add ∈ WA := List.mem_of_getElem? (i := 112) (by decide +kernel)
theorem wm_113 : Cond.instanceMethod yX0_add ∈ WA := List.mem_of_getElem? (i := 113) (by decide +kernel)
theorem wm_114 : Cond.selects RX0 yX0_add yX0_add ∈ WA := List.mem_of_getElem? (i := 114) (by decide +kernel)
theorem wm_115 : Cond.code yX0_add cX0_add 8 (some .int) ∈ WA := List.mem_of_getElem? (i := 115) rfl
theorem wm_116 : Cond.classLink RX0 74 "java/lang/IllegalArgumentException" ∈ WA := List.mem_of_getElem? (i := 116) (by decide +kernel)
theorem wm_117 : Cond.initialized "java/lang/IllegalArgumentException" ∈ WA := List.mem_of_getElem? (i := 117) (by decide +kernel)
theorem wm_118 : Cond.classLink RX0 88 "java/lang/IllegalStateException" ∈ WA := List.mem_of_getElem? (i := 118) (by decide +kernel)
theorem wm_119 : Cond.initialized "java/lang/IllegalStateException" ∈ WA := List.mem_of_getElem? (i := 119) (by decide +kernel)
theorem wm_120 : Cond.constant RX0 85 (1000000) ∈ WA := List.mem_of_getElem? (i := 120) (by decide +kernel)
theorem wm_121 : Cond.methodLink RX0 70 yX0_hasLevel ∈ WA := List.mem_of_getElem? (i := 121) (by decide +kernel)
theorem wm_122 : Cond.static yX0_hasLevel ∈ WA := List.mem_of_getElem? (i := 122) (by decide +kernel)
theorem wm_123 : Cond.code yX0_hasLevel cX0_hasLevel 2 (some .boolean) ∈ WA := List.mem_of_getElem? (i := 123) rfl
theorem wm_124 : Cond.methodLink RX0 117 yX0_hasTrait ∈ WA := List.mem_of_getElem? (i := 124) (by decide +kernel)
theorem wm_125 : Cond.static yX0_hasTrait ∈ WA := List.mem_of_getElem? (i := 125) (by decide +kernel)
theorem wm_126 : Cond.code yX0_hasTrait cX0_hasTrait 1 (some .boolean) ∈ WA := List.mem_of_getElem? (i := 126) rfl
theorem wm_127 : Cond.methodLink RX0 81 yX0_isWithin ∈ WA := List.mem_of_getElem? (i := 127) (by decide +kernel)
theorem wm_128 : Cond.static yX0_isWithin ∈ WA := List.mem_of_getElem? (i := 128) (by decide +kernel)
theorem wm_129 : Cond.code yX0_isWithin cX0_isWithin 3 (some .boolean) ∈ WA := List.mem_of_getElem? (i := 129) rfl
theorem wm_130 : Cond.methodLink RL 68 yL_rowTold ∈ WA := List.mem_of_getElem? (i := 130) (by decide +kernel)
theorem wm_131 : Cond.static yL_rowTold ∈ WA := List.mem_of_getElem? (i := 131) (by decide +kernel)
theorem wm_132 : Cond.codeWith yL_rowTold cL_rowTold 4 (some .long) [(0, 45, 46, 51)] ∈ WA := List.mem_of_getElem? (i := 132) rfl
theorem wm_133 : Cond.methodLink RL 37 yX0_fitted ∈ WA := List.mem_of_getElem? (i := 133) (by decide +kernel)
theorem wm_134 : Cond.instanceMethod yX0_fitted ∈ WA := List.mem_of_getElem? (i := 134) (by decide +kernel)
theorem wm_135 : Cond.selects RX0 yX0_fitted yX0_fitted ∈ WA := List.mem_of_getElem? (i := 135) (by decide +kernel)
theorem wm_136 : Cond.code yX0_fitted cX0_fitted 2 (some .long) ∈ WA := List.mem_of_getElem? (i := 136) rfl
theorem wm_137 : Cond.classLink RX0 100 "java/lang/IndexOutOfBoundsException" ∈ WA := List.mem_of_getElem? (i := 137) (by decide +kernel)
theorem wm_138 : Cond.initialized "java/lang/IndexOutOfBoundsException" ∈ WA := List.mem_of_getElem? (i := 138) (by decide +kernel)
theorem wm_139 : Cond.methodLink RX0 96 yX0_hasRow ∈ WA := List.mem_of_getElem? (i := 139) (by decide +kernel)
theorem wm_140 : Cond.instanceMethod yX0_hasRow ∈ WA := List.mem_of_getElem? (i := 140) (by decide +kernel)
theorem wm_141 : Cond.selects RX0 yX0_hasRow yX0_hasRow ∈ WA := List.mem_of_getElem? (i := 141) (by decide +kernel)
theorem wm_142 : Cond.code yX0_hasRow cX0_hasRow 2 (some .boolean) ∈ WA := List.mem_of_getElem? (i := 142) rfl
theorem wm_143 : Cond.methodLink RL 42 yX0_premium ∈ WA := List.mem_of_getElem? (i := 143) (by decide +kernel)
theorem wm_144 : Cond.instanceMethod yX0_premium ∈ WA := List.mem_of_getElem? (i := 144) (by decide +kernel)
theorem wm_145 : Cond.selects RX0 yX0_premium yX0_premium ∈ WA := List.mem_of_getElem? (i := 145) (by decide +kernel)
theorem wm_146 : Cond.code yX0_premium cX0_premium 2 (some .long) ∈ WA := List.mem_of_getElem? (i := 146) rfl
theorem wm_147 : Cond.methodLink RX0 176 yX0_newPremium ∈ WA := List.mem_of_getElem? (i := 147) (by decide +kernel)
theorem wm_148 : Cond.instanceMethod yX0_newPremium ∈ WA := List.mem_of_getElem? (i := 148) (by decide +kernel)
theorem wm_149 : Cond.selects RX0 yX0_newPremium yX0_newPremium ∈ WA := List.mem_of_getElem? (i := 149) (by decide +kernel)
theorem wm_150 : Cond.code yX0_newPremium cX0_newPremium 2 (some .long) ∈ WA := List.mem_of_getElem? (i := 150) rfl
theorem wm_151 : Cond.methodLink RL 45 yX0_capped ∈ WA := List.mem_of_getElem? (i := 151) (by decide +kernel)
theorem wm_152 : Cond.instanceMethod yX0_capped ∈ WA := List.mem_of_getElem? (i := 152) (by decide +kernel)
theorem wm_153 : Cond.selects RX0 yX0_capped yX0_capped ∈ WA := List.mem_of_getElem? (i := 153) (by decide +kernel)
theorem wm_154 : Cond.code yX0_capped cX0_capped 2 (some .long) ∈ WA := List.mem_of_getElem? (i := 154) rfl
theorem wm_155 : Cond.methodLink RX0 180 yX0_cappedPremium ∈ WA := List.mem_of_getElem? (i := 155) (by decide +kernel)
theorem wm_156 : Cond.instanceMethod yX0_cappedPremium ∈ WA := List.mem_of_getElem? (i := 156) (by decide +kernel)
theorem wm_157 : Cond.selects RX0 yX0_cappedPremium yX0_cappedPremium ∈ WA := List.mem_of_getElem? (i := 157) (by decide +kernel)
theorem wm_158 : Cond.code yX0_cappedPremium cX0_cappedPremium 8 (some .long) ∈ WA := List.mem_of_getElem? (i := 158) rfl
theorem wm_159 : Cond.methodLink RX0 202 Lib.Math.max.name ∈ WA := List.mem_of_getElem? (i := 159) (by decide +kernel)
theorem wm_160 : Cond.static Lib.Math.max.name ∈ WA := List.mem_of_getElem? (i := 160) (by decide +kernel)
theorem wm_161 : Cond.code Lib.Math.max.name Lib.Math.max.code 2 (some .int) ∈ WA := List.mem_of_getElem? (i := 161) rfl
theorem wm_162 : Cond.methodLink RL 47 yX0_setOld ∈ WA := List.mem_of_getElem? (i := 162) (by decide +kernel)
theorem wm_163 : Cond.instanceMethod yX0_setOld ∈ WA := List.mem_of_getElem? (i := 163) (by decide +kernel)
theorem wm_164 : Cond.selects RX0 yX0_setOld yX0_setOld ∈ WA := List.mem_of_getElem? (i := 164) (by decide +kernel)
theorem wm_165 : Cond.code yX0_setOld cX0_setOld 4 (some .int) ∈ WA := List.mem_of_getElem? (i := 165) rfl
theorem wm_166 : Cond.constant RX0 105 (10000000) ∈ WA := List.mem_of_getElem? (i := 166) (by decide +kernel)
theorem wm_167 : Cond.methodLink RL 98 yX0_withdraw ∈ WA := List.mem_of_getElem? (i := 167) (by decide +kernel)
theorem wm_168 : Cond.instanceMethod yX0_withdraw ∈ WA := List.mem_of_getElem? (i := 168) (by decide +kernel)
theorem wm_169 : Cond.selects RX0 yX0_withdraw yX0_withdraw ∈ WA := List.mem_of_getElem? (i := 169) (by decide +kernel)
theorem wm_170 : Cond.code yX0_withdraw cX0_withdraw 2 (some .int) ∈ WA := List.mem_of_getElem? (i := 170) rfl
theorem wm_171 : Cond.methodLink RL 102 yX0_setRules ∈ WA := List.mem_of_getElem? (i := 171) (by decide +kernel)
theorem wm_172 : Cond.instanceMethod yX0_setRules ∈ WA := List.mem_of_getElem? (i := 172) (by decide +kernel)
theorem wm_173 : Cond.selects RX0 yX0_setRules yX0_setRules ∈ WA := List.mem_of_getElem? (i := 173) (by decide +kernel)
theorem wm_174 : Cond.code yX0_setRules cX0_setRules 4 (some .int) ∈ WA := List.mem_of_getElem? (i := 174) rfl
theorem wm_175 : Cond.methodLink RL 21 yL_many ∈ WA := List.mem_of_getElem? (i := 175) (by decide +kernel)
theorem wm_176 : Cond.static yL_many ∈ WA := List.mem_of_getElem? (i := 176) (by decide +kernel)
theorem wm_177 : Cond.code yL_many cL_many 1 (some .int) ∈ WA := List.mem_of_getElem? (i := 177) rfl
theorem wm_178 : Cond.methodLink RL 106 yX0_setFactor ∈ WA := List.mem_of_getElem? (i := 178) (by decide +kernel)
theorem wm_179 : Cond.instanceMethod yX0_setFactor ∈ WA := List.mem_of_getElem? (i := 179) (by decide +kernel)
theorem wm_180 : Cond.selects RX0 yX0_setFactor yX0_setFactor ∈ WA := List.mem_of_getElem? (i := 180) (by decide +kernel)
theorem wm_181 : Cond.code yX0_setFactor cX0_setFactor 5 (some .int) ∈ WA := List.mem_of_getElem? (i := 181) rfl
theorem wm_182 : Cond.constant RX0 114 (100000) ∈ WA := List.mem_of_getElem? (i := 182) (by decide +kernel)
theorem wm_183 : Cond.methodLink RL 110 yX0_pass ∈ WA := List.mem_of_getElem? (i := 183) (by decide +kernel)
theorem wm_184 : Cond.instanceMethod yX0_pass ∈ WA := List.mem_of_getElem? (i := 184) (by decide +kernel)
theorem wm_185 : Cond.selects RX0 yX0_pass yX0_pass ∈ WA := List.mem_of_getElem? (i := 185) (by decide +kernel)
theorem wm_186 : Cond.code yX0_pass cX0_pass 2 (some .int) ∈ WA := List.mem_of_getElem? (i := 186) rfl
theorem wm_187 : Cond.methodLink RL 113 yL_pass ∈ WA := List.mem_of_getElem? (i := 187) (by decide +kernel)
theorem wm_188 : Cond.static yL_pass ∈ WA := List.mem_of_getElem? (i := 188) (by decide +kernel)
theorem wm_189 : Cond.code yL_pass cL_pass 21 (some .int) ∈ WA := List.mem_of_getElem? (i := 189) rfl
theorem wm_190 : Cond.constantLong RL 29 (100) ∈ WA := List.mem_of_getElem? (i := 190) (by decide +kernel)
theorem wm_191 : Cond.constantLong RL 31 (100000) ∈ WA := List.mem_of_getElem? (i := 191) (by decide +kernel)
theorem wm_192 : Cond.methodLink RL 25 yL_sum ∈ WA := List.mem_of_getElem? (i := 192) (by decide +kernel)
theorem wm_193 : Cond.static yL_sum ∈ WA := List.mem_of_getElem? (i := 193) (by decide +kernel)
theorem wm_194 : Cond.code yL_sum cL_sum 16 (some .long) ∈ WA := List.mem_of_getElem? (i := 194) rfl
theorem wm_195 : Cond.methodLink RL 11 yL_base ∈ WA := List.mem_of_getElem? (i := 195) (by decide +kernel)
theorem wm_196 : Cond.static yL_base ∈ WA := List.mem_of_getElem? (i := 196) (by decide +kernel)
theorem wm_197 : Cond.code yL_base cL_base 9 (some .long) ∈ WA := List.mem_of_getElem? (i := 197) rfl
theorem wm_198 : Cond.methodLink RL 17 yL_fitted ∈ WA := List.mem_of_getElem? (i := 198) (by decide +kernel)
theorem wm_199 : Cond.static yL_fitted ∈ WA := List.mem_of_getElem? (i := 199) (by decide +kernel)
theorem wm_200 : Cond.code yL_fitted cL_fitted 12 (some .long) ∈ WA := List.mem_of_getElem? (i := 200) rfl
theorem wm_201 : Cond.methodLink RL 119 yX0_smooth ∈ WA := List.mem_of_getElem? (i := 201) (by decide +kernel)
theorem wm_202 : Cond.instanceMethod yX0_smooth ∈ WA := List.mem_of_getElem? (i := 202) (by decide +kernel)
theorem wm_203 : Cond.selects RX0 yX0_smooth yX0_smooth ∈ WA := List.mem_of_getElem? (i := 203) (by decide +kernel)
theorem wm_204 : Cond.code yX0_smooth cX0_smooth 4 (some .int) ∈ WA := List.mem_of_getElem? (i := 204) rfl
theorem wm_205 : Cond.methodLink RX0 133 yX0_lowestFallingLevel ∈ WA := List.mem_of_getElem? (i := 205) (by decide +kernel)
theorem wm_206 : Cond.instanceMethod yX0_lowestFallingLevel ∈ WA := List.mem_of_getElem? (i := 206) (by decide +kernel)
theorem wm_207 : Cond.selects RX0 yX0_lowestFallingLevel yX0_lowestFallingLevel ∈ WA := List.mem_of_getElem? (i := 207) (by decide +kernel)
theorem wm_208 : Cond.code yX0_lowestFallingLevel cX0_lowestFallingLevel 3 (some .int) ∈ WA := List.mem_of_getElem? (i := 208) rfl
theorem wm_209 : Cond.methodLink RX0 136 yX0_joinToLevelAhead ∈ WA := List.mem_of_getElem? (i := 209) (by decide +kernel)
theorem wm_210 : Cond.instanceMethod yX0_joinToLevelAhead ∈ WA := List.mem_of_getElem? (i := 210) (by decide +kernel)
theorem wm_211 : Cond.selects RX0 yX0_joinToLevelAhead yX0_joinToLevelAhead ∈ WA := List.mem_of_getElem? (i := 211) (by decide +kernel)
theorem wm_212 : Cond.code yX0_joinToLevelAhead cX0_joinToLevelAhead 6 none ∈ WA := List.mem_of_getElem? (i := 212) rfl
theorem wm_213 : Cond.methodLink RX0 199 yX0_groupMean ∈ WA := List.mem_of_getElem? (i := 213) (by decide +kernel)
theorem wm_214 : Cond.instanceMethod yX0_groupMean ∈ WA := List.mem_of_getElem? (i := 214) (by decide +kernel)
theorem wm_215 : Cond.selects RX0 yX0_groupMean yX0_groupMean ∈ WA := List.mem_of_getElem? (i := 215) (by decide +kernel)
theorem wm_216 : Cond.code yX0_groupMean cX0_groupMean 13 (some .int) ∈ WA := List.mem_of_getElem? (i := 216) rfl
theorem wm_217 : Cond.methodLink RX0 140 yX0_changedSinceBefore ∈ WA := List.mem_of_getElem? (i := 217) (by decide +kernel)
theorem wm_218 : Cond.instanceMethod yX0_changedSinceBefore ∈ WA := List.mem_of_getElem? (i := 218) (by decide +kernel)
theorem wm_219 : Cond.selects RX0 yX0_changedSinceBefore yX0_changedSinceBefore ∈ WA := List.mem_of_getElem? (i := 219) (by decide +kernel)
theorem wm_220 : Cond.code yX0_changedSinceBefore cX0_changedSinceBefore 4 (some .int) ∈ WA := List.mem_of_getElem? (i := 220) rfl
theorem wm_221 : Cond.methodLink RL 122 yL_smooth ∈ WA := List.mem_of_getElem? (i := 221) (by decide +kernel)
theorem wm_222 : Cond.static yL_smooth ∈ WA := List.mem_of_getElem? (i := 222) (by decide +kernel)
theorem wm_223 : Cond.code yL_smooth cL_smooth 16 (some .int) ∈ WA := List.mem_of_getElem? (i := 223) rfl
theorem wm_224 : Cond.methodLink RL 64 yL_all ∈ WA := List.mem_of_getElem? (i := 224) (by decide +kernel)
theorem wm_225 : Cond.static yL_all ∈ WA := List.mem_of_getElem? (i := 225) (by decide +kernel)
theorem wm_226 : Cond.code yL_all cL_all 13 (some .long) ∈ WA := List.mem_of_getElem? (i := 226) rfl
theorem wm_227 : Cond.methodLink RL 33 yL_capped ∈ WA := List.mem_of_getElem? (i := 227) (by decide +kernel)
theorem wm_228 : Cond.static yL_capped ∈ WA := List.mem_of_getElem? (i := 228) (by decide +kernel)
theorem wm_229 : Cond.code yL_capped cL_capped 14 (some .long) ∈ WA := List.mem_of_getElem? (i := 229) rfl
theorem wm_230 : Cond.methodLink RL 126 yX0_spread ∈ WA := List.mem_of_getElem? (i := 230) (by decide +kernel)
theorem wm_231 : Cond.instanceMethod yX0_spread ∈ WA := List.mem_of_getElem? (i := 231) (by decide +kernel)
theorem wm_232 : Cond.selects RX0 yX0_spread yX0_spread ∈ WA := List.mem_of_getElem? (i := 232) (by decide +kernel)
theorem wm_233 : Cond.code yX0_spread cX0_spread 5 (some .int) ∈ WA := List.mem_of_getElem? (i := 233) rfl
theorem wm_234 : Cond.constantLong RX0 153 (1000000) ∈ WA := List.mem_of_getElem? (i := 234) (by decide +kernel)
theorem wm_235 : Cond.methodLink RX0 143 yX0_cappedTotal ∈ WA := List.mem_of_getElem? (i := 235) (by decide +kernel)
theorem wm_236 : Cond.instanceMethod yX0_cappedTotal ∈ WA := List.mem_of_getElem? (i := 236) (by decide +kernel)
theorem wm_237 : Cond.selects RX0 yX0_cappedTotal yX0_cappedTotal ∈ WA := List.mem_of_getElem? (i := 237) (by decide +kernel)
theorem wm_238 : Cond.code yX0_cappedTotal cX0_cappedTotal 4 (some .long) ∈ WA := List.mem_of_getElem? (i := 238) rfl
theorem wm_239 : Cond.methodLink RL 139 yL_isTold ∈ WA := List.mem_of_getElem? (i := 239) (by decide +kernel)
theorem wm_240 : Cond.static yL_isTold ∈ WA := List.mem_of_getElem? (i := 240) (by decide +kernel)
theorem wm_241 : Cond.code yL_isTold cL_isTold 23 (some .boolean) ∈ WA := List.mem_of_getElem? (i := 241) rfl
theorem wm_242 : Cond.methodLink RL 61 yX0_lost ∈ WA := List.mem_of_getElem? (i := 242) (by decide +kernel)
theorem wm_243 : Cond.instanceMethod yX0_lost ∈ WA := List.mem_of_getElem? (i := 243) (by decide +kernel)
theorem wm_244 : Cond.selects RX0 yX0_lost yX0_lost ∈ WA := List.mem_of_getElem? (i := 244) (by decide +kernel)
theorem wm_245 : Cond.code yX0_lost cX0_lost 1 (some .long) ∈ WA := List.mem_of_getElem? (i := 245) rfl
theorem wm_246 : Cond.methodLink RL 72 yX0_factor ∈ WA := List.mem_of_getElem? (i := 246) (by decide +kernel)
theorem wm_247 : Cond.instanceMethod yX0_factor ∈ WA := List.mem_of_getElem? (i := 247) (by decide +kernel)
theorem wm_248 : Cond.selects RX0 yX0_factor yX0_factor ∈ WA := List.mem_of_getElem? (i := 248) (by decide +kernel)
theorem wm_249 : Cond.code yX0_factor cX0_factor 3 (some .int) ∈ WA := List.mem_of_getElem? (i := 249) rfl
theorem wm_250 : Cond.methodLink RL 75 yX0_toldSum ∈ WA := List.mem_of_getElem? (i := 250) (by decide +kernel)
theorem wm_251 : Cond.instanceMethod yX0_toldSum ∈ WA := List.mem_of_getElem? (i := 251) (by decide +kernel)
theorem wm_252 : Cond.selects RX0 yX0_toldSum yX0_toldSum ∈ WA := List.mem_of_getElem? (i := 252) (by decide +kernel)
theorem wm_253 : Cond.code yX0_toldSum cX0_toldSum 3 (some .long) ∈ WA := List.mem_of_getElem? (i := 253) rfl
theorem wm_254 : Cond.methodLink RL 79 yX0_fittedSum ∈ WA := List.mem_of_getElem? (i := 254) (by decide +kernel)
theorem wm_255 : Cond.instanceMethod yX0_fittedSum ∈ WA := List.mem_of_getElem? (i := 255) (by decide +kernel)
theorem wm_256 : Cond.selects RX0 yX0_fittedSum yX0_fittedSum ∈ WA := List.mem_of_getElem? (i := 256) (by decide +kernel)
theorem wm_257 : Cond.code yX0_fittedSum cX0_fittedSum 3 (some .long) ∈ WA := List.mem_of_getElem? (i := 257) rfl
theorem wm_258 : Cond.methodLink RL 82 yX0_worst ∈ WA := List.mem_of_getElem? (i := 258) (by decide +kernel)
theorem wm_259 : Cond.instanceMethod yX0_worst ∈ WA := List.mem_of_getElem? (i := 259) (by decide +kernel)
theorem wm_260 : Cond.selects RX0 yX0_worst yX0_worst ∈ WA := List.mem_of_getElem? (i := 260) (by decide +kernel)
theorem wm_261 : Cond.code yX0_worst cX0_worst 7 (some .long) ∈ WA := List.mem_of_getElem? (i := 261) rfl
theorem wm_262 : Cond.methodLink RX0 169 Lib.MathLoose.abs_long.x ∈ WA := List.mem_of_getElem? (i := 262) (by decide +kernel)
theorem wm_263 : Cond.static Lib.MathLoose.abs_long.x ∈ WA := List.mem_of_getElem? (i := 263) (by decide +kernel)
theorem wm_264 : Cond.code Lib.MathLoose.abs_long.x Lib.MathLoose.abs_long.code 2 (some .long) ∈ WA := List.mem_of_getElem? (i := 264) rfl
theorem wm_265 : Cond.methodLink RL 89 yL_isRanked ∈ WA := List.mem_of_getElem? (i := 265) (by decide +kernel)
theorem wm_266 : Cond.static yL_isRanked ∈ WA := List.mem_of_getElem? (i := 266) (by decide +kernel)
theorem wm_267 : Cond.code yL_isRanked cL_isRanked 16 (some .boolean) ∈ WA := List.mem_of_getElem? (i := 267) rfl
theorem wm_268 : Cond.methodLink RL 55 yX0_rankedAt ∈ WA := List.mem_of_getElem? (i := 268) (by decide +kernel)
theorem wm_269 : Cond.instanceMethod yX0_rankedAt ∈ WA := List.mem_of_getElem? (i := 269) (by decide +kernel)
theorem wm_270 : Cond.selects RX0 yX0_rankedAt yX0_rankedAt ∈ WA := List.mem_of_getElem? (i := 270) (by decide +kernel)
theorem wm_271 : Cond.code yX0_rankedAt cX0_rankedAt 3 (some .int) ∈ WA := List.mem_of_getElem? (i := 271) rfl
theorem wm_272 : Cond.methodLink RX0 183 yX0_placeOf ∈ WA := List.mem_of_getElem? (i := 272) (by decide +kernel)
theorem wm_273 : Cond.instanceMethod yX0_placeOf ∈ WA := List.mem_of_getElem? (i := 273) (by decide +kernel)
theorem wm_274 : Cond.selects RX0 yX0_placeOf yX0_placeOf ∈ WA := List.mem_of_getElem? (i := 274) (by decide +kernel)
theorem wm_275 : Cond.code yX0_placeOf cX0_placeOf 4 (some .int) ∈ WA := List.mem_of_getElem? (i := 275) rfl
theorem wm_276 : Cond.methodLink RX0 204 yX0_isAhead ∈ WA := List.mem_of_getElem? (i := 276) (by decide +kernel)
theorem wm_277 : Cond.instanceMethod yX0_isAhead ∈ WA := List.mem_of_getElem? (i := 277) (by decide +kernel)
theorem wm_278 : Cond.selects RX0 yX0_isAhead yX0_isAhead ∈ WA := List.mem_of_getElem? (i := 278) (by decide +kernel)
theorem wm_279 : Cond.code yX0_isAhead cX0_isAhead 7 (some .boolean) ∈ WA := List.mem_of_getElem? (i := 279) rfl
abbrev gG : Type := Nat × va_G × (Nat → ClassId) × (Nat → Nat) × Nat × (Nat × Nat × (Nat → Int32))
abbrev gS0 (g : gG) : Nat := g.1
abbrev gD (g : gG) : va_G := g.2.1
abbrev gT (g : gG) : Nat → ClassId := g.2.2.1
abbrev gA (g : gG) : Nat → Nat := g.2.2.2.1
abbrev gL (g : gG) : Nat := g.2.2.2.2.1
abbrev gB (g : gG) : Nat := g.2.2.2.2.2.1
abbrev gN (g : gG) : Nat := g.2.2.2.2.2.2.1
abbrev gX (g : gG) : Nat → Int32 := g.2.2.2.2.2.2.2
def Ab (g : gG) : Nat → Prop := fun q => gS0 g ≤ q
abbrev tysG (g : gG) : List (ClassId × FieldType) := [(gT g 0, .int), (gT g 1, .long), (gT g 2, .boolean), (gT g 3, .array .int)]
abbrev XS : Type := (Nat → Nat → Int32) × (Nat → Nat → Int32) × (Nat → Nat → Int64) × (Nat → Nat → Int32) × (Nat → Int32) × Int64
abbrev LAr : Type := Nat → Nat → Int32
abbrev WS : Type := XS × LAr × va_W
-- the class's: factors, levels of rows, long rows (0 exposures, 1 claims, 2 losses, 3 fitted), int rows (0 old, 1 live, 2 groupStarts, 3 factorsBefore), numbers (0 added, 1 live, 2 credibility, 3 cap, 4 spread), base
abbrev xFac (S : WS) : Nat → Nat → Int32 := S.1.1
abbrev xLev (S : WS) : Nat → Nat → Int32 := S.1.2.1
abbrev xLng (S : WS) : Nat → Nat → Int64 := S.1.2.2.1
abbrev xIa (S : WS) : Nat → Nat → Int32 := S.1.2.2.2.1
abbrev xSc (S : WS) : Nat → Int32 := S.1.2.2.2.2.1
abbrev xBase (S : WS) : Int64 := S.1.2.2.2.2.2
-- the law's arrays: 0 l, 1 x, 2 c, 3 d, 4 o, 5 g, 6 f, 7 m
abbrev lA (S : WS) : Nat → Nat → Int32 := S.2.1
abbrev xsFac (S : WS) (t : Nat) (f : Nat → Int32) : WS := ((va_up S.1.1 t f, S.1.2), S.2)
abbrev xsLev (S : WS) (t : Nat) (f : Nat → Int32) : WS := ((S.1.1, va_up S.1.2.1 t f, S.1.2.2), S.2)
abbrev xsLng (S : WS) (t : Nat) (f : Nat → Int64) : WS := ((S.1.1, S.1.2.1, va_up S.1.2.2.1 t f, S.1.2.2.2), S.2)
abbrev xsIa (S : WS) (t : Nat) (f : Nat → Int32) : WS := ((S.1.1, S.1.2.1, S.1.2.2.1, va_up S.1.2.2.2.1 t f, S.1.2.2.2.2), S.2)
abbrev xsSc (S : WS) (t : Nat) (v : Int32) : WS := ((S.1.1, S.1.2.1, S.1.2.2.1, S.1.2.2.2.1, upd S.1.2.2.2.2.1 t v, S.1.2.2.2.2.2), S.2)
abbrev xsBase (S : WS) (v : Int64) : WS := ((S.1.1, S.1.2.1, S.1.2.2.1, S.1.2.2.2.1, S.1.2.2.2.2.1, v), S.2)
abbrev lsA (S : WS) (t : Nat) (f : Nat → Int32) : WS := (S.1, va_up S.2.1 t f, S.2.2)
-- what a call of the law's makes for itself
abbrev eL (g : gG) (a : Nat) (f : Nat → Int64) : Nat × va_E := (a, .inl (gT g 1, 4, .inr (.inl f)))
abbrev eI (g : gG) (a : Nat) (f : Nat → Int32) : Nat × va_E := (a, .inl (gT g 0, 4, .inl f))
def wW (g : gG) (S : WS) : va_W := (gA g 0, .inr (0, [.ref (gA g 1), .ref (gA g 2), .ref (gA g 9), .ref (gA g 10), .ref (gA g 11), .ref (gA g 12), .ref (gA g 13), .int (xSc S 0), .int (xSc S 1), .int (xSc S 2), .int (xSc S 3), .int (xSc S 4), .long (xBase S), .ref (gA g 14), .ref (gA g 15), .ref (gA g 16)])) ::
  (gA g 1, .inl (gT g 3, 3, .inr (.inr (.inr (.inr (fun i => some (gA g (3 + i)))))))) ::
  (gA g 2, .inl (gT g 3, 3, .inr (.inr (.inr (.inr (fun i => some (gA g (6 + i)))))))) ::
  (gA g 3, .inl (gT g 0, 4, .inl (xFac S 0))) ::
  (gA g 4, .inl (gT g 0, 4, .inl (xFac S 1))) ::
  (gA g 5, .inl (gT g 0, 4, .inl (xFac S 2))) ::
  (gA g 6, .inl (gT g 0, 40, .inl (xLev S 0))) ::
  (gA g 7, .inl (gT g 0, 40, .inl (xLev S 1))) ::
  (gA g 8, .inl (gT g 0, 40, .inl (xLev S 2))) ::
  (gA g 9, .inl (gT g 1, 40, .inr (.inl (xLng S 0)))) ::
  (gA g 10, .inl (gT g 1, 40, .inr (.inl (xLng S 1)))) ::
  (gA g 11, .inl (gT g 1, 40, .inr (.inl (xLng S 2)))) ::
  (gA g 12, .inl (gT g 0, 40, .inl (xIa S 0))) ::
  (gA g 13, .inl (gT g 2, 40, .inl (xIa S 1))) ::
  (gA g 14, .inl (gT g 1, 40, .inr (.inl (xLng S 3)))) ::
  (gA g 15, .inl (gT g 0, 4, .inl (xIa S 2))) ::
  (gA g 16, .inl (gT g 0, 4, .inl (xIa S 3))) ::
  (gA g 17, .inl (gT g 0, 36, .inl (lA S 0))) ::
  (gA g 18, .inl (gT g 0, 12, .inl (lA S 1))) ::
  (gA g 19, .inl (gT g 0, 12, .inl (lA S 2))) ::
  (gA g 20, .inl (gT g 0, 12, .inl (lA S 3))) ::
  (gA g 21, .inl (gT g 0, 12, .inl (lA S 4))) ::
  (gA g 22, .inl (gT g 0, 12, .inl (lA S 5))) ::
  (gA g 23, .inl (gT g 0, 12, .inl (lA S 6))) ::
  (gA g 24, .inl (gT g 0, 4, .inl (lA S 7))) :: S.2.2
def HW (g : gG) (S : WS) (H : Heap) : Prop := va_P (gD g) vwCl (wW g S) H ∧ va_D (Ab g) (wW g S)
theorem HW.cg {g : gG} {S S' : WS} {H : Heap} (h : HW g S H) (e : S = S') : HW g S' H := e ▸ h
theorem HW.sz {g : gG} {S : WS} {H : Heap} (h : HW g S H) : gS0 g ≤ H.size := Nat.le_of_lt (Nat.lt_of_le_of_lt (h.2.2 0 _ rfl) (h.1 0 _ rfl).lt)
/-- what was made besides may be forgotten -/
theorem HW.drop {g : gG} {X : XS} {L : LAr} {E : va_W} {H : Heap} (h : HW g (X, L, E) H) : HW g (X, L, []) H := by
  have hs : ∀ (k : Nat) (q : Nat × va_E), (wW g (X, L, []))[k]? = some q → (wW g (X, L, E))[k]? = some q := by
    intro k q hk
    have e : wW g (X, L, E) = wW g (X, L, []) ++ E := rfl
    rw [e, List.getElem?_append_left (List.getElem?_eq_some_iff.mp hk).1]
    exact hk
  exact ⟨fun k q hk => h.1 k q (hs k q hk), ⟨fun i j p q hi hj => h.2.1 i j p q (hs i p hi) (hs j q hj), fun k q hk => h.2.2 k q (hs k q hk)⟩⟩
def strsX : List (Nat × String) := [(76, "no such level"), (86, "exposure, claims or loss out of range"), (90, "no room for another row"), (102, "no such row"), (106, "premium out of range"), (108, "credibility out of range"), (110, "cap out of range"), (112, "no such trait or level"), (115, "factor out of range"), (120, "no such trait"), (186, "no such place")]
def exsX : List String := ["java/lang/IllegalArgumentException", "java/lang/IllegalStateException", "java/lang/IndexOutOfBoundsException"]
def decX : List String := ["java/lang/RuntimeException", "java/lang/Exception", Bundle.tN]
def levN (j : Nat) : Nat := if j = 1 then 3 else 4
def KS (g : gG) (U : State) : Prop := va_K (gD g) vwCl (tysG g) U ∧ va_Z "RateFitter" "LEVELS" "[I" (.ref (gL g)) (Ab g) U U.heap ∧ va_T .int (gL g) 3 (fun j => .int (nI (levN j))) (Ab g) U U.heap ∧
  vx_Zq Bundle.tN "UNASSIGNED_STACK" Bundle.steD (Ab g) U U.heap ∧ vx_Zq Bundle.tN "SUPPRESSED_SENTINEL" Bundle.listD (Ab g) U U.heap ∧ ((∀ q ∈ strsX, ∃ sa : Nat, vk_R RX0 q.1 q.2 sa U) ∧ (∀ E ∈ exsX, va_Nw (.castable E E) U) ∧ ∀ y ∈ decX, va_Nw (.declares (Bundle.initS y)) U) ∧ (va_X (gB g) (gN g) (gX g) U U.heap ∧ gB g < U.heap.size ∧ ¬ Ab g (gB g) ∧ gN g ≤ 260)
theorem KS.moved {g : gG} {u U : State} (hW : u.WarmedH U.vm) (hq : ∀ a : Nat, a < u.heap.size → ¬ Ab g a → U.heap[a]? = u.heap[a]?) (h : KS g u) : KS g U := by
  obtain ⟨h1, h2, h3, h4, h5, ⟨h6, h8, h9⟩, h7, h10, h11, h12⟩ := h
  have hq1 := hq _ h10 h11
  refine ⟨va_K.moved hW.alike h1, va_Z.moved hW.alike (h2.kept hq), va_T.moved hW.alike (h3.kept hq), vx_Zq.moved hW.alike (h4.kept hq), vx_Zq.moved hW.alike (h5.kept hq), ⟨fun q hq9 => ?_, fun E hE => va_Nw.warmC hW (h8 E hE), fun y hy => va_Nw.warmD hW (h9 y hy)⟩, (va_X.moved hW.alike h7).kept hq1, ?_, h11, h12⟩
  · obtain ⟨sa, hsa⟩ := h6 q hq9
    exact ⟨sa, vk_R.warm hW hsa⟩
  · obtain ⟨scr, e1, -⟩ := h7
    exact (Array.getElem?_eq_some_iff.mp (hq1.trans e1)).1
def PW (g : gG) (S : WS) (av : List Value) : Array Value → State → Prop := fun v U => v = av.toArray ∧ KS g U ∧ HW g S U.heap
theorem PW.blind (g : gG) (S : WS) (av : List Value) : FrameBlind (PW g S av) := fun a U gg mk h => ⟨h.1, KS.moved (u := U) (U := U.calling gg mk a) (State.WarmedH.refl U) (fun _ _ _ => rfl) h.2.1, h.2.2⟩
def RQ (v : Option Value) : Array Value → State → Outcome → State → Prop := fun _ st o t => o = .returned v ∧ t.heap = st.heap
def WQ (g : gG) (S' : WS) (v : Option Value) : Array Value → State → Outcome → State → Prop := fun _ st o t => o = .returned v ∧ HW g S' t.heap ∧ va_F (Ab g) st t
def CW (g : gG) (own : String) (p : Program) (s : State) (m : MethodId) (args : Array Value) : Prop := p.tables.exec = Jvm.exec ∧ s.vm.findClass own = some m.cls ∧ (∀ w ∈ WA, w.before args s = true) ∧ KS g s
def bI (b : Bool) : Int32 := if b then 1 else 0
theorem bI_t : bI true = 1 := rfl
theorem bI_f : bI false = 0 := rfl
theorem bI_0 (b : Bool) : bI b = 0 ↔ b = false := by cases b <;> decide
theorem bI_nar (b : Bool) : narrow .boolean (.int (bI b)) = .int (bI b) := by cases b <;> decide +kernel
def tN (i : Int32) : Nat := i.toNatClampNeg
def xRef (g : gG) : Value := .ref (gA g 0)

theorem lc_ge_iff {x y : Int64} : 0 ≤ lg_cmp x y ↔ y ≤ x := lg_cmp_ge x y
theorem lc_le_iff {x y : Int64} : lg_cmp x y ≤ 0 ↔ x ≤ y := lg_cmp_le x y
theorem lc_gt_iff {x y : Int64} : 0 < lg_cmp x y ↔ y < x := lg_cmp_gt x y
theorem lc_lt_iff {x y : Int64} : lg_cmp x y < 0 ↔ x < y := lg_cmp_lt x y
theorem lc_eq_iff {x y : Int64} : lg_cmp x y = 0 ↔ x = y := by
  unfold lg_cmp
  by_cases h : x > y
  · rw [if_pos h]
    exact ⟨fun q => absurd q (by decide), fun q => absurd h (by rw [q]; exact Int64.lt_irrefl)⟩
  · rw [if_neg h]
    by_cases h2 : x = y
    · rw [if_pos h2]; exact ⟨fun _ => h2, fun _ => rfl⟩
    · rw [if_neg h2]; exact ⟨fun q => absurd q (by decide), fun q => absurd q h2⟩
theorem lc_ne_iff {x y : Int64} : ¬ lg_cmp x y = 0 ↔ ¬ x = y := not_congr lc_eq_iff
section WROWS
variable {p : Program} {l : Launch} {e : Env} {R : Room} {s : State} {m : MethodId} {args : Array Value} {below : List Frame} {meth : Method} {c : Code} {H : Heap} {locs : List Loc} {cells slots : Nat} {Q : State → Prop}
variable {cc : ByteArray} {pc : Nat} {ls : Array Slot} {rest : List Value} {g : gG} {S : WS} {own : String}
theorem KS.at (C : CW g own p s m args) (hS : va_S (Ab g) s.heap H locs) {U : State} (hU : U.heap = H) (hW : s.WarmedH U.vm) : KS g U :=
  KS.moved hW (fun a h1 h2 => by rw [hU]; exact hS.2.1 a h1 h2) C.2.2.2
theorem gX_factors (C : CW g RX0 p s m args) (hb : c.code = cc) (hP : HW g S H) (hdg : decode cc pc = .ok (.getfield 11, 3)) (kk : W p l e R s m args below meth c H locs cells slots Q (F0 m (pc + 3) ls (.ref (gA g 1) :: rest))) : W p l e R s m args below meth c H locs cells slots Q (F0 m (pc) ls (.ref (gA g 0) :: rest)) :=
  va_get (D := gD g) (ci := 0) (v := .ref (gA g 1)) (C := RX0) (T := TX0) (N := 16) C.1 hb C.2.2.1 inlX0 C.2.1 C.2.2.2.1 hP.1 0 rfl rfl 0 (by decide) (C.2.2.1 _ wm_22) (fun _ h9 => h9) rfl hdg kk
theorem gX_rowLevels (C : CW g RX0 p s m args) (hb : c.code = cc) (hP : HW g S H) (hdg : decode cc pc = .ok (.getfield 14, 3)) (kk : W p l e R s m args below meth c H locs cells slots Q (F0 m (pc + 3) ls (.ref (gA g 2) :: rest))) : W p l e R s m args below meth c H locs cells slots Q (F0 m (pc) ls (.ref (gA g 0) :: rest)) :=
  va_get (D := gD g) (ci := 0) (v := .ref (gA g 2)) (C := RX0) (T := TX0) (N := 16) C.1 hb C.2.2.1 inlX0 C.2.1 C.2.2.2.1 hP.1 0 rfl rfl 1 (by decide) (C.2.2.1 _ wm_23) (fun _ h9 => h9) rfl hdg kk
theorem gX_exposures (C : CW g RX0 p s m args) (hb : c.code = cc) (hP : HW g S H) (hdg : decode cc pc = .ok (.getfield 17, 3)) (kk : W p l e R s m args below meth c H locs cells slots Q (F0 m (pc + 3) ls (.ref (gA g 9) :: rest))) : W p l e R s m args below meth c H locs cells slots Q (F0 m (pc) ls (.ref (gA g 0) :: rest)) :=
  va_get (D := gD g) (ci := 0) (v := .ref (gA g 9)) (C := RX0) (T := TX0) (N := 16) C.1 hb C.2.2.1 inlX0 C.2.1 C.2.2.2.1 hP.1 0 rfl rfl 2 (by decide) (C.2.2.1 _ wm_25) (fun _ h9 => h9) rfl hdg kk
theorem gX_claims (C : CW g RX0 p s m args) (hb : c.code = cc) (hP : HW g S H) (hdg : decode cc pc = .ok (.getfield 21, 3)) (kk : W p l e R s m args below meth c H locs cells slots Q (F0 m (pc + 3) ls (.ref (gA g 10) :: rest))) : W p l e R s m args below meth c H locs cells slots Q (F0 m (pc) ls (.ref (gA g 0) :: rest)) :=
  va_get (D := gD g) (ci := 0) (v := .ref (gA g 10)) (C := RX0) (T := TX0) (N := 16) C.1 hb C.2.2.1 inlX0 C.2.1 C.2.2.2.1 hP.1 0 rfl rfl 3 (by decide) (C.2.2.1 _ wm_26) (fun _ h9 => h9) rfl hdg kk
theorem gX_losses (C : CW g RX0 p s m args) (hb : c.code = cc) (hP : HW g S H) (hdg : decode cc pc = .ok (.getfield 24, 3)) (kk : W p l e R s m args below meth c H locs cells slots Q (F0 m (pc + 3) ls (.ref (gA g 11) :: rest))) : W p l e R s m args below meth c H locs cells slots Q (F0 m (pc) ls (.ref (gA g 0) :: rest)) :=
  va_get (D := gD g) (ci := 0) (v := .ref (gA g 11)) (C := RX0) (T := TX0) (N := 16) C.1 hb C.2.2.1 inlX0 C.2.1 C.2.2.2.1 hP.1 0 rfl rfl 4 (by decide) (C.2.2.1 _ wm_27) (fun _ h9 => h9) rfl hdg kk
theorem gX_oldPremiums (C : CW g RX0 p s m args) (hb : c.code = cc) (hP : HW g S H) (hdg : decode cc pc = .ok (.getfield 27, 3)) (kk : W p l e R s m args below meth c H locs cells slots Q (F0 m (pc + 3) ls (.ref (gA g 12) :: rest))) : W p l e R s m args below meth c H locs cells slots Q (F0 m (pc) ls (.ref (gA g 0) :: rest)) :=
  va_get (D := gD g) (ci := 0) (v := .ref (gA g 12)) (C := RX0) (T := TX0) (N := 16) C.1 hb C.2.2.1 inlX0 C.2.1 C.2.2.2.1 hP.1 0 rfl rfl 5 (by decide) (C.2.2.1 _ wm_28) (fun _ h9 => h9) rfl hdg kk
theorem gX_live (C : CW g RX0 p s m args) (hb : c.code = cc) (hP : HW g S H) (hdg : decode cc pc = .ok (.getfield 31, 3)) (kk : W p l e R s m args below meth c H locs cells slots Q (F0 m (pc + 3) ls (.ref (gA g 13) :: rest))) : W p l e R s m args below meth c H locs cells slots Q (F0 m (pc) ls (.ref (gA g 0) :: rest)) :=
  va_get (D := gD g) (ci := 0) (v := .ref (gA g 13)) (C := RX0) (T := TX0) (N := 16) C.1 hb C.2.2.1 inlX0 C.2.1 C.2.2.2.1 hP.1 0 rfl rfl 6 (by decide) (C.2.2.1 _ wm_30) (fun _ h9 => h9) rfl hdg kk
theorem gX_addedRows (C : CW g RX0 p s m args) (hb : c.code = cc) (hP : HW g S H) (hdg : decode cc pc = .ok (.getfield 35, 3)) (kk : W p l e R s m args below meth c H locs cells slots Q (F0 m (pc + 3) ls (.int (xSc S 0) :: rest))) : W p l e R s m args below meth c H locs cells slots Q (F0 m (pc) ls (.ref (gA g 0) :: rest)) :=
  va_get (D := gD g) (ci := 0) (v := .int (xSc S 0)) (C := RX0) (T := TX0) (N := 16) C.1 hb C.2.2.1 inlX0 C.2.1 C.2.2.2.1 hP.1 0 rfl rfl 7 (by decide) (C.2.2.1 _ wm_31) (fun _ h9 => h9) rfl hdg kk
theorem pX_addedRows (C : CW g RX0 p s m args) (hb : c.code = cc) (hP : HW g S H) (hS : va_S (Ab g) s.heap H locs) {x : Int32} (hdg : decode cc pc = .ok (.putfield 35, 3)) (kk : ∀ (H1 : Heap) (locs1 : List Loc), HW g (xsSc S 0 x) H1 → va_S (Ab g) s.heap H1 locs1 → W p l e R s m args below meth c H1 locs1 cells slots Q (F0 m (pc + 3) ls rest)) : W p l e R s m args below meth c H locs cells slots Q (F0 m (pc) ls (.int x :: .ref (gA g 0) :: rest)) :=
  va_put (D := gD g) (ci := 0) (v := .int x) (ty := .int) (C := RX0) (T := TX0) (N := 16) C.1 hb C.2.2.1 inlX0 tyX0 tyX0_ok nmX0 C.2.1 C.2.2.2.1 hP.1 hP.2 hS 0 rfl rfl 7 (by decide) (C.2.2.1 _ wm_31) (fun _ h9 => h9) rfl (by decide +kernel) rfl rfl (Nat.le_of_ble_eq_true rfl) hdg (fun H1 locs1 hP1 hD1 hS1 => kk H1 locs1 ⟨hP1, hD1⟩ hS1)
theorem gX_liveRows (C : CW g RX0 p s m args) (hb : c.code = cc) (hP : HW g S H) (hdg : decode cc pc = .ok (.getfield 39, 3)) (kk : W p l e R s m args below meth c H locs cells slots Q (F0 m (pc + 3) ls (.int (xSc S 1) :: rest))) : W p l e R s m args below meth c H locs cells slots Q (F0 m (pc) ls (.ref (gA g 0) :: rest)) :=
  va_get (D := gD g) (ci := 0) (v := .int (xSc S 1)) (C := RX0) (T := TX0) (N := 16) C.1 hb C.2.2.1 inlX0 C.2.1 C.2.2.2.1 hP.1 0 rfl rfl 8 (by decide) (C.2.2.1 _ wm_32) (fun _ h9 => h9) rfl hdg kk
theorem pX_liveRows (C : CW g RX0 p s m args) (hb : c.code = cc) (hP : HW g S H) (hS : va_S (Ab g) s.heap H locs) {x : Int32} (hdg : decode cc pc = .ok (.putfield 39, 3)) (kk : ∀ (H1 : Heap) (locs1 : List Loc), HW g (xsSc S 1 x) H1 → va_S (Ab g) s.heap H1 locs1 → W p l e R s m args below meth c H1 locs1 cells slots Q (F0 m (pc + 3) ls rest)) : W p l e R s m args below meth c H locs cells slots Q (F0 m (pc) ls (.int x :: .ref (gA g 0) :: rest)) :=
  va_put (D := gD g) (ci := 0) (v := .int x) (ty := .int) (C := RX0) (T := TX0) (N := 16) C.1 hb C.2.2.1 inlX0 tyX0 tyX0_ok nmX0 C.2.1 C.2.2.2.1 hP.1 hP.2 hS 0 rfl rfl 8 (by decide) (C.2.2.1 _ wm_32) (fun _ h9 => h9) rfl (by decide +kernel) rfl rfl (Nat.le_of_ble_eq_true rfl) hdg (fun H1 locs1 hP1 hD1 hS1 => kk H1 locs1 ⟨hP1, hD1⟩ hS1)
theorem gX_credibility (C : CW g RX0 p s m args) (hb : c.code = cc) (hP : HW g S H) (hdg : decode cc pc = .ok (.getfield 42, 3)) (kk : W p l e R s m args below meth c H locs cells slots Q (F0 m (pc + 3) ls (.int (xSc S 2) :: rest))) : W p l e R s m args below meth c H locs cells slots Q (F0 m (pc) ls (.ref (gA g 0) :: rest)) :=
  va_get (D := gD g) (ci := 0) (v := .int (xSc S 2)) (C := RX0) (T := TX0) (N := 16) C.1 hb C.2.2.1 inlX0 C.2.1 C.2.2.2.1 hP.1 0 rfl rfl 9 (by decide) (C.2.2.1 _ wm_33) (fun _ h9 => h9) rfl hdg kk
theorem pX_credibility (C : CW g RX0 p s m args) (hb : c.code = cc) (hP : HW g S H) (hS : va_S (Ab g) s.heap H locs) {x : Int32} (hdg : decode cc pc = .ok (.putfield 42, 3)) (kk : ∀ (H1 : Heap) (locs1 : List Loc), HW g (xsSc S 2 x) H1 → va_S (Ab g) s.heap H1 locs1 → W p l e R s m args below meth c H1 locs1 cells slots Q (F0 m (pc + 3) ls rest)) : W p l e R s m args below meth c H locs cells slots Q (F0 m (pc) ls (.int x :: .ref (gA g 0) :: rest)) :=
  va_put (D := gD g) (ci := 0) (v := .int x) (ty := .int) (C := RX0) (T := TX0) (N := 16) C.1 hb C.2.2.1 inlX0 tyX0 tyX0_ok nmX0 C.2.1 C.2.2.2.1 hP.1 hP.2 hS 0 rfl rfl 9 (by decide) (C.2.2.1 _ wm_33) (fun _ h9 => h9) rfl (by decide +kernel) rfl rfl (Nat.le_of_ble_eq_true rfl) hdg (fun H1 locs1 hP1 hD1 hS1 => kk H1 locs1 ⟨hP1, hD1⟩ hS1)
theorem gX_cap (C : CW g RX0 p s m args) (hb : c.code = cc) (hP : HW g S H) (hdg : decode cc pc = .ok (.getfield 45, 3)) (kk : W p l e R s m args below meth c H locs cells slots Q (F0 m (pc + 3) ls (.int (xSc S 3) :: rest))) : W p l e R s m args below meth c H locs cells slots Q (F0 m (pc) ls (.ref (gA g 0) :: rest)) :=
  va_get (D := gD g) (ci := 0) (v := .int (xSc S 3)) (C := RX0) (T := TX0) (N := 16) C.1 hb C.2.2.1 inlX0 C.2.1 C.2.2.2.1 hP.1 0 rfl rfl 10 (by decide) (C.2.2.1 _ wm_34) (fun _ h9 => h9) rfl hdg kk
theorem pX_cap (C : CW g RX0 p s m args) (hb : c.code = cc) (hP : HW g S H) (hS : va_S (Ab g) s.heap H locs) {x : Int32} (hdg : decode cc pc = .ok (.putfield 45, 3)) (kk : ∀ (H1 : Heap) (locs1 : List Loc), HW g (xsSc S 3 x) H1 → va_S (Ab g) s.heap H1 locs1 → W p l e R s m args below meth c H1 locs1 cells slots Q (F0 m (pc + 3) ls rest)) : W p l e R s m args below meth c H locs cells slots Q (F0 m (pc) ls (.int x :: .ref (gA g 0) :: rest)) :=
  va_put (D := gD g) (ci := 0) (v := .int x) (ty := .int) (C := RX0) (T := TX0) (N := 16) C.1 hb C.2.2.1 inlX0 tyX0 tyX0_ok nmX0 C.2.1 C.2.2.2.1 hP.1 hP.2 hS 0 rfl rfl 10 (by decide) (C.2.2.1 _ wm_34) (fun _ h9 => h9) rfl (by decide +kernel) rfl rfl (Nat.le_of_ble_eq_true rfl) hdg (fun H1 locs1 hP1 hD1 hS1 => kk H1 locs1 ⟨hP1, hD1⟩ hS1)
theorem gX_spreadNow (C : CW g RX0 p s m args) (hb : c.code = cc) (hP : HW g S H) (hdg : decode cc pc = .ok (.getfield 48, 3)) (kk : W p l e R s m args below meth c H locs cells slots Q (F0 m (pc + 3) ls (.int (xSc S 4) :: rest))) : W p l e R s m args below meth c H locs cells slots Q (F0 m (pc) ls (.ref (gA g 0) :: rest)) :=
  va_get (D := gD g) (ci := 0) (v := .int (xSc S 4)) (C := RX0) (T := TX0) (N := 16) C.1 hb C.2.2.1 inlX0 C.2.1 C.2.2.2.1 hP.1 0 rfl rfl 11 (by decide) (C.2.2.1 _ wm_35) (fun _ h9 => h9) rfl hdg kk
theorem pX_spreadNow (C : CW g RX0 p s m args) (hb : c.code = cc) (hP : HW g S H) (hS : va_S (Ab g) s.heap H locs) {x : Int32} (hdg : decode cc pc = .ok (.putfield 48, 3)) (kk : ∀ (H1 : Heap) (locs1 : List Loc), HW g (xsSc S 4 x) H1 → va_S (Ab g) s.heap H1 locs1 → W p l e R s m args below meth c H1 locs1 cells slots Q (F0 m (pc + 3) ls rest)) : W p l e R s m args below meth c H locs cells slots Q (F0 m (pc) ls (.int x :: .ref (gA g 0) :: rest)) :=
  va_put (D := gD g) (ci := 0) (v := .int x) (ty := .int) (C := RX0) (T := TX0) (N := 16) C.1 hb C.2.2.1 inlX0 tyX0 tyX0_ok nmX0 C.2.1 C.2.2.2.1 hP.1 hP.2 hS 0 rfl rfl 11 (by decide) (C.2.2.1 _ wm_35) (fun _ h9 => h9) rfl (by decide +kernel) rfl rfl (Nat.le_of_ble_eq_true rfl) hdg (fun H1 locs1 hP1 hD1 hS1 => kk H1 locs1 ⟨hP1, hD1⟩ hS1)
theorem gX_baseNow (C : CW g RX0 p s m args) (hb : c.code = cc) (hP : HW g S H) (hdg : decode cc pc = .ok (.getfield 51, 3)) (kk : W p l e R s m args below meth c H locs cells slots Q (F0 m (pc + 3) ls (.long (xBase S) :: rest))) : W p l e R s m args below meth c H locs cells slots Q (F0 m (pc) ls (.ref (gA g 0) :: rest)) :=
  va_get (D := gD g) (ci := 0) (v := .long (xBase S)) (C := RX0) (T := TX0) (N := 16) C.1 hb C.2.2.1 inlX0 C.2.1 C.2.2.2.1 hP.1 0 rfl rfl 12 (by decide) (C.2.2.1 _ wm_36) (fun _ h9 => h9) rfl hdg kk
theorem pX_baseNow (C : CW g RX0 p s m args) (hb : c.code = cc) (hP : HW g S H) (hS : va_S (Ab g) s.heap H locs) {x : Int64} (hdg : decode cc pc = .ok (.putfield 51, 3)) (kk : ∀ (H1 : Heap) (locs1 : List Loc), HW g (xsBase S x) H1 → va_S (Ab g) s.heap H1 locs1 → W p l e R s m args below meth c H1 locs1 cells slots Q (F0 m (pc + 3) ls rest)) : W p l e R s m args below meth c H locs cells slots Q (F0 m (pc) ls (.long x :: .ref (gA g 0) :: rest)) :=
  va_put (D := gD g) (ci := 0) (v := .long x) (ty := .long) (C := RX0) (T := TX0) (N := 16) C.1 hb C.2.2.1 inlX0 tyX0 tyX0_ok nmX0 C.2.1 C.2.2.2.1 hP.1 hP.2 hS 0 rfl rfl 12 (by decide) (C.2.2.1 _ wm_36) (fun _ h9 => h9) rfl (by decide +kernel) rfl rfl (Nat.le_of_ble_eq_true rfl) hdg (fun H1 locs1 hP1 hD1 hS1 => kk H1 locs1 ⟨hP1, hD1⟩ hS1)
theorem gX_fittedLosses (C : CW g RX0 p s m args) (hb : c.code = cc) (hP : HW g S H) (hdg : decode cc pc = .ok (.getfield 55, 3)) (kk : W p l e R s m args below meth c H locs cells slots Q (F0 m (pc + 3) ls (.ref (gA g 14) :: rest))) : W p l e R s m args below meth c H locs cells slots Q (F0 m (pc) ls (.ref (gA g 0) :: rest)) :=
  va_get (D := gD g) (ci := 0) (v := .ref (gA g 14)) (C := RX0) (T := TX0) (N := 16) C.1 hb C.2.2.1 inlX0 C.2.1 C.2.2.2.1 hP.1 0 rfl rfl 13 (by decide) (C.2.2.1 _ wm_37) (fun _ h9 => h9) rfl hdg kk
theorem gX_groupStarts (C : CW g RX0 p s m args) (hb : c.code = cc) (hP : HW g S H) (hdg : decode cc pc = .ok (.getfield 58, 3)) (kk : W p l e R s m args below meth c H locs cells slots Q (F0 m (pc + 3) ls (.ref (gA g 15) :: rest))) : W p l e R s m args below meth c H locs cells slots Q (F0 m (pc) ls (.ref (gA g 0) :: rest)) :=
  va_get (D := gD g) (ci := 0) (v := .ref (gA g 15)) (C := RX0) (T := TX0) (N := 16) C.1 hb C.2.2.1 inlX0 C.2.1 C.2.2.2.1 hP.1 0 rfl rfl 14 (by decide) (C.2.2.1 _ wm_38) (fun _ h9 => h9) rfl hdg kk
theorem gX_factorsBefore (C : CW g RX0 p s m args) (hb : c.code = cc) (hP : HW g S H) (hdg : decode cc pc = .ok (.getfield 61, 3)) (kk : W p l e R s m args below meth c H locs cells slots Q (F0 m (pc + 3) ls (.ref (gA g 16) :: rest))) : W p l e R s m args below meth c H locs cells slots Q (F0 m (pc) ls (.ref (gA g 0) :: rest)) :=
  va_get (D := gD g) (ci := 0) (v := .ref (gA g 16)) (C := RX0) (T := TX0) (N := 16) C.1 hb C.2.2.1 inlX0 C.2.1 C.2.2.2.1 hP.1 0 rfl rfl 15 (by decide) (C.2.2.1 _ wm_39) (fun _ h9 => h9) rfl hdg kk
theorem ldX_exposures (C : CW g own p s m args) (hb : c.code = cc) (hP : HW g S H) {i : Int32} {j : Nat} (hi : i = nI j) (hj : j < 40) (hdg : decode cc pc = .ok (.laload, 1)) (kk : W p l e R s m args below meth c H locs cells slots Q (F0 m (pc + 1) ls (.long (xLng S 0 j) :: rest))) : W p l e R s m args below meth c H locs cells slots Q (F0 m (pc) ls (.int i :: .ref (gA g 9) :: rest)) := by
  subst hi
  refine va_lald (D := gD g) (f := xLng S 0) C.1 hb C.2.2.2.1 hP.1 9 1 rfl rfl (vp_in_nI hj (by decide)) hdg ?_
  rw [nI_clamp (by omega)]
  exact kk
theorem stX_exposures (C : CW g own p s m args) (hb : c.code = cc) (hP : HW g S H) (hS : va_S (Ab g) s.heap H locs) {i : Int32} {j : Nat} {x : Int64} (hi : i = nI j) (hj : j < 40) (hdg : decode cc pc = .ok (.lastore, 1)) (kk : ∀ (H1 : Heap) (locs1 : List Loc), HW g (xsLng S 0 (vp_updL (xLng S 0) j x)) H1 → va_S (Ab g) s.heap H1 locs1 → W p l e R s m args below meth c H1 locs1 cells slots Q (F0 m (pc + 1) ls rest)) : W p l e R s m args below meth c H locs cells slots Q (F0 m (pc) ls (.long x :: .int i :: .ref (gA g 9) :: rest)) := by
  subst hi
  refine va_last (D := gD g) (f := xLng S 0) C.1 hb C.2.2.2.1 hP.1 hP.2 hS 9 1 rfl rfl (vp_in_nI hj (by decide)) hdg (fun H1 locs1 hP1 hD1 hS1 => kk H1 locs1 ?_ hS1)
  rw [nI_clamp (by omega)] at hP1 hD1
  exact ⟨hP1, hD1⟩
theorem ldX_claims (C : CW g own p s m args) (hb : c.code = cc) (hP : HW g S H) {i : Int32} {j : Nat} (hi : i = nI j) (hj : j < 40) (hdg : decode cc pc = .ok (.laload, 1)) (kk : W p l e R s m args below meth c H locs cells slots Q (F0 m (pc + 1) ls (.long (xLng S 1 j) :: rest))) : W p l e R s m args below meth c H locs cells slots Q (F0 m (pc) ls (.int i :: .ref (gA g 10) :: rest)) := by
  subst hi
  refine va_lald (D := gD g) (f := xLng S 1) C.1 hb C.2.2.2.1 hP.1 10 1 rfl rfl (vp_in_nI hj (by decide)) hdg ?_
  rw [nI_clamp (by omega)]
  exact kk
theorem stX_claims (C : CW g own p s m args) (hb : c.code = cc) (hP : HW g S H) (hS : va_S (Ab g) s.heap H locs) {i : Int32} {j : Nat} {x : Int64} (hi : i = nI j) (hj : j < 40) (hdg : decode cc pc = .ok (.lastore, 1)) (kk : ∀ (H1 : Heap) (locs1 : List Loc), HW g (xsLng S 1 (vp_updL (xLng S 1) j x)) H1 → va_S (Ab g) s.heap H1 locs1 → W p l e R s m args below meth c H1 locs1 cells slots Q (F0 m (pc + 1) ls rest)) : W p l e R s m args below meth c H locs cells slots Q (F0 m (pc) ls (.long x :: .int i :: .ref (gA g 10) :: rest)) := by
  subst hi
  refine va_last (D := gD g) (f := xLng S 1) C.1 hb C.2.2.2.1 hP.1 hP.2 hS 10 1 rfl rfl (vp_in_nI hj (by decide)) hdg (fun H1 locs1 hP1 hD1 hS1 => kk H1 locs1 ?_ hS1)
  rw [nI_clamp (by omega)] at hP1 hD1
  exact ⟨hP1, hD1⟩
theorem ldX_losses (C : CW g own p s m args) (hb : c.code = cc) (hP : HW g S H) {i : Int32} {j : Nat} (hi : i = nI j) (hj : j < 40) (hdg : decode cc pc = .ok (.laload, 1)) (kk : W p l e R s m args below meth c H locs cells slots Q (F0 m (pc + 1) ls (.long (xLng S 2 j) :: rest))) : W p l e R s m args below meth c H locs cells slots Q (F0 m (pc) ls (.int i :: .ref (gA g 11) :: rest)) := by
  subst hi
  refine va_lald (D := gD g) (f := xLng S 2) C.1 hb C.2.2.2.1 hP.1 11 1 rfl rfl (vp_in_nI hj (by decide)) hdg ?_
  rw [nI_clamp (by omega)]
  exact kk
theorem stX_losses (C : CW g own p s m args) (hb : c.code = cc) (hP : HW g S H) (hS : va_S (Ab g) s.heap H locs) {i : Int32} {j : Nat} {x : Int64} (hi : i = nI j) (hj : j < 40) (hdg : decode cc pc = .ok (.lastore, 1)) (kk : ∀ (H1 : Heap) (locs1 : List Loc), HW g (xsLng S 2 (vp_updL (xLng S 2) j x)) H1 → va_S (Ab g) s.heap H1 locs1 → W p l e R s m args below meth c H1 locs1 cells slots Q (F0 m (pc + 1) ls rest)) : W p l e R s m args below meth c H locs cells slots Q (F0 m (pc) ls (.long x :: .int i :: .ref (gA g 11) :: rest)) := by
  subst hi
  refine va_last (D := gD g) (f := xLng S 2) C.1 hb C.2.2.2.1 hP.1 hP.2 hS 11 1 rfl rfl (vp_in_nI hj (by decide)) hdg (fun H1 locs1 hP1 hD1 hS1 => kk H1 locs1 ?_ hS1)
  rw [nI_clamp (by omega)] at hP1 hD1
  exact ⟨hP1, hD1⟩
theorem ldX_oldPremiums (C : CW g own p s m args) (hb : c.code = cc) (hP : HW g S H) {i : Int32} {j : Nat} (hi : i = nI j) (hj : j < 40) (hdg : decode cc pc = .ok (.iaload, 1)) (kk : W p l e R s m args below meth c H locs cells slots Q (F0 m (pc + 1) ls (.int (xIa S 0 j) :: rest))) : W p l e R s m args below meth c H locs cells slots Q (F0 m (pc) ls (.int i :: .ref (gA g 12) :: rest)) := by
  subst hi
  refine va_iald (D := gD g) (f := xIa S 0) C.1 hb C.2.2.2.1 hP.1 12 0 rfl rfl (vp_in_nI hj (by decide)) hdg ?_
  rw [nI_clamp (by omega)]
  exact kk
theorem stX_oldPremiums (C : CW g own p s m args) (hb : c.code = cc) (hP : HW g S H) (hS : va_S (Ab g) s.heap H locs) {i : Int32} {j : Nat} {x : Int32} (hi : i = nI j) (hj : j < 40) (hdg : decode cc pc = .ok (.iastore, 1)) (kk : ∀ (H1 : Heap) (locs1 : List Loc), HW g (xsIa S 0 (upd (xIa S 0) j x)) H1 → va_S (Ab g) s.heap H1 locs1 → W p l e R s m args below meth c H1 locs1 cells slots Q (F0 m (pc + 1) ls rest)) : W p l e R s m args below meth c H locs cells slots Q (F0 m (pc) ls (.int x :: .int i :: .ref (gA g 12) :: rest)) := by
  subst hi
  refine va_iast (D := gD g) (f := xIa S 0) C.1 hb C.2.2.2.1 hP.1 hP.2 hS 12 0 rfl rfl (vp_in_nI hj (by decide)) hdg (fun H1 locs1 hP1 hD1 hS1 => kk H1 locs1 ?_ hS1)
  rw [nI_clamp (by omega)] at hP1 hD1
  exact ⟨hP1, hD1⟩
theorem ldX_live (C : CW g own p s m args) (hb : c.code = cc) (hP : HW g S H) {i : Int32} {j : Nat} (hi : i = nI j) (hj : j < 40) (hdg : decode cc pc = .ok (.baload, 1)) (kk : W p l e R s m args below meth c H locs cells slots Q (F0 m (pc + 1) ls (.int (xIa S 1 j) :: rest))) : W p l e R s m args below meth c H locs cells slots Q (F0 m (pc) ls (.int i :: .ref (gA g 13) :: rest)) := by
  subst hi
  refine va_zald (D := gD g) (f := xIa S 1) C.1 hb C.2.2.2.1 hP.1 13 2 rfl rfl (vp_in_nI hj (by decide)) hdg ?_
  rw [nI_clamp (by omega)]
  exact kk
theorem stX_live (C : CW g own p s m args) (hb : c.code = cc) (hP : HW g S H) (hS : va_S (Ab g) s.heap H locs) {i : Int32} {j : Nat} {x : Int32} (hi : i = nI j) (hj : j < 40) (hz : vp_nar .boolean x = x) (hdg : decode cc pc = .ok (.bastore, 1)) (kk : ∀ (H1 : Heap) (locs1 : List Loc), HW g (xsIa S 1 (upd (xIa S 1) j x)) H1 → va_S (Ab g) s.heap H1 locs1 → W p l e R s m args below meth c H1 locs1 cells slots Q (F0 m (pc + 1) ls rest)) : W p l e R s m args below meth c H locs cells slots Q (F0 m (pc) ls (.int x :: .int i :: .ref (gA g 13) :: rest)) := by
  subst hi
  refine va_zast (D := gD g) (f := xIa S 1) C.1 hb C.2.2.2.1 hP.1 hP.2 hS 13 2 rfl rfl (vp_in_nI hj (by decide)) hdg (fun H1 locs1 hP1 hD1 hS1 => kk H1 locs1 ?_ hS1)
  rw [nI_clamp (by omega), hz] at hP1 hD1
  exact ⟨hP1, hD1⟩
theorem ldX_fittedLosses (C : CW g own p s m args) (hb : c.code = cc) (hP : HW g S H) {i : Int32} {j : Nat} (hi : i = nI j) (hj : j < 40) (hdg : decode cc pc = .ok (.laload, 1)) (kk : W p l e R s m args below meth c H locs cells slots Q (F0 m (pc + 1) ls (.long (xLng S 3 j) :: rest))) : W p l e R s m args below meth c H locs cells slots Q (F0 m (pc) ls (.int i :: .ref (gA g 14) :: rest)) := by
  subst hi
  refine va_lald (D := gD g) (f := xLng S 3) C.1 hb C.2.2.2.1 hP.1 14 1 rfl rfl (vp_in_nI hj (by decide)) hdg ?_
  rw [nI_clamp (by omega)]
  exact kk
theorem stX_fittedLosses (C : CW g own p s m args) (hb : c.code = cc) (hP : HW g S H) (hS : va_S (Ab g) s.heap H locs) {i : Int32} {j : Nat} {x : Int64} (hi : i = nI j) (hj : j < 40) (hdg : decode cc pc = .ok (.lastore, 1)) (kk : ∀ (H1 : Heap) (locs1 : List Loc), HW g (xsLng S 3 (vp_updL (xLng S 3) j x)) H1 → va_S (Ab g) s.heap H1 locs1 → W p l e R s m args below meth c H1 locs1 cells slots Q (F0 m (pc + 1) ls rest)) : W p l e R s m args below meth c H locs cells slots Q (F0 m (pc) ls (.long x :: .int i :: .ref (gA g 14) :: rest)) := by
  subst hi
  refine va_last (D := gD g) (f := xLng S 3) C.1 hb C.2.2.2.1 hP.1 hP.2 hS 14 1 rfl rfl (vp_in_nI hj (by decide)) hdg (fun H1 locs1 hP1 hD1 hS1 => kk H1 locs1 ?_ hS1)
  rw [nI_clamp (by omega)] at hP1 hD1
  exact ⟨hP1, hD1⟩
theorem ldX_groupStarts (C : CW g own p s m args) (hb : c.code = cc) (hP : HW g S H) {i : Int32} {j : Nat} (hi : i = nI j) (hj : j < 4) (hdg : decode cc pc = .ok (.iaload, 1)) (kk : W p l e R s m args below meth c H locs cells slots Q (F0 m (pc + 1) ls (.int (xIa S 2 j) :: rest))) : W p l e R s m args below meth c H locs cells slots Q (F0 m (pc) ls (.int i :: .ref (gA g 15) :: rest)) := by
  subst hi
  refine va_iald (D := gD g) (f := xIa S 2) C.1 hb C.2.2.2.1 hP.1 15 0 rfl rfl (vp_in_nI hj (by decide)) hdg ?_
  rw [nI_clamp (by omega)]
  exact kk
theorem stX_groupStarts (C : CW g own p s m args) (hb : c.code = cc) (hP : HW g S H) (hS : va_S (Ab g) s.heap H locs) {i : Int32} {j : Nat} {x : Int32} (hi : i = nI j) (hj : j < 4) (hdg : decode cc pc = .ok (.iastore, 1)) (kk : ∀ (H1 : Heap) (locs1 : List Loc), HW g (xsIa S 2 (upd (xIa S 2) j x)) H1 → va_S (Ab g) s.heap H1 locs1 → W p l e R s m args below meth c H1 locs1 cells slots Q (F0 m (pc + 1) ls rest)) : W p l e R s m args below meth c H locs cells slots Q (F0 m (pc) ls (.int x :: .int i :: .ref (gA g 15) :: rest)) := by
  subst hi
  refine va_iast (D := gD g) (f := xIa S 2) C.1 hb C.2.2.2.1 hP.1 hP.2 hS 15 0 rfl rfl (vp_in_nI hj (by decide)) hdg (fun H1 locs1 hP1 hD1 hS1 => kk H1 locs1 ?_ hS1)
  rw [nI_clamp (by omega)] at hP1 hD1
  exact ⟨hP1, hD1⟩
theorem ldX_factorsBefore (C : CW g own p s m args) (hb : c.code = cc) (hP : HW g S H) {i : Int32} {j : Nat} (hi : i = nI j) (hj : j < 4) (hdg : decode cc pc = .ok (.iaload, 1)) (kk : W p l e R s m args below meth c H locs cells slots Q (F0 m (pc + 1) ls (.int (xIa S 3 j) :: rest))) : W p l e R s m args below meth c H locs cells slots Q (F0 m (pc) ls (.int i :: .ref (gA g 16) :: rest)) := by
  subst hi
  refine va_iald (D := gD g) (f := xIa S 3) C.1 hb C.2.2.2.1 hP.1 16 0 rfl rfl (vp_in_nI hj (by decide)) hdg ?_
  rw [nI_clamp (by omega)]
  exact kk
theorem stX_factorsBefore (C : CW g own p s m args) (hb : c.code = cc) (hP : HW g S H) (hS : va_S (Ab g) s.heap H locs) {i : Int32} {j : Nat} {x : Int32} (hi : i = nI j) (hj : j < 4) (hdg : decode cc pc = .ok (.iastore, 1)) (kk : ∀ (H1 : Heap) (locs1 : List Loc), HW g (xsIa S 3 (upd (xIa S 3) j x)) H1 → va_S (Ab g) s.heap H1 locs1 → W p l e R s m args below meth c H1 locs1 cells slots Q (F0 m (pc + 1) ls rest)) : W p l e R s m args below meth c H locs cells slots Q (F0 m (pc) ls (.int x :: .int i :: .ref (gA g 16) :: rest)) := by
  subst hi
  refine va_iast (D := gD g) (f := xIa S 3) C.1 hb C.2.2.2.1 hP.1 hP.2 hS 16 0 rfl rfl (vp_in_nI hj (by decide)) hdg (fun H1 locs1 hP1 hD1 hS1 => kk H1 locs1 ?_ hS1)
  rw [nI_clamp (by omega)] at hP1 hD1
  exact ⟨hP1, hD1⟩
theorem ldA_l (C : CW g own p s m args) (hb : c.code = cc) (hP : HW g S H) {i : Int32} {j : Nat} (hi : i = nI j) (hj : j < 36) (hdg : decode cc pc = .ok (.iaload, 1)) (kk : W p l e R s m args below meth c H locs cells slots Q (F0 m (pc + 1) ls (.int (lA S 0 j) :: rest))) : W p l e R s m args below meth c H locs cells slots Q (F0 m (pc) ls (.int i :: .ref (gA g 17) :: rest)) := by
  subst hi
  refine va_iald (D := gD g) (f := lA S 0) C.1 hb C.2.2.2.1 hP.1 17 0 rfl rfl (vp_in_nI hj (by decide)) hdg ?_
  rw [nI_clamp (by omega)]
  exact kk
theorem stA_l (C : CW g own p s m args) (hb : c.code = cc) (hP : HW g S H) (hS : va_S (Ab g) s.heap H locs) {i : Int32} {j : Nat} {x : Int32} (hi : i = nI j) (hj : j < 36) (hdg : decode cc pc = .ok (.iastore, 1)) (kk : ∀ (H1 : Heap) (locs1 : List Loc), HW g (lsA S 0 (upd (lA S 0) j x)) H1 → va_S (Ab g) s.heap H1 locs1 → W p l e R s m args below meth c H1 locs1 cells slots Q (F0 m (pc + 1) ls rest)) : W p l e R s m args below meth c H locs cells slots Q (F0 m (pc) ls (.int x :: .int i :: .ref (gA g 17) :: rest)) := by
  subst hi
  refine va_iast (D := gD g) (f := lA S 0) C.1 hb C.2.2.2.1 hP.1 hP.2 hS 17 0 rfl rfl (vp_in_nI hj (by decide)) hdg (fun H1 locs1 hP1 hD1 hS1 => kk H1 locs1 ?_ hS1)
  rw [nI_clamp (by omega)] at hP1 hD1
  exact ⟨hP1, hD1⟩
theorem ldA_x (C : CW g own p s m args) (hb : c.code = cc) (hP : HW g S H) {i : Int32} {j : Nat} (hi : i = nI j) (hj : j < 12) (hdg : decode cc pc = .ok (.iaload, 1)) (kk : W p l e R s m args below meth c H locs cells slots Q (F0 m (pc + 1) ls (.int (lA S 1 j) :: rest))) : W p l e R s m args below meth c H locs cells slots Q (F0 m (pc) ls (.int i :: .ref (gA g 18) :: rest)) := by
  subst hi
  refine va_iald (D := gD g) (f := lA S 1) C.1 hb C.2.2.2.1 hP.1 18 0 rfl rfl (vp_in_nI hj (by decide)) hdg ?_
  rw [nI_clamp (by omega)]
  exact kk
theorem stA_x (C : CW g own p s m args) (hb : c.code = cc) (hP : HW g S H) (hS : va_S (Ab g) s.heap H locs) {i : Int32} {j : Nat} {x : Int32} (hi : i = nI j) (hj : j < 12) (hdg : decode cc pc = .ok (.iastore, 1)) (kk : ∀ (H1 : Heap) (locs1 : List Loc), HW g (lsA S 1 (upd (lA S 1) j x)) H1 → va_S (Ab g) s.heap H1 locs1 → W p l e R s m args below meth c H1 locs1 cells slots Q (F0 m (pc + 1) ls rest)) : W p l e R s m args below meth c H locs cells slots Q (F0 m (pc) ls (.int x :: .int i :: .ref (gA g 18) :: rest)) := by
  subst hi
  refine va_iast (D := gD g) (f := lA S 1) C.1 hb C.2.2.2.1 hP.1 hP.2 hS 18 0 rfl rfl (vp_in_nI hj (by decide)) hdg (fun H1 locs1 hP1 hD1 hS1 => kk H1 locs1 ?_ hS1)
  rw [nI_clamp (by omega)] at hP1 hD1
  exact ⟨hP1, hD1⟩
theorem ldA_c (C : CW g own p s m args) (hb : c.code = cc) (hP : HW g S H) {i : Int32} {j : Nat} (hi : i = nI j) (hj : j < 12) (hdg : decode cc pc = .ok (.iaload, 1)) (kk : W p l e R s m args below meth c H locs cells slots Q (F0 m (pc + 1) ls (.int (lA S 2 j) :: rest))) : W p l e R s m args below meth c H locs cells slots Q (F0 m (pc) ls (.int i :: .ref (gA g 19) :: rest)) := by
  subst hi
  refine va_iald (D := gD g) (f := lA S 2) C.1 hb C.2.2.2.1 hP.1 19 0 rfl rfl (vp_in_nI hj (by decide)) hdg ?_
  rw [nI_clamp (by omega)]
  exact kk
theorem stA_c (C : CW g own p s m args) (hb : c.code = cc) (hP : HW g S H) (hS : va_S (Ab g) s.heap H locs) {i : Int32} {j : Nat} {x : Int32} (hi : i = nI j) (hj : j < 12) (hdg : decode cc pc = .ok (.iastore, 1)) (kk : ∀ (H1 : Heap) (locs1 : List Loc), HW g (lsA S 2 (upd (lA S 2) j x)) H1 → va_S (Ab g) s.heap H1 locs1 → W p l e R s m args below meth c H1 locs1 cells slots Q (F0 m (pc + 1) ls rest)) : W p l e R s m args below meth c H locs cells slots Q (F0 m (pc) ls (.int x :: .int i :: .ref (gA g 19) :: rest)) := by
  subst hi
  refine va_iast (D := gD g) (f := lA S 2) C.1 hb C.2.2.2.1 hP.1 hP.2 hS 19 0 rfl rfl (vp_in_nI hj (by decide)) hdg (fun H1 locs1 hP1 hD1 hS1 => kk H1 locs1 ?_ hS1)
  rw [nI_clamp (by omega)] at hP1 hD1
  exact ⟨hP1, hD1⟩
theorem ldA_d (C : CW g own p s m args) (hb : c.code = cc) (hP : HW g S H) {i : Int32} {j : Nat} (hi : i = nI j) (hj : j < 12) (hdg : decode cc pc = .ok (.iaload, 1)) (kk : W p l e R s m args below meth c H locs cells slots Q (F0 m (pc + 1) ls (.int (lA S 3 j) :: rest))) : W p l e R s m args below meth c H locs cells slots Q (F0 m (pc) ls (.int i :: .ref (gA g 20) :: rest)) := by
  subst hi
  refine va_iald (D := gD g) (f := lA S 3) C.1 hb C.2.2.2.1 hP.1 20 0 rfl rfl (vp_in_nI hj (by decide)) hdg ?_
  rw [nI_clamp (by omega)]
  exact kk
theorem stA_d (C : CW g own p s m args) (hb : c.code = cc) (hP : HW g S H) (hS : va_S (Ab g) s.heap H locs) {i : Int32} {j : Nat} {x : Int32} (hi : i = nI j) (hj : j < 12) (hdg : decode cc pc = .ok (.iastore, 1)) (kk : ∀ (H1 : Heap) (locs1 : List Loc), HW g (lsA S 3 (upd (lA S 3) j x)) H1 → va_S (Ab g) s.heap H1 locs1 → W p l e R s m args below meth c H1 locs1 cells slots Q (F0 m (pc + 1) ls rest)) : W p l e R s m args below meth c H locs cells slots Q (F0 m (pc) ls (.int x :: .int i :: .ref (gA g 20) :: rest)) := by
  subst hi
  refine va_iast (D := gD g) (f := lA S 3) C.1 hb C.2.2.2.1 hP.1 hP.2 hS 20 0 rfl rfl (vp_in_nI hj (by decide)) hdg (fun H1 locs1 hP1 hD1 hS1 => kk H1 locs1 ?_ hS1)
  rw [nI_clamp (by omega)] at hP1 hD1
  exact ⟨hP1, hD1⟩
theorem ldA_o (C : CW g own p s m args) (hb : c.code = cc) (hP : HW g S H) {i : Int32} {j : Nat} (hi : i = nI j) (hj : j < 12) (hdg : decode cc pc = .ok (.iaload, 1)) (kk : W p l e R s m args below meth c H locs cells slots Q (F0 m (pc + 1) ls (.int (lA S 4 j) :: rest))) : W p l e R s m args below meth c H locs cells slots Q (F0 m (pc) ls (.int i :: .ref (gA g 21) :: rest)) := by
  subst hi
  refine va_iald (D := gD g) (f := lA S 4) C.1 hb C.2.2.2.1 hP.1 21 0 rfl rfl (vp_in_nI hj (by decide)) hdg ?_
  rw [nI_clamp (by omega)]
  exact kk
theorem stA_o (C : CW g own p s m args) (hb : c.code = cc) (hP : HW g S H) (hS : va_S (Ab g) s.heap H locs) {i : Int32} {j : Nat} {x : Int32} (hi : i = nI j) (hj : j < 12) (hdg : decode cc pc = .ok (.iastore, 1)) (kk : ∀ (H1 : Heap) (locs1 : List Loc), HW g (lsA S 4 (upd (lA S 4) j x)) H1 → va_S (Ab g) s.heap H1 locs1 → W p l e R s m args below meth c H1 locs1 cells slots Q (F0 m (pc + 1) ls rest)) : W p l e R s m args below meth c H locs cells slots Q (F0 m (pc) ls (.int x :: .int i :: .ref (gA g 21) :: rest)) := by
  subst hi
  refine va_iast (D := gD g) (f := lA S 4) C.1 hb C.2.2.2.1 hP.1 hP.2 hS 21 0 rfl rfl (vp_in_nI hj (by decide)) hdg (fun H1 locs1 hP1 hD1 hS1 => kk H1 locs1 ?_ hS1)
  rw [nI_clamp (by omega)] at hP1 hD1
  exact ⟨hP1, hD1⟩
theorem ldA_g (C : CW g own p s m args) (hb : c.code = cc) (hP : HW g S H) {i : Int32} {j : Nat} (hi : i = nI j) (hj : j < 12) (hdg : decode cc pc = .ok (.iaload, 1)) (kk : W p l e R s m args below meth c H locs cells slots Q (F0 m (pc + 1) ls (.int (lA S 5 j) :: rest))) : W p l e R s m args below meth c H locs cells slots Q (F0 m (pc) ls (.int i :: .ref (gA g 22) :: rest)) := by
  subst hi
  refine va_iald (D := gD g) (f := lA S 5) C.1 hb C.2.2.2.1 hP.1 22 0 rfl rfl (vp_in_nI hj (by decide)) hdg ?_
  rw [nI_clamp (by omega)]
  exact kk
theorem stA_g (C : CW g own p s m args) (hb : c.code = cc) (hP : HW g S H) (hS : va_S (Ab g) s.heap H locs) {i : Int32} {j : Nat} {x : Int32} (hi : i = nI j) (hj : j < 12) (hdg : decode cc pc = .ok (.iastore, 1)) (kk : ∀ (H1 : Heap) (locs1 : List Loc), HW g (lsA S 5 (upd (lA S 5) j x)) H1 → va_S (Ab g) s.heap H1 locs1 → W p l e R s m args below meth c H1 locs1 cells slots Q (F0 m (pc + 1) ls rest)) : W p l e R s m args below meth c H locs cells slots Q (F0 m (pc) ls (.int x :: .int i :: .ref (gA g 22) :: rest)) := by
  subst hi
  refine va_iast (D := gD g) (f := lA S 5) C.1 hb C.2.2.2.1 hP.1 hP.2 hS 22 0 rfl rfl (vp_in_nI hj (by decide)) hdg (fun H1 locs1 hP1 hD1 hS1 => kk H1 locs1 ?_ hS1)
  rw [nI_clamp (by omega)] at hP1 hD1
  exact ⟨hP1, hD1⟩
theorem ldA_f (C : CW g own p s m args) (hb : c.code = cc) (hP : HW g S H) {i : Int32} {j : Nat} (hi : i = nI j) (hj : j < 12) (hdg : decode cc pc = .ok (.iaload, 1)) (kk : W p l e R s m args below meth c H locs cells slots Q (F0 m (pc + 1) ls (.int (lA S 6 j) :: rest))) : W p l e R s m args below meth c H locs cells slots Q (F0 m (pc) ls (.int i :: .ref (gA g 23) :: rest)) := by
  subst hi
  refine va_iald (D := gD g) (f := lA S 6) C.1 hb C.2.2.2.1 hP.1 23 0 rfl rfl (vp_in_nI hj (by decide)) hdg ?_
  rw [nI_clamp (by omega)]
  exact kk
theorem stA_f (C : CW g own p s m args) (hb : c.code = cc) (hP : HW g S H) (hS : va_S (Ab g) s.heap H locs) {i : Int32} {j : Nat} {x : Int32} (hi : i = nI j) (hj : j < 12) (hdg : decode cc pc = .ok (.iastore, 1)) (kk : ∀ (H1 : Heap) (locs1 : List Loc), HW g (lsA S 6 (upd (lA S 6) j x)) H1 → va_S (Ab g) s.heap H1 locs1 → W p l e R s m args below meth c H1 locs1 cells slots Q (F0 m (pc + 1) ls rest)) : W p l e R s m args below meth c H locs cells slots Q (F0 m (pc) ls (.int x :: .int i :: .ref (gA g 23) :: rest)) := by
  subst hi
  refine va_iast (D := gD g) (f := lA S 6) C.1 hb C.2.2.2.1 hP.1 hP.2 hS 23 0 rfl rfl (vp_in_nI hj (by decide)) hdg (fun H1 locs1 hP1 hD1 hS1 => kk H1 locs1 ?_ hS1)
  rw [nI_clamp (by omega)] at hP1 hD1
  exact ⟨hP1, hD1⟩
theorem ldA_m (C : CW g own p s m args) (hb : c.code = cc) (hP : HW g S H) {i : Int32} {j : Nat} (hi : i = nI j) (hj : j < 4) (hdg : decode cc pc = .ok (.iaload, 1)) (kk : W p l e R s m args below meth c H locs cells slots Q (F0 m (pc + 1) ls (.int (lA S 7 j) :: rest))) : W p l e R s m args below meth c H locs cells slots Q (F0 m (pc) ls (.int i :: .ref (gA g 24) :: rest)) := by
  subst hi
  refine va_iald (D := gD g) (f := lA S 7) C.1 hb C.2.2.2.1 hP.1 24 0 rfl rfl (vp_in_nI hj (by decide)) hdg ?_
  rw [nI_clamp (by omega)]
  exact kk
theorem stA_m (C : CW g own p s m args) (hb : c.code = cc) (hP : HW g S H) (hS : va_S (Ab g) s.heap H locs) {i : Int32} {j : Nat} {x : Int32} (hi : i = nI j) (hj : j < 4) (hdg : decode cc pc = .ok (.iastore, 1)) (kk : ∀ (H1 : Heap) (locs1 : List Loc), HW g (lsA S 7 (upd (lA S 7) j x)) H1 → va_S (Ab g) s.heap H1 locs1 → W p l e R s m args below meth c H1 locs1 cells slots Q (F0 m (pc + 1) ls rest)) : W p l e R s m args below meth c H locs cells slots Q (F0 m (pc) ls (.int x :: .int i :: .ref (gA g 24) :: rest)) := by
  subst hi
  refine va_iast (D := gD g) (f := lA S 7) C.1 hb C.2.2.2.1 hP.1 hP.2 hS 24 0 rfl rfl (vp_in_nI hj (by decide)) hdg (fun H1 locs1 hP1 hD1 hS1 => kk H1 locs1 ?_ hS1)
  rw [nI_clamp (by omega)] at hP1 hD1
  exact ⟨hP1, hD1⟩
theorem al_fac (C : CW g own p s m args) (hb : c.code = cc) (hP : HW g S H) {i : Int32} {t : Nat} (hi : i = nI t) (ht : t < 3) (hdg : decode cc pc = .ok (.aaload, 1)) (kk : W p l e R s m args below meth c H locs cells slots Q (F0 m (pc + 1) ls (.ref (gA g (3 + t)) :: rest))) : W p l e R s m args below meth c H locs cells slots Q (F0 m (pc) ls (.int i :: .ref (gA g 1) :: rest)) := by
  subst hi
  have hin : vp_in (nI t) 3 := vp_in_nI ht (by decide)
  have hlt : (nI t).toNatClampNeg < 3 := by rw [nI_clamp (by omega)]; exact ht
  refine W.aald (v := .ref (gA g (3 + t))) (ty := .array .int) C.1 hb (hP.1 1 _ rfl) ((C.2.2.2.1.2 3 _ rfl).1 3 (fun j => va_rf (some (gA g (3 + j))))) rfl (fun q => by cases q) (by show ¬ (nI t < 0 ∨ (arrV _ _ _).slots.size ≤ _); rw [arrV_size]; exact hin) (by show (arrV _ _ _).slots[_]? = _; rw [arrV_read _ _ hlt, nI_clamp (by omega)]; rfl) rfl rfl hdg kk
theorem wW_fac (g : gG) (S : WS) {t : Nat} (ht : t < 3) : (wW g S)[3 + t]? = some (gA g (3 + t), .inl (gT g 0, 4, .inl (xFac S t))) := by
  rcases (show t = 0 ∨ t = 1 ∨ t = 2 by omega) with rfl | rfl | rfl <;> rfl
theorem wW_sfac (g : gG) (S : WS) {t : Nat} (ht : t < 3) (f : Nat → Int32) : (wW g S).set (3 + t) (gA g (3 + t), .inl (gT g 0, 4, .inl f)) = wW g (xsFac S t f) := by
  rcases (show t = 0 ∨ t = 1 ∨ t = 2 by omega) with rfl | rfl | rfl <;> rfl
theorem ldX_fac (C : CW g own p s m args) (hb : c.code = cc) (hP : HW g S H) {t : Nat} (ht : t < 3) {i : Int32} {j : Nat} (hi : i = nI j) (hj : j < 4) (hdg : decode cc pc = .ok (.iaload, 1)) (kk : W p l e R s m args below meth c H locs cells slots Q (F0 m (pc + 1) ls (.int (xFac S t j) :: rest))) : W p l e R s m args below meth c H locs cells slots Q (F0 m (pc) ls (.int i :: .ref (gA g (3 + t)) :: rest)) := by
  subst hi
  refine va_iald (D := gD g) (f := xFac S t) C.1 hb C.2.2.2.1 hP.1 (3 + t) 0 (wW_fac g S ht) rfl (vp_in_nI hj (by decide)) hdg ?_
  rw [nI_clamp (by omega)]
  exact kk
theorem stX_fac (C : CW g own p s m args) (hb : c.code = cc) (hP : HW g S H) (hS : va_S (Ab g) s.heap H locs) {t : Nat} (ht : t < 3) {i : Int32} {j : Nat} {x : Int32} (hi : i = nI j) (hj : j < 4) (hdg : decode cc pc = .ok (.iastore, 1)) (kk : ∀ (H1 : Heap) (locs1 : List Loc), HW g (xsFac S t (upd (xFac S t) j x)) H1 → va_S (Ab g) s.heap H1 locs1 → W p l e R s m args below meth c H1 locs1 cells slots Q (F0 m (pc + 1) ls rest)) : W p l e R s m args below meth c H locs cells slots Q (F0 m (pc) ls (.int x :: .int i :: .ref (gA g (3 + t)) :: rest)) := by
  subst hi
  refine va_iast (D := gD g) (f := xFac S t) C.1 hb C.2.2.2.1 hP.1 hP.2 hS (3 + t) 0 (wW_fac g S ht) rfl (vp_in_nI hj (by decide)) hdg (fun H1 locs1 hP1 hD1 hS1 => kk H1 locs1 ?_ hS1)
  rw [nI_clamp (by omega), wW_sfac g S ht] at hP1 hD1
  exact ⟨hP1, hD1⟩
theorem al_lev (C : CW g own p s m args) (hb : c.code = cc) (hP : HW g S H) {i : Int32} {t : Nat} (hi : i = nI t) (ht : t < 3) (hdg : decode cc pc = .ok (.aaload, 1)) (kk : W p l e R s m args below meth c H locs cells slots Q (F0 m (pc + 1) ls (.ref (gA g (6 + t)) :: rest))) : W p l e R s m args below meth c H locs cells slots Q (F0 m (pc) ls (.int i :: .ref (gA g 2) :: rest)) := by
  subst hi
  have hin : vp_in (nI t) 3 := vp_in_nI ht (by decide)
  have hlt : (nI t).toNatClampNeg < 3 := by rw [nI_clamp (by omega)]; exact ht
  refine W.aald (v := .ref (gA g (6 + t))) (ty := .array .int) C.1 hb (hP.1 2 _ rfl) ((C.2.2.2.1.2 3 _ rfl).1 3 (fun j => va_rf (some (gA g (6 + j))))) rfl (fun q => by cases q) (by show ¬ (nI t < 0 ∨ (arrV _ _ _).slots.size ≤ _); rw [arrV_size]; exact hin) (by show (arrV _ _ _).slots[_]? = _; rw [arrV_read _ _ hlt, nI_clamp (by omega)]; rfl) rfl rfl hdg kk
theorem wW_lev (g : gG) (S : WS) {t : Nat} (ht : t < 3) : (wW g S)[6 + t]? = some (gA g (6 + t), .inl (gT g 0, 40, .inl (xLev S t))) := by
  rcases (show t = 0 ∨ t = 1 ∨ t = 2 by omega) with rfl | rfl | rfl <;> rfl
theorem wW_slev (g : gG) (S : WS) {t : Nat} (ht : t < 3) (f : Nat → Int32) : (wW g S).set (6 + t) (gA g (6 + t), .inl (gT g 0, 40, .inl f)) = wW g (xsLev S t f) := by
  rcases (show t = 0 ∨ t = 1 ∨ t = 2 by omega) with rfl | rfl | rfl <;> rfl
theorem ldX_lev (C : CW g own p s m args) (hb : c.code = cc) (hP : HW g S H) {t : Nat} (ht : t < 3) {i : Int32} {j : Nat} (hi : i = nI j) (hj : j < 40) (hdg : decode cc pc = .ok (.iaload, 1)) (kk : W p l e R s m args below meth c H locs cells slots Q (F0 m (pc + 1) ls (.int (xLev S t j) :: rest))) : W p l e R s m args below meth c H locs cells slots Q (F0 m (pc) ls (.int i :: .ref (gA g (6 + t)) :: rest)) := by
  subst hi
  refine va_iald (D := gD g) (f := xLev S t) C.1 hb C.2.2.2.1 hP.1 (6 + t) 0 (wW_lev g S ht) rfl (vp_in_nI hj (by decide)) hdg ?_
  rw [nI_clamp (by omega)]
  exact kk
theorem stX_lev (C : CW g own p s m args) (hb : c.code = cc) (hP : HW g S H) (hS : va_S (Ab g) s.heap H locs) {t : Nat} (ht : t < 3) {i : Int32} {j : Nat} {x : Int32} (hi : i = nI j) (hj : j < 40) (hdg : decode cc pc = .ok (.iastore, 1)) (kk : ∀ (H1 : Heap) (locs1 : List Loc), HW g (xsLev S t (upd (xLev S t) j x)) H1 → va_S (Ab g) s.heap H1 locs1 → W p l e R s m args below meth c H1 locs1 cells slots Q (F0 m (pc + 1) ls rest)) : W p l e R s m args below meth c H locs cells slots Q (F0 m (pc) ls (.int x :: .int i :: .ref (gA g (6 + t)) :: rest)) := by
  subst hi
  refine va_iast (D := gD g) (f := xLev S t) C.1 hb C.2.2.2.1 hP.1 hP.2 hS (6 + t) 0 (wW_lev g S ht) rfl (vp_in_nI hj (by decide)) hdg (fun H1 locs1 hP1 hD1 hS1 => kk H1 locs1 ?_ hS1)
  rw [nI_clamp (by omega), wW_slev g S ht] at hP1 hD1
  exact ⟨hP1, hD1⟩
theorem gX_LEVELS (C : CW g RX0 p s m args) (hb : c.code = cc) (hS : va_S (Ab g) s.heap H locs) (hdg : decode cc pc = .ok (.getstatic 130, 3)) (kk : W p l e R s m args below meth c H locs cells slots Q (F0 m (pc + 3) ls (.ref (gL g) :: rest))) : W p l e R s m args below meth c H locs cells slots Q (F0 m (pc) ls rest) :=
  va_gets C.1 hb C.2.2.2.2.1 hS C.2.1 (C.2.2.1 _ wm_64) (fun _ h9 => h9) hdg kk
theorem ldX_LEVELS (C : CW g own p s m args) (hb : c.code = cc) (hS : va_S (Ab g) s.heap H locs) {i : Int32} {j : Nat} (hi : i = nI j) (hj : j < 3) (hdg : decode cc pc = .ok (.iaload, 1)) (kk : W p l e R s m args below meth c H locs cells slots Q (F0 m (pc + 1) ls (.int (nI (levN j)) :: rest))) : W p l e R s m args below meth c H locs cells slots Q (F0 m (pc) ls (.int i :: .ref (gL g) :: rest)) := by
  subst hi
  exact va_ti C.1 hb C.2.2.2.2.2.1 hS (vp_in_nI hj (by decide)) (by rw [nI_clamp (by omega)]) hdg kk
theorem lc_le (C : CW g own p s m args) (hb : c.code = cc) {x y : Int64} {off : Int} {tgt : Nat} (hd0 : decode cc pc = .ok (.lcmp, 1)) (hdg : decode cc (pc + 1) = .ok (.ifCond .le off, 3)) (ht : ((pc + 1 : Nat) : Int) + off = (tgt : Int)) (kt : x ≤ y → W p l e R s m args below meth c H locs cells slots Q (F0 m (tgt) ls rest)) (kf : ¬ x ≤ y → W p l e R s m args below meth c H locs cells slots Q (F0 m (pc + 4) ls rest)) : W p l e R s m args below meth c H locs cells slots Q (F0 m (pc) ls (.long y :: .long x :: rest)) := by
  refine W.lcmp C.1 hb hd0 ?_
  refine lv_if_le C.1 hb hdg ht (fun h => kt ?_) (fun h => kf ?_)
  · exact lc_le_iff.mp h
  · exact fun q => h (lc_le_iff.mpr q)
theorem lc_ge (C : CW g own p s m args) (hb : c.code = cc) {x y : Int64} {off : Int} {tgt : Nat} (hd0 : decode cc pc = .ok (.lcmp, 1)) (hdg : decode cc (pc + 1) = .ok (.ifCond .ge off, 3)) (ht : ((pc + 1 : Nat) : Int) + off = (tgt : Int)) (kt : y ≤ x → W p l e R s m args below meth c H locs cells slots Q (F0 m (tgt) ls rest)) (kf : ¬ y ≤ x → W p l e R s m args below meth c H locs cells slots Q (F0 m (pc + 4) ls rest)) : W p l e R s m args below meth c H locs cells slots Q (F0 m (pc) ls (.long y :: .long x :: rest)) := by
  refine W.lcmp C.1 hb hd0 ?_
  refine lv_if_ge C.1 hb hdg ht (fun h => kt ?_) (fun h => kf ?_)
  · exact lc_ge_iff.mp h
  · exact fun q => h (lc_ge_iff.mpr q)
theorem lc_lt (C : CW g own p s m args) (hb : c.code = cc) {x y : Int64} {off : Int} {tgt : Nat} (hd0 : decode cc pc = .ok (.lcmp, 1)) (hdg : decode cc (pc + 1) = .ok (.ifCond .lt off, 3)) (ht : ((pc + 1 : Nat) : Int) + off = (tgt : Int)) (kt : x < y → W p l e R s m args below meth c H locs cells slots Q (F0 m (tgt) ls rest)) (kf : ¬ x < y → W p l e R s m args below meth c H locs cells slots Q (F0 m (pc + 4) ls rest)) : W p l e R s m args below meth c H locs cells slots Q (F0 m (pc) ls (.long y :: .long x :: rest)) := by
  refine W.lcmp C.1 hb hd0 ?_
  refine lv_if_lt C.1 hb hdg ht (fun h => kt ?_) (fun h => kf ?_)
  · exact lc_lt_iff.mp h
  · exact fun q => h (lc_lt_iff.mpr q)
theorem lc_gt (C : CW g own p s m args) (hb : c.code = cc) {x y : Int64} {off : Int} {tgt : Nat} (hd0 : decode cc pc = .ok (.lcmp, 1)) (hdg : decode cc (pc + 1) = .ok (.ifCond .gt off, 3)) (ht : ((pc + 1 : Nat) : Int) + off = (tgt : Int)) (kt : y < x → W p l e R s m args below meth c H locs cells slots Q (F0 m (tgt) ls rest)) (kf : ¬ y < x → W p l e R s m args below meth c H locs cells slots Q (F0 m (pc + 4) ls rest)) : W p l e R s m args below meth c H locs cells slots Q (F0 m (pc) ls (.long y :: .long x :: rest)) := by
  refine W.lcmp C.1 hb hd0 ?_
  refine lv_if_gt C.1 hb hdg ht (fun h => kt ?_) (fun h => kf ?_)
  · exact lc_gt_iff.mp h
  · exact fun q => h (lc_gt_iff.mpr q)
theorem lc_eq (C : CW g own p s m args) (hb : c.code = cc) {x y : Int64} {off : Int} {tgt : Nat} (hd0 : decode cc pc = .ok (.lcmp, 1)) (hdg : decode cc (pc + 1) = .ok (.ifCond .eq off, 3)) (ht : ((pc + 1 : Nat) : Int) + off = (tgt : Int)) (kt : x = y → W p l e R s m args below meth c H locs cells slots Q (F0 m (tgt) ls rest)) (kf : ¬ x = y → W p l e R s m args below meth c H locs cells slots Q (F0 m (pc + 4) ls rest)) : W p l e R s m args below meth c H locs cells slots Q (F0 m (pc) ls (.long y :: .long x :: rest)) := by
  refine W.lcmp C.1 hb hd0 ?_
  refine lv_if_eq C.1 hb hdg ht (fun h => kt ?_) (fun h => kf ?_)
  · exact lc_eq_iff.mp h
  · exact fun q => h (lc_eq_iff.mpr q)
theorem lc_ne (C : CW g own p s m args) (hb : c.code = cc) {x y : Int64} {off : Int} {tgt : Nat} (hd0 : decode cc pc = .ok (.lcmp, 1)) (hdg : decode cc (pc + 1) = .ok (.ifCond .ne off, 3)) (ht : ((pc + 1 : Nat) : Int) + off = (tgt : Int)) (kt : ¬ x = y → W p l e R s m args below meth c H locs cells slots Q (F0 m (tgt) ls rest)) (kf : x = y → W p l e R s m args below meth c H locs cells slots Q (F0 m (pc + 4) ls rest)) : W p l e R s m args below meth c H locs cells slots Q (F0 m (pc) ls (.long y :: .long x :: rest)) := by
  refine W.lcmp C.1 hb hd0 ?_
  refine lv_if_ne C.1 hb hdg ht (fun h => kt ?_) (fun h => kf ?_)
  · exact lc_ne_iff.mp h
  · exact lc_eq_iff.mp h
end WROWS
