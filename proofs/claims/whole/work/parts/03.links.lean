theorem kf_X7_10 : Cond.fieldLink RX7 10 "TruthSums" "text" "LTruthSums$Text;" ∈ lw_tbl := List.mem_of_getElem? (i := 226) (by decide +kernel)
theorem kf_X7_19 : Cond.fieldLink RX7 19 "TruthSums" "reader" "LTruthSums$Reader;" ∈ lw_tbl := List.mem_of_getElem? (i := 227) (by decide +kernel)
theorem kf_X7_26 : Cond.fieldLink RX7 26 "TruthSums" "forcing" "LTruthSums$Forcing;" ∈ lw_tbl := List.mem_of_getElem? (i := 228) (by decide +kernel)
theorem kf_X7_33 : Cond.fieldLink RX7 33 "TruthSums" "fitting" "LTruthSums$Fit;" ∈ lw_tbl := List.mem_of_getElem? (i := 229) (by decide +kernel)
theorem kf_X7_39 : Cond.fieldLink RX7 39 "TruthSums" "lines" "[LTruthSums$Line;" ∈ lw_tbl := List.mem_of_getElem? (i := 230) (by decide +kernel)
theorem kf_X7_44 : Cond.fieldLink RX7 44 "TruthSums" "givenWorlds" "[J" ∈ lw_tbl := List.mem_of_getElem? (i := 231) (by decide +kernel)
theorem kf_X7_48 : Cond.fieldLink RX7 48 "TruthSums" "costs" "[I" ∈ lw_tbl := List.mem_of_getElem? (i := 232) (by decide +kernel)
theorem kf_X7_52 : Cond.fieldLink RX7 52 "TruthSums" "wrongStep" "I" ∈ lw_tbl := List.mem_of_getElem? (i := 236) (by decide +kernel)
theorem kf_X7_56 : Cond.fieldLink RX7 56 "TruthSums" "wrongKind" "I" ∈ lw_tbl := List.mem_of_getElem? (i := 237) (by decide +kernel)
theorem kf_X7_59 : Cond.fieldLink RX7 59 "TruthSums$Text" "length" "I" ∈ lw_tbl := List.mem_of_getElem? (i := 86) (by decide +kernel)
theorem kf_X7_74 : Cond.fieldLink RX7 74 "TruthSums$Reader" "told" "[LTruthSums$Line;" ∈ lw_tbl := List.mem_of_getElem? (i := 171) (by decide +kernel)
theorem kf_X7_81 : Cond.fieldLink RX7 81 "TruthSums" "givenCount" "I" ∈ lw_tbl := List.mem_of_getElem? (i := 233) (by decide +kernel)
theorem kf_X7_91 : Cond.fieldLink RX7 91 "TruthSums" "stepCount" "I" ∈ lw_tbl := List.mem_of_getElem? (i := 235) (by decide +kernel)
theorem kf_X7_97 : Cond.fieldLink RX7 97 "TruthSums" "proofCount" "I" ∈ lw_tbl := List.mem_of_getElem? (i := 234) (by decide +kernel)
theorem kf_X7_100 : Cond.fieldLink RX7 100 "TruthSums$Reader" "steps" "[LTruthSums$Step;" ∈ lw_tbl := List.mem_of_getElem? (i := 173) (by decide +kernel)
theorem kf_X7_104 : Cond.fieldLink RX7 104 "TruthSums$Step" "kind" "I" ∈ lw_tbl := List.mem_of_getElem? (i := 153) (by decide +kernel)
theorem kf_X7_117 : Cond.fieldLink RX7 117 "TruthSums$Step" "first" "I" ∈ lw_tbl := List.mem_of_getElem? (i := 155) (by decide +kernel)
theorem kf_X7_124 : Cond.fieldLink RX7 124 "TruthSums$Step" "second" "I" ∈ lw_tbl := List.mem_of_getElem? (i := 157) (by decide +kernel)
theorem kf_X7_156 : Cond.fieldLink RX7 156 "TruthSums$Step" "claimed" "LTruthSums$Line;" ∈ lw_tbl := List.mem_of_getElem? (i := 160) (by decide +kernel)
theorem kf_X7_167 : Cond.fieldLink RX7 167 "TruthSums$Forcing" "clashes" "Z" ∈ lw_tbl := List.mem_of_getElem? (i := 193) (by decide +kernel)
theorem kf_X7_172 : Cond.fieldLink RX7 172 "TruthSums$Line" "degree" "I" ∈ lw_tbl := List.mem_of_getElem? (i := 139) (by decide +kernel)
theorem kf_X7_175 : Cond.fieldLink RX7 175 "TruthSums$Line" "weights" "[I" ∈ lw_tbl := List.mem_of_getElem? (i := 135) (by decide +kernel)
theorem kf_X7_197 : Cond.fieldLink RX7 197 "TruthSums$Forcing" "so" "I" ∈ lw_tbl := List.mem_of_getElem? (i := 189) (by decide +kernel)
theorem kf_X7_200 : Cond.fieldLink RX7 200 "TruthSums$Forcing" "not" "I" ∈ lw_tbl := List.mem_of_getElem? (i := 191) (by decide +kernel)
theorem kf_X7_235 : Cond.fieldLink RX7 235 "TruthSums$Fit" "a" "I" ∈ lw_tbl := List.mem_of_getElem? (i := 208) (by decide +kernel)
theorem kf_X7_238 : Cond.fieldLink RX7 238 "TruthSums$Fit" "b" "I" ∈ lw_tbl := List.mem_of_getElem? (i := 210) (by decide +kernel)
theorem kf_X7_241 : Cond.fieldLink RX7 241 "TruthSums$Fit" "c" "I" ∈ lw_tbl := List.mem_of_getElem? (i := 212) (by decide +kernel)
theorem kf_X7_244 : Cond.fieldLink RX7 244 "TruthSums$Fit" "degree" "I" ∈ lw_tbl := List.mem_of_getElem? (i := 214) (by decide +kernel)
theorem kf_X0_9 : Cond.fieldLink RX0 9 "TruthSums$Fit" "a" "I" ∈ lw_tbl := List.mem_of_getElem? (i := 207) (by decide +kernel)
theorem kf_X0_13 : Cond.fieldLink RX0 13 "TruthSums$Fit" "b" "I" ∈ lw_tbl := List.mem_of_getElem? (i := 209) (by decide +kernel)
theorem kf_X0_16 : Cond.fieldLink RX0 16 "TruthSums$Fit" "c" "I" ∈ lw_tbl := List.mem_of_getElem? (i := 211) (by decide +kernel)
theorem kf_X0_19 : Cond.fieldLink RX0 19 "TruthSums$Fit" "degree" "I" ∈ lw_tbl := List.mem_of_getElem? (i := 213) (by decide +kernel)
theorem kf_X1_9 : Cond.fieldLink RX1 9 "TruthSums$Forcing" "so" "I" ∈ lw_tbl := List.mem_of_getElem? (i := 188) (by decide +kernel)
theorem kf_X1_15 : Cond.fieldLink RX1 15 "TruthSums$Forcing" "not" "I" ∈ lw_tbl := List.mem_of_getElem? (i := 190) (by decide +kernel)
theorem kf_X1_18 : Cond.fieldLink RX1 18 "TruthSums$Forcing" "clashes" "Z" ∈ lw_tbl := List.mem_of_getElem? (i := 192) (by decide +kernel)
theorem kf_X1_36 : Cond.fieldLink RX1 36 "TruthSums$Line" "degree" "I" ∈ lw_tbl := List.mem_of_getElem? (i := 137) (by decide +kernel)
theorem kf_X1_39 : Cond.fieldLink RX1 39 "TruthSums$Line" "weights" "[I" ∈ lw_tbl := List.mem_of_getElem? (i := 133) (by decide +kernel)
theorem kf_X2_9 : Cond.fieldLink RX2 9 "TruthSums$Line" "weights" "[I" ∈ lw_tbl := List.mem_of_getElem? (i := 132) (by decide +kernel)
theorem kf_X2_15 : Cond.fieldLink RX2 15 "TruthSums$Line" "degree" "I" ∈ lw_tbl := List.mem_of_getElem? (i := 136) (by decide +kernel)
theorem kf_X3_11 : Cond.fieldLink RX3 11 "TruthSums$Reader" "told" "[LTruthSums$Line;" ∈ lw_tbl := List.mem_of_getElem? (i := 170) (by decide +kernel)
theorem kf_X3_19 : Cond.fieldLink RX3 19 "TruthSums$Reader" "steps" "[LTruthSums$Step;" ∈ lw_tbl := List.mem_of_getElem? (i := 172) (by decide +kernel)
theorem kf_X3_26 : Cond.fieldLink RX3 26 "TruthSums$Reader" "tokens" "LTruthSums$Tokens;" ∈ lw_tbl := List.mem_of_getElem? (i := 174) (by decide +kernel)
theorem kf_X3_67 : Cond.fieldLink RX3 67 "TruthSums$Line" "degree" "I" ∈ lw_tbl := List.mem_of_getElem? (i := 138) (by decide +kernel)
theorem kf_X3_75 : Cond.fieldLink RX3 75 "TruthSums$Line" "weights" "[I" ∈ lw_tbl := List.mem_of_getElem? (i := 134) (by decide +kernel)
theorem kf_X3_79 : Cond.fieldLink RX3 79 "TruthSums$Step" "kind" "I" ∈ lw_tbl := List.mem_of_getElem? (i := 152) (by decide +kernel)
theorem kf_X3_81 : Cond.fieldLink RX3 81 "TruthSums$Step" "claimed" "LTruthSums$Line;" ∈ lw_tbl := List.mem_of_getElem? (i := 159) (by decide +kernel)
theorem kf_X3_96 : Cond.fieldLink RX3 96 "TruthSums$Step" "first" "I" ∈ lw_tbl := List.mem_of_getElem? (i := 154) (by decide +kernel)
theorem kf_X3_99 : Cond.fieldLink RX3 99 "TruthSums$Step" "second" "I" ∈ lw_tbl := List.mem_of_getElem? (i := 156) (by decide +kernel)
theorem kf_X4_10 : Cond.fieldLink RX4 10 "TruthSums$Step" "claimed" "LTruthSums$Line;" ∈ lw_tbl := List.mem_of_getElem? (i := 158) (by decide +kernel)
theorem kf_X5_9 : Cond.fieldLink RX5 9 "TruthSums$Text" "bytes" "[B" ∈ lw_tbl := List.mem_of_getElem? (i := 84) (by decide +kernel)
theorem kf_X5_15 : Cond.fieldLink RX5 15 "TruthSums$Text" "length" "I" ∈ lw_tbl := List.mem_of_getElem? (i := 85) (by decide +kernel)
theorem kf_X6_9 : Cond.fieldLink RX6 9 "TruthSums$Tokens" "kinds" "[I" ∈ lw_tbl := List.mem_of_getElem? (i := 110) (by decide +kernel)
theorem kf_X6_15 : Cond.fieldLink RX6 15 "TruthSums$Tokens" "values" "[I" ∈ lw_tbl := List.mem_of_getElem? (i := 111) (by decide +kernel)
theorem kf_X6_18 : Cond.fieldLink RX6 18 "TruthSums$Tokens" "places" "[I" ∈ lw_tbl := List.mem_of_getElem? (i := 112) (by decide +kernel)
theorem kf_X6_21 : Cond.fieldLink RX6 21 "TruthSums$Tokens" "now" "I" ∈ lw_tbl := List.mem_of_getElem? (i := 114) (by decide +kernel)
theorem kf_X6_25 : Cond.fieldLink RX6 25 "TruthSums$Tokens" "count" "I" ∈ lw_tbl := List.mem_of_getElem? (i := 113) (by decide +kernel)
theorem kf_X6_28 : Cond.fieldLink RX6 28 "TruthSums$Text" "length" "I" ∈ lw_tbl := List.mem_of_getElem? (i := 87) (by decide +kernel)
theorem kf_X8_7 : Cond.fieldLink RX8 7 "TruthSumsModel" "text" "[I" ∈ lw_tbl := List.mem_of_getElem? (i := 696) (by decide +kernel)
theorem kf_X8_13 : Cond.fieldLink RX8 13 "TruthSumsModel" "line" "[I" ∈ lw_tbl := List.mem_of_getElem? (i := 703) (by decide +kernel)
theorem kf_X8_16 : Cond.fieldLink RX8 16 "TruthSumsModel" "wrongStep" "I" ∈ lw_tbl := List.mem_of_getElem? (i := 707) (by decide +kernel)
theorem kf_X8_20 : Cond.fieldLink RX8 20 "TruthSumsModel" "wrongBy" "I" ∈ lw_tbl := List.mem_of_getElem? (i := 708) (by decide +kernel)
theorem kf_X8_23 : Cond.fieldLink RX8 23 "TruthSumsModel" "draft" "[I" ∈ lw_tbl := List.mem_of_getElem? (i := 709) (by decide +kernel)
theorem kf_X8_26 : Cond.fieldLink RX8 26 "TruthSumsModel" "step" "[I" ∈ lw_tbl := List.mem_of_getElem? (i := 710) (by decide +kernel)
theorem kf_X8_29 : Cond.fieldLink RX8 29 "TruthSumsModel" "costs" "[I" ∈ lw_tbl := List.mem_of_getElem? (i := 713) (by decide +kernel)
theorem kf_X8_32 : Cond.fieldLink RX8 32 "TruthSumsModel" "fitted" "[I" ∈ lw_tbl := List.mem_of_getElem? (i := 714) (by decide +kernel)
theorem kf_X8_35 : Cond.fieldLink RX8 35 "TruthSumsModel" "thrown" "I" ∈ lw_tbl := List.mem_of_getElem? (i := 695) (by decide +kernel)
theorem kf_X8_42 : Cond.fieldLink RX8 42 "TruthSumsModel" "typed" "I" ∈ lw_tbl := List.mem_of_getElem? (i := 697) (by decide +kernel)
theorem kf_X8_57 : Cond.fieldLink RX8 57 "TruthSumsModel" "next" "I" ∈ lw_tbl := List.mem_of_getElem? (i := 698) (by decide +kernel)
theorem kf_X8_64 : Cond.fieldLink RX8 64 "TruthSumsModel" "place" "I" ∈ lw_tbl := List.mem_of_getElem? (i := 700) (by decide +kernel)
theorem kf_X8_67 : Cond.fieldLink RX8 67 "TruthSumsModel" "token" "I" ∈ lw_tbl := List.mem_of_getElem? (i := 699) (by decide +kernel)
theorem kf_X8_74 : Cond.fieldLink RX8 74 "TruthSumsModel" "value" "I" ∈ lw_tbl := List.mem_of_getElem? (i := 701) (by decide +kernel)
theorem kf_X8_77 : Cond.fieldLink RX8 77 "TruthSumsModel" "fault" "I" ∈ lw_tbl := List.mem_of_getElem? (i := 702) (by decide +kernel)
theorem kf_X8_106 : Cond.fieldLink RX8 106 "TruthSumsModel" "given" "I" ∈ lw_tbl := List.mem_of_getElem? (i := 704) (by decide +kernel)
theorem kf_X8_109 : Cond.fieldLink RX8 109 "TruthSumsModel" "proved" "I" ∈ lw_tbl := List.mem_of_getElem? (i := 705) (by decide +kernel)
theorem kf_X8_112 : Cond.fieldLink RX8 112 "TruthSumsModel" "steps" "I" ∈ lw_tbl := List.mem_of_getElem? (i := 706) (by decide +kernel)
theorem kf_X8_162 : Cond.fieldLink RX8 162 "TruthSumsModel" "so" "I" ∈ lw_tbl := List.mem_of_getElem? (i := 711) (by decide +kernel)
theorem kf_X8_165 : Cond.fieldLink RX8 165 "TruthSumsModel" "not" "I" ∈ lw_tbl := List.mem_of_getElem? (i := 712) (by decide +kernel)
theorem kf_J0_9 : Cond.fieldLink RJ0 9 "java/lang/String" "value" "[B" ∈ lw_tbl := List.mem_of_getElem? (i := 959) (by decide +kernel)
theorem kf_J0_15 : Cond.fieldLink RJ0 15 "java/lang/String" "coder" "B" ∈ lw_tbl := List.mem_of_getElem? (i := 960) (by decide +kernel)
theorem kf_J0_38 : Cond.fieldLink RJ0 38 "java/lang/String" "COMPACT_STRINGS" "Z" ∈ lw_tbl := List.mem_of_getElem? (i := 323) (by decide +kernel)
theorem kf_J0_1053 : Cond.fieldLink RJ0 1053 "jdk/internal/util/Preconditions" "SIOOBE_FORMATTER" "Ljava/util/function/BiFunction;" ∈ lw_tbl := List.mem_of_getElem? (i := 340) (by decide +kernel)
theorem kf_J2_44 : Cond.fieldLink RJ2 44 "java/lang/StringUTF16" "$assertionsDisabled" "Z" ∈ lw_tbl := List.mem_of_getElem? (i := 358) (by decide +kernel)
theorem kf_J2_59 : Cond.fieldLink RJ2 59 "java/lang/StringUTF16" "HI_BYTE_SHIFT" "I" ∈ lw_tbl := List.mem_of_getElem? (i := 360) (by decide +kernel)
theorem kf_J2_63 : Cond.fieldLink RJ2 63 "java/lang/StringUTF16" "LO_BYTE_SHIFT" "I" ∈ lw_tbl := List.mem_of_getElem? (i := 362) (by decide +kernel)
theorem kl_X7_18 : Cond.methodLink RX7 18 yX3_init ∈ lw_tbl := List.mem_of_getElem? (i := 96) (by decide +kernel)
theorem kl_X7_62 : Cond.methodLink RX7 62 yX5_put ∈ lw_tbl := List.mem_of_getElem? (i := 268) (by decide +kernel)
theorem kl_X7_66 : Cond.methodLink RX7 66 yX5_empty ∈ lw_tbl := List.mem_of_getElem? (i := 276) (by decide +kernel)
theorem kl_X7_70 : Cond.methodLink RX7 70 yX3_readGiven ∈ lw_tbl := List.mem_of_getElem? (i := 284) (by decide +kernel)
theorem kl_X7_77 : Cond.methodLink RX7 77 yX2_becomeSame ∈ lw_tbl := List.mem_of_getElem? (i := 424) (by decide +kernel)
theorem kl_X7_84 : Cond.methodLink RX7 84 yX7_forgetProof ∈ lw_tbl := List.mem_of_getElem? (i := 428) (by decide +kernel)
theorem kl_X7_87 : Cond.methodLink RX7 87 yX3_readProof ∈ lw_tbl := List.mem_of_getElem? (i := 436) (by decide +kernel)
theorem kl_X7_94 : Cond.methodLink RX7 94 yX7_walkProof ∈ lw_tbl := List.mem_of_getElem? (i := 456) (by decide +kernel)
theorem kl_X7_109 : Cond.methodLink RX7 109 yX7_takeClaim ∈ lw_tbl := List.mem_of_getElem? (i := 460) (by decide +kernel)
theorem kl_X7_113 : Cond.methodLink RX7 113 yX7_takeStep ∈ lw_tbl := List.mem_of_getElem? (i := 488) (by decide +kernel)
theorem kl_X7_120 : Cond.methodLink RX7 120 yX7_lineOrFirst ∈ lw_tbl := List.mem_of_getElem? (i := 492) (by decide +kernel)
theorem kl_X7_127 : Cond.methodLink RX7 127 yX2_becomeSum ∈ lw_tbl := List.mem_of_getElem? (i := 504) (by decide +kernel)
theorem kl_X7_131 : Cond.methodLink RX7 131 yX2_becomeTimes ∈ lw_tbl := List.mem_of_getElem? (i := 512) (by decide +kernel)
theorem kl_X7_135 : Cond.methodLink RX7 135 yX2_becomeCut ∈ lw_tbl := List.mem_of_getElem? (i := 516) (by decide +kernel)
theorem kl_X7_138 : Cond.methodLink RX7 138 yX2_becomeTrimmed ∈ lw_tbl := List.mem_of_getElem? (i := 523) (by decide +kernel)
theorem kl_X7_141 : Cond.methodLink RX7 141 yX2_becomeDropped ∈ lw_tbl := List.mem_of_getElem? (i := 527) (by decide +kernel)
theorem kl_X7_144 : Cond.methodLink RX7 144 yX2_becomeBare ∈ lw_tbl := List.mem_of_getElem? (i := 532) (by decide +kernel)
theorem kl_X7_148 : Cond.methodLink RX7 148 yX2_isTooGreat ∈ lw_tbl := List.mem_of_getElem? (i := 537) (by decide +kernel)
theorem kl_X7_152 : Cond.methodLink RX7 152 yX7_isLine ∈ lw_tbl := List.mem_of_getElem? (i := 496) (by decide +kernel)
theorem kl_X7_160 : Cond.methodLink RX7 160 yX2_becomeOpposite ∈ lw_tbl := List.mem_of_getElem? (i := 464) (by decide +kernel)
theorem kl_X7_163 : Cond.methodLink RX7 163 yX1_force ∈ lw_tbl := List.mem_of_getElem? (i := 475) (by decide +kernel)
theorem kl_X7_178 : Cond.methodLink RX7 178 yX2_worldsHeld ∈ lw_tbl := List.mem_of_getElem? (i := 555) (by decide +kernel)
theorem kl_X7_182 : Cond.methodLink RX7 182 yX2_isBroken ∈ lw_tbl := List.mem_of_getElem? (i := 567) (by decide +kernel)
theorem kl_X7_185 : Cond.methodLink RX7 185 yX7_lineCount ∈ lw_tbl := List.mem_of_getElem? (i := 500) (by decide +kernel)
theorem kl_X7_188 : Cond.methodLink RX7 188 yX7_isWithin ∈ lw_tbl := List.mem_of_getElem? (i := 579) (by decide +kernel)
theorem kl_X7_194 : Cond.methodLink RX7 194 yX7_isLetterSet ∈ lw_tbl := List.mem_of_getElem? (i := 587) (by decide +kernel)
theorem kl_X7_203 : Cond.methodLink RX7 203 yX7_trueWorlds ∈ lw_tbl := List.mem_of_getElem? (i := 594) (by decide +kernel)
theorem kl_X7_206 : Cond.methodLink RX7 206 yX7_has ∈ lw_tbl := List.mem_of_getElem? (i := 606) (by decide +kernel)
theorem kl_X7_210 : Cond.methodLink RX7 210 yX2_weighsIn ∈ lw_tbl := List.mem_of_getElem? (i := 609) (by decide +kernel)
theorem kl_X7_214 : Cond.methodLink RX7 214 yX7_leastTelling ∈ lw_tbl := List.mem_of_getElem? (i := 614) (by decide +kernel)
theorem kl_X7_218 : Cond.methodLink RX7 218 yJ6_bitCount_0f7a4 ∈ lw_tbl := List.mem_of_getElem? (i := 618) (by decide +kernel)
theorem kl_X7_223 : Cond.methodLink RX7 223 yX2_isLeastCover ∈ lw_tbl := List.mem_of_getElem? (i := 632) (by decide +kernel)
theorem kl_X7_226 : Cond.methodLink RX7 226 yX7_cheapestTrueWorld ∈ lw_tbl := List.mem_of_getElem? (i := 648) (by decide +kernel)
theorem kl_X7_229 : Cond.methodLink RX7 229 yX7_costOf ∈ lw_tbl := List.mem_of_getElem? (i := 652) (by decide +kernel)
theorem kl_X7_232 : Cond.methodLink RX7 232 yX0_search ∈ lw_tbl := List.mem_of_getElem? (i := 660) (by decide +kernel)
theorem kl_X7_245 : Cond.methodLink RX7 245 yJ9_abs_0f7a4 ∈ lw_tbl := List.mem_of_getElem? (i := 678) (by decide +kernel)
theorem kl_X7_250 : Cond.methodLink RX7 250 yJ13_bitCount_95d88 ∈ lw_tbl := List.mem_of_getElem? (i := 683) (by decide +kernel)
theorem kl_X7_254 : Cond.methodLink RX7 254 yX7_worldsOfGiven ∈ lw_tbl := List.mem_of_getElem? (i := 624) (by decide +kernel)
theorem kl_X0_22 : Cond.methodLink RX0 22 yX0_searchTogether ∈ lw_tbl := List.mem_of_getElem? (i := 664) (by decide +kernel)
theorem kl_X0_26 : Cond.methodLink RX0 26 yJ9_abs_0f7a4 ∈ lw_tbl := List.mem_of_getElem? (i := 668) (by decide +kernel)
theorem kl_X0_32 : Cond.methodLink RX0 32 yX0_fits ∈ lw_tbl := List.mem_of_getElem? (i := 669) (by decide +kernel)
theorem kl_X0_36 : Cond.methodLink RX0 36 yX0_part ∈ lw_tbl := List.mem_of_getElem? (i := 673) (by decide +kernel)
theorem kl_X0_40 : Cond.methodLink RX0 40 yJ9_min_7cf53 ∈ lw_tbl := List.mem_of_getElem? (i := 677) (by decide +kernel)
theorem kl_X0_43 : Cond.methodLink RX0 43 yJ9_max_7cf53 ∈ lw_tbl := List.mem_of_getElem? (i := 676) (by decide +kernel)
theorem kl_X1_22 : Cond.methodLink RX1 22 yX1_passOver ∈ lw_tbl := List.mem_of_getElem? (i := 479) (by decide +kernel)
theorem kl_X1_26 : Cond.methodLink RX1 26 yX1_visit ∈ lw_tbl := List.mem_of_getElem? (i := 483) (by decide +kernel)
theorem kl_X1_30 : Cond.methodLink RX1 30 yX2_mayWeigh ∈ lw_tbl := List.mem_of_getElem? (i := 487) (by decide +kernel)
theorem kl_X2_19 : Cond.methodLink RX2 19 yX2_becomeEmpty ∈ lw_tbl := List.mem_of_getElem? (i := 536) (by decide +kernel)
theorem kl_X2_22 : Cond.methodLink RX2 22 yJ9_abs_0f7a4 ∈ lw_tbl := List.mem_of_getElem? (i := 472) (by decide +kernel)
theorem kl_X2_28 : Cond.methodLink RX2 28 yJ9_min_7cf53 ∈ lw_tbl := List.mem_of_getElem? (i := 508) (by decide +kernel)
theorem kl_X2_32 : Cond.methodLink RX2 32 yJ9_max_7cf53 ∈ lw_tbl := List.mem_of_getElem? (i := 509) (by decide +kernel)
theorem kl_X2_35 : Cond.methodLink RX2 35 yX2_signed ∈ lw_tbl := List.mem_of_getElem? (i := 520) (by decide +kernel)
theorem kl_X2_38 : Cond.methodLink RX2 38 yX2_becomeSame ∈ lw_tbl := List.mem_of_getElem? (i := 531) (by decide +kernel)
theorem kl_X2_42 : Cond.methodLink RX2 42 yX2_mayWeigh ∈ lw_tbl := List.mem_of_getElem? (i := 468) (by decide +kernel)
theorem kl_X2_46 : Cond.methodLink RX2 46 yX2_weighsIn ∈ lw_tbl := List.mem_of_getElem? (i := 559) (by decide +kernel)
theorem kl_X2_49 : Cond.methodLink RX2 49 yX2_isCover ∈ lw_tbl := List.mem_of_getElem? (i := 636) (by decide +kernel)
theorem kl_X3_32 : Cond.methodLink RX3 32 yX6_split ∈ lw_tbl := List.mem_of_getElem? (i := 288) (by decide +kernel)
theorem kl_X3_36 : Cond.methodLink RX3 36 yX6_kind ∈ lw_tbl := List.mem_of_getElem? (i := 388) (by decide +kernel)
theorem kl_X3_40 : Cond.methodLink RX3 40 yX3_takeLine ∈ lw_tbl := List.mem_of_getElem? (i := 392) (by decide +kernel)
theorem kl_X3_44 : Cond.methodLink RX3 44 yX3_take ∈ lw_tbl := List.mem_of_getElem? (i := 416) (by decide +kernel)
theorem kl_X3_48 : Cond.methodLink RX3 48 yX6_place ∈ lw_tbl := List.mem_of_getElem? (i := 420) (by decide +kernel)
theorem kl_X3_51 : Cond.methodLink RX3 51 yX3_takeStepText ∈ lw_tbl := List.mem_of_getElem? (i := 440) (by decide +kernel)
theorem kl_X3_55 : Cond.methodLink RX3 55 yX6_goOn ∈ lw_tbl := List.mem_of_getElem? (i := 412) (by decide +kernel)
theorem kl_X3_58 : Cond.methodLink RX3 58 yX2_becomeEmpty ∈ lw_tbl := List.mem_of_getElem? (i := 396) (by decide +kernel)
theorem kl_X3_61 : Cond.methodLink RX3 61 yX3_takeTerm ∈ lw_tbl := List.mem_of_getElem? (i := 400) (by decide +kernel)
theorem kl_X3_64 : Cond.methodLink RX3 64 yX6_value ∈ lw_tbl := List.mem_of_getElem? (i := 404) (by decide +kernel)
theorem kl_X3_71 : Cond.methodLink RX3 71 yX3_takeNumberWithin ∈ lw_tbl := List.mem_of_getElem? (i := 408) (by decide +kernel)
theorem kl_X3_85 : Cond.methodLink RX3 85 yX3_takeLetter ∈ lw_tbl := List.mem_of_getElem? (i := 444) (by decide +kernel)
theorem kl_X3_89 : Cond.methodLink RX3 89 yX3_takeFirst ∈ lw_tbl := List.mem_of_getElem? (i := 448) (by decide +kernel)
theorem kl_X3_92 : Cond.methodLink RX3 92 yX3_takeSecond ∈ lw_tbl := List.mem_of_getElem? (i := 452) (by decide +kernel)
theorem kl_X5_19 : Cond.methodLink RX5 19 yJ0_length_8abf5 ∈ lw_tbl := List.mem_of_getElem? (i := 315) (by decide +kernel)
theorem kl_X5_24 : Cond.methodLink RX5 24 yX5_at ∈ lw_tbl := List.mem_of_getElem? (i := 325) (by decide +kernel)
theorem kl_X5_28 : Cond.methodLink RX5 28 yJ0_charAt_5068e ∈ lw_tbl := List.mem_of_getElem? (i := 326) (by decide +kernel)
theorem kl_X6_33 : Cond.methodLink RX6 33 yX5_at ∈ lw_tbl := List.mem_of_getElem? (i := 292) (by decide +kernel)
theorem kl_X6_37 : Cond.methodLink RX6 37 yX6_isSmallLetter ∈ lw_tbl := List.mem_of_getElem? (i := 296) (by decide +kernel)
theorem kl_X6_41 : Cond.methodLink RX6 41 yX6_putWord ∈ lw_tbl := List.mem_of_getElem? (i := 299) (by decide +kernel)
theorem kl_X6_45 : Cond.methodLink RX6 45 yX6_isDigit ∈ lw_tbl := List.mem_of_getElem? (i := 371) (by decide +kernel)
theorem kl_X6_48 : Cond.methodLink RX6 48 yX6_putNumber ∈ lw_tbl := List.mem_of_getElem? (i := 374) (by decide +kernel)
theorem kl_X6_51 : Cond.methodLink RX6 51 yX6_putSign ∈ lw_tbl := List.mem_of_getElem? (i := 381) (by decide +kernel)
theorem kl_X6_54 : Cond.methodLink RX6 54 yX6_put ∈ lw_tbl := List.mem_of_getElem? (i := 303) (by decide +kernel)
theorem kl_X6_58 : Cond.methodLink RX6 58 yX6_stepKind ∈ lw_tbl := List.mem_of_getElem? (i := 307) (by decide +kernel)
theorem kl_X6_64 : Cond.methodLink RX6 64 yX5_spells ∈ lw_tbl := List.mem_of_getElem? (i := 311) (by decide +kernel)
theorem kl_X6_84 : Cond.methodLink RX6 84 yJ9_min_7cf53 ∈ lw_tbl := List.mem_of_getElem? (i := 378) (by decide +kernel)
theorem kl_X6_90 : Cond.methodLink RX6 90 yX6_signKind ∈ lw_tbl := List.mem_of_getElem? (i := 385) (by decide +kernel)
theorem kl_L_9 : Cond.methodLink RL 9 yX7_init ∈ lw_tbl := List.mem_of_getElem? (i := 72) (by decide +kernel)
theorem kl_L_12 : Cond.methodLink RL 12 yX8_init ∈ lw_tbl := List.mem_of_getElem? (i := 691) (by decide +kernel)
theorem kl_L_15 : Cond.methodLink RL 15 yX7_type ∈ lw_tbl := List.mem_of_getElem? (i := 264) (by decide +kernel)
theorem kl_L_19 : Cond.methodLink RL 19 yX8_type ∈ lw_tbl := List.mem_of_getElem? (i := 756) (by decide +kernel)
theorem kl_L_20 : Cond.methodLink RL 20 yX7_clear ∈ lw_tbl := List.mem_of_getElem? (i := 272) (by decide +kernel)
theorem kl_L_24 : Cond.methodLink RL 24 yX8_clear ∈ lw_tbl := List.mem_of_getElem? (i := 764) (by decide +kernel)
theorem kl_L_25 : Cond.methodLink RL 25 yX7_given ∈ lw_tbl := List.mem_of_getElem? (i := 280) (by decide +kernel)
theorem kl_L_28 : Cond.methodLink RL 28 yX8_given ∈ lw_tbl := List.mem_of_getElem? (i := 768) (by decide +kernel)
theorem kl_L_29 : Cond.methodLink RL 29 yX7_proof ∈ lw_tbl := List.mem_of_getElem? (i := 432) (by decide +kernel)
theorem kl_L_32 : Cond.methodLink RL 32 yX8_proof ∈ lw_tbl := List.mem_of_getElem? (i := 814) (by decide +kernel)
theorem kl_L_33 : Cond.methodLink RL 33 yX7_wrong ∈ lw_tbl := List.mem_of_getElem? (i := 542) (by decide +kernel)
theorem kl_L_37 : Cond.methodLink RL 37 yX8_wrong ∈ lw_tbl := List.mem_of_getElem? (i := 850) (by decide +kernel)
theorem kl_L_38 : Cond.methodLink RL 38 yX7_line ∈ lw_tbl := List.mem_of_getElem? (i := 546) (by decide +kernel)
theorem kl_L_42 : Cond.methodLink RL 42 yX8_line ∈ lw_tbl := List.mem_of_getElem? (i := 854) (by decide +kernel)
theorem kl_L_43 : Cond.methodLink RL 43 yX7_holds ∈ lw_tbl := List.mem_of_getElem? (i := 551) (by decide +kernel)
theorem kl_L_47 : Cond.methodLink RL 47 yX8_holds ∈ lw_tbl := List.mem_of_getElem? (i := 863) (by decide +kernel)
theorem kl_L_48 : Cond.methodLink RL 48 yX7_broken ∈ lw_tbl := List.mem_of_getElem? (i := 563) (by decide +kernel)
theorem kl_L_51 : Cond.methodLink RL 51 yX8_broken ∈ lw_tbl := List.mem_of_getElem? (i := 879) (by decide +kernel)
theorem kl_L_52 : Cond.methodLink RL 52 yX7_end ∈ lw_tbl := List.mem_of_getElem? (i := 571) (by decide +kernel)
theorem kl_L_55 : Cond.methodLink RL 55 yX8_end ∈ lw_tbl := List.mem_of_getElem? (i := 887) (by decide +kernel)
theorem kl_L_56 : Cond.methodLink RL 56 yX7_both ∈ lw_tbl := List.mem_of_getElem? (i := 575) (by decide +kernel)
theorem kl_L_60 : Cond.methodLink RL 60 yX8_both ∈ lw_tbl := List.mem_of_getElem? (i := 891) (by decide +kernel)
theorem kl_L_61 : Cond.methodLink RL 61 yX7_forced ∈ lw_tbl := List.mem_of_getElem? (i := 583) (by decide +kernel)
theorem kl_L_65 : Cond.methodLink RL 65 yX8_forced ∈ lw_tbl := List.mem_of_getElem? (i := 896) (by decide +kernel)
theorem kl_L_66 : Cond.methodLink RL 66 yX7_trues ∈ lw_tbl := List.mem_of_getElem? (i := 590) (by decide +kernel)
theorem kl_L_70 : Cond.methodLink RL 70 yX8_trues ∈ lw_tbl := List.mem_of_getElem? (i := 900) (by decide +kernel)
theorem kl_L_71 : Cond.methodLink RL 71 yX7_told ∈ lw_tbl := List.mem_of_getElem? (i := 598) (by decide +kernel)
theorem kl_L_74 : Cond.methodLink RL 74 yX8_told ∈ lw_tbl := List.mem_of_getElem? (i := 912) (by decide +kernel)
theorem kl_L_75 : Cond.methodLink RL 75 yX7_tight ∈ lw_tbl := List.mem_of_getElem? (i := 602) (by decide +kernel)
theorem kl_L_78 : Cond.methodLink RL 78 yX8_tight ∈ lw_tbl := List.mem_of_getElem? (i := 916) (by decide +kernel)
theorem kl_L_79 : Cond.methodLink RL 79 yX7_needed ∈ lw_tbl := List.mem_of_getElem? (i := 610) (by decide +kernel)
theorem kl_L_82 : Cond.methodLink RL 82 yX8_needed ∈ lw_tbl := List.mem_of_getElem? (i := 920) (by decide +kernel)
theorem kl_L_83 : Cond.methodLink RL 83 yX7_covers ∈ lw_tbl := List.mem_of_getElem? (i := 628) (by decide +kernel)
theorem kl_L_86 : Cond.methodLink RL 86 yX8_covers ∈ lw_tbl := List.mem_of_getElem? (i := 927) (by decide +kernel)
theorem kl_L_87 : Cond.methodLink RL 87 yX7_cost ∈ lw_tbl := List.mem_of_getElem? (i := 640) (by decide +kernel)
theorem kl_L_90 : Cond.methodLink RL 90 yX8_cost ∈ lw_tbl := List.mem_of_getElem? (i := 935) (by decide +kernel)
theorem kl_L_91 : Cond.methodLink RL 91 yX7_least ∈ lw_tbl := List.mem_of_getElem? (i := 644) (by decide +kernel)
theorem kl_L_94 : Cond.methodLink RL 94 yX8_least ∈ lw_tbl := List.mem_of_getElem? (i := 939) (by decide +kernel)
theorem kl_L_95 : Cond.methodLink RL 95 yX7_fit ∈ lw_tbl := List.mem_of_getElem? (i := 656) (by decide +kernel)
theorem kl_L_98 : Cond.methodLink RL 98 yX8_fit ∈ lw_tbl := List.mem_of_getElem? (i := 943) (by decide +kernel)
theorem kl_L_99 : Cond.methodLink RL 99 yX7_count ∈ lw_tbl := List.mem_of_getElem? (i := 679) (by decide +kernel)
theorem kl_L_102 : Cond.methodLink RL 102 yX8_count ∈ lw_tbl := List.mem_of_getElem? (i := 954) (by decide +kernel)
theorem kl_X8_38 : Cond.methodLink RX8 38 yX8_in ∈ lw_tbl := List.mem_of_getElem? (i := 760) (by decide +kernel)
theorem kl_X8_49 : Cond.methodLink RX8 49 yX8_add ∈ lw_tbl := List.mem_of_getElem? (i := 780) (by decide +kernel)
theorem kl_X8_53 : Cond.methodLink RX8 53 yX8_word ∈ lw_tbl := List.mem_of_getElem? (i := 787) (by decide +kernel)
theorem kl_X8_60 : Cond.methodLink RX8 60 yX8_byteAt ∈ lw_tbl := List.mem_of_getElem? (i := 776) (by decide +kernel)
theorem kl_X8_70 : Cond.methodLink RX8 70 yX8_wordOf ∈ lw_tbl := List.mem_of_getElem? (i := 784) (by decide +kernel)
theorem kl_X8_80 : Cond.methodLink RX8 80 yX8_isWell ∈ lw_tbl := List.mem_of_getElem? (i := 790) (by decide +kernel)
theorem kl_X8_84 : Cond.methodLink RX8 84 yX8_isToken ∈ lw_tbl := List.mem_of_getElem? (i := 802) (by decide +kernel)
theorem kl_X8_88 : Cond.methodLink RX8 88 yX8_advances ∈ lw_tbl := List.mem_of_getElem? (i := 772) (by decide +kernel)
theorem kl_X8_91 : Cond.methodLink RX8 91 yX8_fails ∈ lw_tbl := List.mem_of_getElem? (i := 794) (by decide +kernel)
theorem kl_X8_94 : Cond.methodLink RX8 94 yX8_takesNumber ∈ lw_tbl := List.mem_of_getElem? (i := 806) (by decide +kernel)
theorem kl_X8_98 : Cond.methodLink RX8 98 yX8_takes ∈ lw_tbl := List.mem_of_getElem? (i := 810) (by decide +kernel)
theorem kl_X8_102 : Cond.methodLink RX8 102 yX8_readsLine ∈ lw_tbl := List.mem_of_getElem? (i := 798) (by decide +kernel)
theorem kl_X8_115 : Cond.methodLink RX8 115 yX8_takesLetter ∈ lw_tbl := List.mem_of_getElem? (i := 822) (by decide +kernel)
theorem kl_X8_119 : Cond.methodLink RX8 119 yX8_size ∈ lw_tbl := List.mem_of_getElem? (i := 830) (by decide +kernel)
theorem kl_X8_123 : Cond.methodLink RX8 123 yX8_weights ∈ lw_tbl := List.mem_of_getElem? (i := 842) (by decide +kernel)
theorem kl_X8_126 : Cond.methodLink RX8 126 yX8_clashes ∈ lw_tbl := List.mem_of_getElem? (i := 846) (by decide +kernel)
theorem kl_X8_129 : Cond.methodLink RX8 129 yX8_readsStep ∈ lw_tbl := List.mem_of_getElem? (i := 818) (by decide +kernel)
theorem kl_X8_132 : Cond.methodLink RX8 132 yX8_does ∈ lw_tbl := List.mem_of_getElem? (i := 826) (by decide +kernel)
theorem kl_X8_136 : Cond.methodLink RX8 136 yX8_isGreat ∈ lw_tbl := List.mem_of_getElem? (i := 833) (by decide +kernel)
theorem kl_X8_139 : Cond.methodLink RX8 139 yX8_isRight ∈ lw_tbl := List.mem_of_getElem? (i := 838) (by decide +kernel)
theorem kl_X8_142 : Cond.methodLink RX8 142 yX8_isLine ∈ lw_tbl := List.mem_of_getElem? (i := 858) (by decide +kernel)
theorem kl_X8_146 : Cond.methodLink RX8 146 yX8_weighs ∈ lw_tbl := List.mem_of_getElem? (i := 875) (by decide +kernel)
theorem kl_X8_149 : Cond.methodLink RX8 149 yX8_isHeld ∈ lw_tbl := List.mem_of_getElem? (i := 871) (by decide +kernel)
theorem kl_X8_153 : Cond.methodLink RX8 153 yX8_held ∈ lw_tbl := List.mem_of_getElem? (i := 867) (by decide +kernel)
theorem kl_X8_157 : Cond.methodLink RX8 157 yX8_isBroken ∈ lw_tbl := List.mem_of_getElem? (i := 883) (by decide +kernel)
theorem kl_X8_168 : Cond.methodLink RX8 168 yX8_heldBy ∈ lw_tbl := List.mem_of_getElem? (i := 908) (by decide +kernel)
theorem kl_X8_171 : Cond.methodLink RX8 171 yX8_trueWorlds ∈ lw_tbl := List.mem_of_getElem? (i := 904) (by decide +kernel)
theorem kl_X8_175 : Cond.methodLink RX8 175 yX8_ones ∈ lw_tbl := List.mem_of_getElem? (i := 924) (by decide +kernel)
theorem kl_X8_178 : Cond.methodLink RX8 178 yX8_isCover ∈ lw_tbl := List.mem_of_getElem? (i := 931) (by decide +kernel)
theorem kl_X8_181 : Cond.methodLink RX8 181 yX8_weighsOf ∈ lw_tbl := List.mem_of_getElem? (i := 951) (by decide +kernel)
theorem kl_X8_185 : Cond.methodLink RX8 185 yX8_fits ∈ lw_tbl := List.mem_of_getElem? (i := 947) (by decide +kernel)
theorem kl_J0_335 : Cond.methodLink RJ0 335 yJ0_coder_7d493 ∈ lw_tbl := List.mem_of_getElem? (i := 319) (by decide +kernel)
theorem kl_J0_492 : Cond.methodLink RJ0 492 yJ0_isLatin1_aae02 ∈ lw_tbl := List.mem_of_getElem? (i := 330) (by decide +kernel)
theorem kl_J0_495 : Cond.methodLink RJ0 495 yJ1_charAt_3b067 ∈ lw_tbl := List.mem_of_getElem? (i := 334) (by decide +kernel)
theorem kl_J0_498 : Cond.methodLink RJ0 498 yJ2_charAt_3b067 ∈ lw_tbl := List.mem_of_getElem? (i := 345) (by decide +kernel)
theorem kl_J0_1059 : Cond.methodLink RJ0 1059 yJ3_checkIndex_8e157 ∈ lw_tbl := List.mem_of_getElem? (i := 342) (by decide +kernel)
theorem kl_J1_9 : Cond.methodLink RJ1 9 yJ0_checkIndex_df160 ∈ lw_tbl := List.mem_of_getElem? (i := 337) (by decide +kernel)
theorem kl_J2_48 : Cond.methodLink RJ2 48 yJ2_length_9d52b ∈ lw_tbl := List.mem_of_getElem? (i := 351) (by decide +kernel)
theorem kl_J2_67 : Cond.methodLink RJ2 67 yJ2_checkIndex_2214a ∈ lw_tbl := List.mem_of_getElem? (i := 348) (by decide +kernel)
theorem kl_J2_71 : Cond.methodLink RJ2 71 yJ2_getChar_3b067 ∈ lw_tbl := List.mem_of_getElem? (i := 355) (by decide +kernel)
theorem kl_J2_414 : Cond.methodLink RJ2 414 yJ0_checkIndex_df160 ∈ lw_tbl := List.mem_of_getElem? (i := 354) (by decide +kernel)
theorem kc_X7_171 : Cond.constant RX7 171 (-1000000) ∈ lw_tbl := List.mem_of_getElem? (i := 550) (by decide +kernel)
theorem kc_X7_192 : Cond.constantLong RX7 192 (-1) ∈ lw_tbl := List.mem_of_getElem? (i := 582) (by decide +kernel)
theorem kc_X2_45 : Cond.constant RX2 45 (99999) ∈ lw_tbl := List.mem_of_getElem? (i := 541) (by decide +kernel)
theorem kc_L_13 : Cond.constantLong RL 13 (4294967295) ∈ lw_tbl := List.mem_of_getElem? (i := 958) (by decide +kernel)
theorem kc_X8_45 : Cond.constantLong RX8 45 (255) ∈ lw_tbl := List.mem_of_getElem? (i := 763) (by decide +kernel)
theorem kc_X8_47 : Cond.constantLong RX8 47 (256) ∈ lw_tbl := List.mem_of_getElem? (i := 783) (by decide +kernel)
theorem kc_X8_122 : Cond.constant RX8 122 (99999) ∈ lw_tbl := List.mem_of_getElem? (i := 837) (by decide +kernel)
theorem kc_X8_145 : Cond.constant RX8 145 (-1000000) ∈ lw_tbl := List.mem_of_getElem? (i := 862) (by decide +kernel)
theorem kc_X8_160 : Cond.constantLong RX8 160 (-1) ∈ lw_tbl := List.mem_of_getElem? (i := 895) (by decide +kernel)
theorem kc_J6_265 : Cond.constant RJ6 265 (1431655765) ∈ lw_tbl := List.mem_of_getElem? (i := 621) (by decide +kernel)
theorem kc_J6_266 : Cond.constant RJ6 266 (858993459) ∈ lw_tbl := List.mem_of_getElem? (i := 622) (by decide +kernel)
theorem kc_J6_267 : Cond.constant RJ6 267 (252645135) ∈ lw_tbl := List.mem_of_getElem? (i := 623) (by decide +kernel)
theorem kc_J13_314 : Cond.constantLong RJ13 314 (6148914691236517205) ∈ lw_tbl := List.mem_of_getElem? (i := 686) (by decide +kernel)
theorem kc_J13_316 : Cond.constantLong RJ13 316 (3689348814741910323) ∈ lw_tbl := List.mem_of_getElem? (i := 687) (by decide +kernel)
theorem kc_J13_318 : Cond.constantLong RJ13 318 (1085102592571150095) ∈ lw_tbl := List.mem_of_getElem? (i := 688) (by decide +kernel)
theorem ki_X0 : Cond.initialized RX0 ∈ lw_tbl := List.mem_of_getElem? (i := 61) (by decide +kernel)
theorem ki_X1 : Cond.initialized RX1 ∈ lw_tbl := List.mem_of_getElem? (i := 60) (by decide +kernel)
theorem ki_X2 : Cond.initialized RX2 ∈ lw_tbl := List.mem_of_getElem? (i := 58) (by decide +kernel)
theorem ki_X3 : Cond.initialized RX3 ∈ lw_tbl := List.mem_of_getElem? (i := 56) (by decide +kernel)
theorem ki_X4 : Cond.initialized RX4 ∈ lw_tbl := List.mem_of_getElem? (i := 59) (by decide +kernel)
theorem ki_X5 : Cond.initialized RX5 ∈ lw_tbl := List.mem_of_getElem? (i := 55) (by decide +kernel)
theorem ki_X6 : Cond.initialized RX6 ∈ lw_tbl := List.mem_of_getElem? (i := 57) (by decide +kernel)
theorem ki_X7 : Cond.initialized RX7 ∈ lw_tbl := List.mem_of_getElem? (i := 54) (by decide +kernel)
theorem ki_X8 : Cond.initialized RX8 ∈ lw_tbl := List.mem_of_getElem? (i := 62) (by decide +kernel)
theorem ki_J6 : Cond.initialized RJ6 ∈ lw_tbl := List.mem_of_getElem? (i := 68) (by decide +kernel)
theorem ki_J13 : Cond.initialized RJ13 ∈ lw_tbl := List.mem_of_getElem? (i := 69) (by decide +kernel)
theorem ki_J9 : Cond.initialized RJ9 ∈ lw_tbl := List.mem_of_getElem? (i := 67) (by decide +kernel)
theorem ki_J0 : Cond.initialized RJ0 ∈ lw_tbl := List.mem_of_getElem? (i := 63) (by decide +kernel)
theorem ki_J1 : Cond.initialized RJ1 ∈ lw_tbl := List.mem_of_getElem? (i := 64) (by decide +kernel)
theorem ki_J2 : Cond.initialized RJ2 ∈ lw_tbl := List.mem_of_getElem? (i := 66) (by decide +kernel)
theorem ki_J3 : Cond.initialized RJ3 ∈ lw_tbl := List.mem_of_getElem? (i := 65) (by decide +kernel)
theorem ki_L : Cond.initialized RL ∈ lw_tbl := List.mem_of_getElem? (i := 53) (by decide +kernel)
/-- what a call of a method of an object needs of the tables -/
def MV (y : MethodName) (cc : ByteArray) (nL : Nat) (ret : Option FieldType) (n : Nat) : Prop := Cond.instanceMethod y ∈ lw_tbl ∧ Cond.selects y.cls y y ∈ lw_tbl ∧ Cond.initialized y.cls ∈ lw_tbl ∧ Cond.code y cc nL ret ∈ lw_tbl ∧ (y.cls ≠ "java/lang/invoke/MethodHandle" ∧ y.cls ≠ "java/lang/invoke/VarHandle") ∧ (parseMethodDescriptor y.desc).map (fun d => d.parameters.length) = some n
def MS (y : MethodName) (cc : ByteArray) (nL : Nat) (ret : Option FieldType) (n : Nat) : Prop := Cond.static y ∈ lw_tbl ∧ Cond.initialized y.cls ∈ lw_tbl ∧ Cond.code y cc nL ret ∈ lw_tbl ∧ (y.cls ≠ "java/lang/invoke/MethodHandle" ∧ y.cls ≠ "java/lang/invoke/VarHandle") ∧ (parseMethodDescriptor y.desc).map (fun d => d.parameters.length) = some n
-- no call row for yX7_init
-- no call row for yX5_init
-- no call row for yX3_init
-- no call row for yX6_init
-- no call row for yX2_init
-- no call row for yX4_init
-- no call row for yX1_init
-- no call row for yX0_init
theorem mv_X7_type : MV yX7_type cX7_type 5 (some .int) 2 := ⟨List.mem_of_getElem? (i := 265) (by decide +kernel), List.mem_of_getElem? (i := 266) (by decide +kernel), ki_X7, List.mem_of_getElem? (i := 267) (by decide +kernel), ⟨by decide +kernel, by decide +kernel⟩, by decide +kernel⟩
theorem mv_X5_put : MV yX5_put cX5_put 2 none 1 := ⟨List.mem_of_getElem? (i := 269) (by decide +kernel), List.mem_of_getElem? (i := 270) (by decide +kernel), ki_X5, List.mem_of_getElem? (i := 271) (by decide +kernel), ⟨by decide +kernel, by decide +kernel⟩, by decide +kernel⟩
theorem mv_X7_clear : MV yX7_clear cX7_clear 1 (some .int) 0 := ⟨List.mem_of_getElem? (i := 273) (by decide +kernel), List.mem_of_getElem? (i := 274) (by decide +kernel), ki_X7, List.mem_of_getElem? (i := 275) (by decide +kernel), ⟨by decide +kernel, by decide +kernel⟩, by decide +kernel⟩
theorem mv_X5_empty : MV yX5_empty cX5_empty 2 (some .int) 0 := ⟨List.mem_of_getElem? (i := 277) (by decide +kernel), List.mem_of_getElem? (i := 278) (by decide +kernel), ki_X5, List.mem_of_getElem? (i := 279) (by decide +kernel), ⟨by decide +kernel, by decide +kernel⟩, by decide +kernel⟩
theorem mv_X7_given : MV yX7_given cX7_given 3 (some .int) 0 := ⟨List.mem_of_getElem? (i := 281) (by decide +kernel), List.mem_of_getElem? (i := 282) (by decide +kernel), ki_X7, List.mem_of_getElem? (i := 283) (by decide +kernel), ⟨by decide +kernel, by decide +kernel⟩, by decide +kernel⟩
theorem mv_X3_readGiven : MV yX3_readGiven cX3_readGiven 3 (some .int) 1 := ⟨List.mem_of_getElem? (i := 285) (by decide +kernel), List.mem_of_getElem? (i := 286) (by decide +kernel), ki_X3, List.mem_of_getElem? (i := 287) (by decide +kernel), ⟨by decide +kernel, by decide +kernel⟩, by decide +kernel⟩
theorem mv_X6_split : MV yX6_split cX6_split 5 none 1 := ⟨List.mem_of_getElem? (i := 289) (by decide +kernel), List.mem_of_getElem? (i := 290) (by decide +kernel), ki_X6, List.mem_of_getElem? (i := 291) (by decide +kernel), ⟨by decide +kernel, by decide +kernel⟩, by decide +kernel⟩
theorem mv_X5_at : MV yX5_at cX5_at 2 (some .int) 1 := ⟨List.mem_of_getElem? (i := 293) (by decide +kernel), List.mem_of_getElem? (i := 294) (by decide +kernel), ki_X5, List.mem_of_getElem? (i := 295) (by decide +kernel), ⟨by decide +kernel, by decide +kernel⟩, by decide +kernel⟩
theorem ms_X6_isSmallLetter : MS yX6_isSmallLetter cX6_isSmallLetter 1 (some .boolean) 1 := ⟨List.mem_of_getElem? (i := 297) (by decide +kernel), ki_X6, List.mem_of_getElem? (i := 298) (by decide +kernel), ⟨by decide +kernel, by decide +kernel⟩, by decide +kernel⟩
theorem mv_X6_putWord : MV yX6_putWord cX6_putWord 5 (some .int) 2 := ⟨List.mem_of_getElem? (i := 301) (by decide +kernel), List.mem_of_getElem? (i := 0) (by decide +kernel), ki_X6, List.mem_of_getElem? (i := 302) (by decide +kernel), ⟨by decide +kernel, by decide +kernel⟩, by decide +kernel⟩
theorem mv_X6_put : MV yX6_put cX6_put 4 none 3 := ⟨List.mem_of_getElem? (i := 305) (by decide +kernel), List.mem_of_getElem? (i := 1) (by decide +kernel), ki_X6, List.mem_of_getElem? (i := 306) (by decide +kernel), ⟨by decide +kernel, by decide +kernel⟩, by decide +kernel⟩
theorem ms_X6_stepKind : MS yX6_stepKind cX6_stepKind 3 (some .int) 3 := ⟨List.mem_of_getElem? (i := 308) (by decide +kernel), ki_X6, List.mem_of_getElem? (i := 309) (by decide +kernel), ⟨by decide +kernel, by decide +kernel⟩, by decide +kernel⟩
theorem mv_X5_spells : MV yX5_spells cX5_spells 5 (some .boolean) 3 := ⟨List.mem_of_getElem? (i := 312) (by decide +kernel), List.mem_of_getElem? (i := 313) (by decide +kernel), ki_X5, List.mem_of_getElem? (i := 314) (by decide +kernel), ⟨by decide +kernel, by decide +kernel⟩, by decide +kernel⟩
theorem mv_J0_length_8abf5 : MV yJ0_length_8abf5 cJ0_length_8abf5 1 (some .int) 0 := ⟨List.mem_of_getElem? (i := 316) (by decide +kernel), List.mem_of_getElem? (i := 317) (by decide +kernel), ki_J0, List.mem_of_getElem? (i := 318) (by decide +kernel), ⟨by decide +kernel, by decide +kernel⟩, by decide +kernel⟩
theorem mv_J0_coder_7d493 : MV yJ0_coder_7d493 cJ0_coder_7d493 1 (some .byte) 0 := ⟨List.mem_of_getElem? (i := 320) (by decide +kernel), List.mem_of_getElem? (i := 321) (by decide +kernel), ki_J0, List.mem_of_getElem? (i := 322) (by decide +kernel), ⟨by decide +kernel, by decide +kernel⟩, by decide +kernel⟩
theorem mv_J0_charAt_5068e : MV yJ0_charAt_5068e cJ0_charAt_5068e 2 (some .char) 1 := ⟨List.mem_of_getElem? (i := 327) (by decide +kernel), List.mem_of_getElem? (i := 328) (by decide +kernel), ki_J0, List.mem_of_getElem? (i := 329) (by decide +kernel), ⟨by decide +kernel, by decide +kernel⟩, by decide +kernel⟩
theorem mv_J0_isLatin1_aae02 : MV yJ0_isLatin1_aae02 cJ0_isLatin1_aae02 1 (some .boolean) 0 := ⟨List.mem_of_getElem? (i := 331) (by decide +kernel), List.mem_of_getElem? (i := 332) (by decide +kernel), ki_J0, List.mem_of_getElem? (i := 333) (by decide +kernel), ⟨by decide +kernel, by decide +kernel⟩, by decide +kernel⟩
theorem ms_J1_charAt_3b067 : MS yJ1_charAt_3b067 cJ1_charAt_3b067 2 (some .char) 2 := ⟨List.mem_of_getElem? (i := 335) (by decide +kernel), ki_J1, List.mem_of_getElem? (i := 336) (by decide +kernel), ⟨by decide +kernel, by decide +kernel⟩, by decide +kernel⟩
theorem ms_J0_checkIndex_df160 : MS yJ0_checkIndex_df160 cJ0_checkIndex_df160 2 none 2 := ⟨List.mem_of_getElem? (i := 338) (by decide +kernel), ki_J0, List.mem_of_getElem? (i := 339) (by decide +kernel), ⟨by decide +kernel, by decide +kernel⟩, by decide +kernel⟩
theorem ms_J3_checkIndex_8e157 : MS yJ3_checkIndex_8e157 cJ3_checkIndex_8e157 3 (some .int) 3 := ⟨List.mem_of_getElem? (i := 343) (by decide +kernel), ki_J3, List.mem_of_getElem? (i := 344) (by decide +kernel), ⟨by decide +kernel, by decide +kernel⟩, by decide +kernel⟩
theorem ms_J2_charAt_3b067 : MS yJ2_charAt_3b067 cJ2_charAt_3b067 2 (some .char) 2 := ⟨List.mem_of_getElem? (i := 346) (by decide +kernel), ki_J2, List.mem_of_getElem? (i := 347) (by decide +kernel), ⟨by decide +kernel, by decide +kernel⟩, by decide +kernel⟩
theorem ms_J2_checkIndex_2214a : MS yJ2_checkIndex_2214a cJ2_checkIndex_2214a 2 none 2 := ⟨List.mem_of_getElem? (i := 349) (by decide +kernel), ki_J2, List.mem_of_getElem? (i := 350) (by decide +kernel), ⟨by decide +kernel, by decide +kernel⟩, by decide +kernel⟩
theorem ms_J2_length_9d52b : MS yJ2_length_9d52b cJ2_length_9d52b 1 (some .int) 1 := ⟨List.mem_of_getElem? (i := 352) (by decide +kernel), ki_J2, List.mem_of_getElem? (i := 353) (by decide +kernel), ⟨by decide +kernel, by decide +kernel⟩, by decide +kernel⟩
theorem ms_J2_getChar_3b067 : MS yJ2_getChar_3b067 cJ2_getChar_3b067 2 (some .char) 2 := ⟨List.mem_of_getElem? (i := 356) (by decide +kernel), ki_J2, List.mem_of_getElem? (i := 357) (by decide +kernel), ⟨by decide +kernel, by decide +kernel⟩, by decide +kernel⟩
theorem ms_X6_isDigit : MS yX6_isDigit cX6_isDigit 1 (some .boolean) 1 := ⟨List.mem_of_getElem? (i := 372) (by decide +kernel), ki_X6, List.mem_of_getElem? (i := 373) (by decide +kernel), ⟨by decide +kernel, by decide +kernel⟩, by decide +kernel⟩
theorem mv_X6_putNumber : MV yX6_putNumber cX6_putNumber 6 (some .int) 2 := ⟨List.mem_of_getElem? (i := 376) (by decide +kernel), List.mem_of_getElem? (i := 2) (by decide +kernel), ki_X6, List.mem_of_getElem? (i := 377) (by decide +kernel), ⟨by decide +kernel, by decide +kernel⟩, by decide +kernel⟩
theorem ms_J9_min_7cf53 : MS yJ9_min_7cf53 cJ9_min_7cf53 2 (some .int) 2 := ⟨List.mem_of_getElem? (i := 379) (by decide +kernel), ki_J9, List.mem_of_getElem? (i := 380) (by decide +kernel), ⟨by decide +kernel, by decide +kernel⟩, by decide +kernel⟩
theorem mv_X6_putSign : MV yX6_putSign cX6_putSign 5 (some .int) 2 := ⟨List.mem_of_getElem? (i := 383) (by decide +kernel), List.mem_of_getElem? (i := 3) (by decide +kernel), ki_X6, List.mem_of_getElem? (i := 384) (by decide +kernel), ⟨by decide +kernel, by decide +kernel⟩, by decide +kernel⟩
theorem ms_X6_signKind : MS yX6_signKind cX6_signKind 1 (some .int) 1 := ⟨List.mem_of_getElem? (i := 386) (by decide +kernel), ki_X6, List.mem_of_getElem? (i := 387) (by decide +kernel), ⟨by decide +kernel, by decide +kernel⟩, by decide +kernel⟩
theorem mv_X6_kind : MV yX6_kind cX6_kind 1 (some .int) 0 := ⟨List.mem_of_getElem? (i := 389) (by decide +kernel), List.mem_of_getElem? (i := 390) (by decide +kernel), ki_X6, List.mem_of_getElem? (i := 391) (by decide +kernel), ⟨by decide +kernel, by decide +kernel⟩, by decide +kernel⟩
theorem mv_X3_takeLine : MV yX3_takeLine cX3_takeLine 3 (some .boolean) 1 := ⟨List.mem_of_getElem? (i := 394) (by decide +kernel), List.mem_of_getElem? (i := 4) (by decide +kernel), ki_X3, List.mem_of_getElem? (i := 395) (by decide +kernel), ⟨by decide +kernel, by decide +kernel⟩, by decide +kernel⟩
theorem mv_X2_becomeEmpty : MV yX2_becomeEmpty cX2_becomeEmpty 2 none 0 := ⟨List.mem_of_getElem? (i := 397) (by decide +kernel), List.mem_of_getElem? (i := 398) (by decide +kernel), ki_X2, List.mem_of_getElem? (i := 399) (by decide +kernel), ⟨by decide +kernel, by decide +kernel⟩, by decide +kernel⟩
theorem mv_X3_takeTerm : MV yX3_takeTerm cX3_takeTerm 4 (some .boolean) 1 := ⟨List.mem_of_getElem? (i := 402) (by decide +kernel), List.mem_of_getElem? (i := 5) (by decide +kernel), ki_X3, List.mem_of_getElem? (i := 403) (by decide +kernel), ⟨by decide +kernel, by decide +kernel⟩, by decide +kernel⟩
theorem mv_X6_value : MV yX6_value cX6_value 1 (some .int) 0 := ⟨List.mem_of_getElem? (i := 405) (by decide +kernel), List.mem_of_getElem? (i := 406) (by decide +kernel), ki_X6, List.mem_of_getElem? (i := 407) (by decide +kernel), ⟨by decide +kernel, by decide +kernel⟩, by decide +kernel⟩
theorem mv_X3_takeNumberWithin : MV yX3_takeNumberWithin cX3_takeNumberWithin 3 (some .boolean) 2 := ⟨List.mem_of_getElem? (i := 410) (by decide +kernel), List.mem_of_getElem? (i := 6) (by decide +kernel), ki_X3, List.mem_of_getElem? (i := 411) (by decide +kernel), ⟨by decide +kernel, by decide +kernel⟩, by decide +kernel⟩
theorem mv_X6_goOn : MV yX6_goOn cX6_goOn 1 none 0 := ⟨List.mem_of_getElem? (i := 413) (by decide +kernel), List.mem_of_getElem? (i := 414) (by decide +kernel), ki_X6, List.mem_of_getElem? (i := 415) (by decide +kernel), ⟨by decide +kernel, by decide +kernel⟩, by decide +kernel⟩
theorem mv_X3_take : MV yX3_take cX3_take 2 (some .boolean) 1 := ⟨List.mem_of_getElem? (i := 418) (by decide +kernel), List.mem_of_getElem? (i := 7) (by decide +kernel), ki_X3, List.mem_of_getElem? (i := 419) (by decide +kernel), ⟨by decide +kernel, by decide +kernel⟩, by decide +kernel⟩
theorem mv_X6_place : MV yX6_place cX6_place 1 (some .int) 0 := ⟨List.mem_of_getElem? (i := 421) (by decide +kernel), List.mem_of_getElem? (i := 422) (by decide +kernel), ki_X6, List.mem_of_getElem? (i := 423) (by decide +kernel), ⟨by decide +kernel, by decide +kernel⟩, by decide +kernel⟩
theorem mv_X2_becomeSame : MV yX2_becomeSame cX2_becomeSame 3 none 1 := ⟨List.mem_of_getElem? (i := 425) (by decide +kernel), List.mem_of_getElem? (i := 426) (by decide +kernel), ki_X2, List.mem_of_getElem? (i := 427) (by decide +kernel), ⟨by decide +kernel, by decide +kernel⟩, by decide +kernel⟩
theorem mv_X7_forgetProof : MV yX7_forgetProof cX7_forgetProof 1 none 0 := ⟨List.mem_of_getElem? (i := 430) (by decide +kernel), List.mem_of_getElem? (i := 8) (by decide +kernel), ki_X7, List.mem_of_getElem? (i := 431) (by decide +kernel), ⟨by decide +kernel, by decide +kernel⟩, by decide +kernel⟩
theorem mv_X7_proof : MV yX7_proof cX7_proof 2 (some .int) 0 := ⟨List.mem_of_getElem? (i := 433) (by decide +kernel), List.mem_of_getElem? (i := 434) (by decide +kernel), ki_X7, List.mem_of_getElem? (i := 435) (by decide +kernel), ⟨by decide +kernel, by decide +kernel⟩, by decide +kernel⟩
theorem mv_X3_readProof : MV yX3_readProof cX3_readProof 4 (some .int) 2 := ⟨List.mem_of_getElem? (i := 437) (by decide +kernel), List.mem_of_getElem? (i := 438) (by decide +kernel), ki_X3, List.mem_of_getElem? (i := 439) (by decide +kernel), ⟨by decide +kernel, by decide +kernel⟩, by decide +kernel⟩
theorem mv_X3_takeStepText : MV yX3_takeStepText cX3_takeStepText 3 (some .boolean) 2 := ⟨List.mem_of_getElem? (i := 442) (by decide +kernel), List.mem_of_getElem? (i := 9) (by decide +kernel), ki_X3, List.mem_of_getElem? (i := 443) (by decide +kernel), ⟨by decide +kernel, by decide +kernel⟩, by decide +kernel⟩
theorem mv_X3_takeLetter : MV yX3_takeLetter cX3_takeLetter 2 (some .boolean) 1 := ⟨List.mem_of_getElem? (i := 446) (by decide +kernel), List.mem_of_getElem? (i := 10) (by decide +kernel), ki_X3, List.mem_of_getElem? (i := 447) (by decide +kernel), ⟨by decide +kernel, by decide +kernel⟩, by decide +kernel⟩
theorem mv_X3_takeFirst : MV yX3_takeFirst cX3_takeFirst 3 (some .boolean) 2 := ⟨List.mem_of_getElem? (i := 450) (by decide +kernel), List.mem_of_getElem? (i := 11) (by decide +kernel), ki_X3, List.mem_of_getElem? (i := 451) (by decide +kernel), ⟨by decide +kernel, by decide +kernel⟩, by decide +kernel⟩
theorem mv_X3_takeSecond : MV yX3_takeSecond cX3_takeSecond 4 (some .boolean) 3 := ⟨List.mem_of_getElem? (i := 454) (by decide +kernel), List.mem_of_getElem? (i := 12) (by decide +kernel), ki_X3, List.mem_of_getElem? (i := 455) (by decide +kernel), ⟨by decide +kernel, by decide +kernel⟩, by decide +kernel⟩
theorem mv_X7_walkProof : MV yX7_walkProof cX7_walkProof 5 none 0 := ⟨List.mem_of_getElem? (i := 458) (by decide +kernel), List.mem_of_getElem? (i := 13) (by decide +kernel), ki_X7, List.mem_of_getElem? (i := 459) (by decide +kernel), ⟨by decide +kernel, by decide +kernel⟩, by decide +kernel⟩
theorem mv_X7_takeClaim : MV yX7_takeClaim cX7_takeClaim 4 (some .int) 3 := ⟨List.mem_of_getElem? (i := 462) (by decide +kernel), List.mem_of_getElem? (i := 14) (by decide +kernel), ki_X7, List.mem_of_getElem? (i := 463) (by decide +kernel), ⟨by decide +kernel, by decide +kernel⟩, by decide +kernel⟩
theorem mv_X2_becomeOpposite : MV yX2_becomeOpposite cX2_becomeOpposite 3 none 1 := ⟨List.mem_of_getElem? (i := 465) (by decide +kernel), List.mem_of_getElem? (i := 466) (by decide +kernel), ki_X2, List.mem_of_getElem? (i := 467) (by decide +kernel), ⟨by decide +kernel, by decide +kernel⟩, by decide +kernel⟩
theorem mv_X2_mayWeigh : MV yX2_mayWeigh cX2_mayWeigh 7 (some .int) 2 := ⟨List.mem_of_getElem? (i := 469) (by decide +kernel), List.mem_of_getElem? (i := 470) (by decide +kernel), ki_X2, List.mem_of_getElem? (i := 471) (by decide +kernel), ⟨by decide +kernel, by decide +kernel⟩, by decide +kernel⟩
theorem ms_J9_abs_0f7a4 : MS yJ9_abs_0f7a4 cJ9_abs_0f7a4 1 (some .int) 1 := ⟨List.mem_of_getElem? (i := 473) (by decide +kernel), ki_J9, List.mem_of_getElem? (i := 474) (by decide +kernel), ⟨by decide +kernel, by decide +kernel⟩, by decide +kernel⟩
theorem mv_X1_force : MV yX1_force cX1_force 7 none 4 := ⟨List.mem_of_getElem? (i := 476) (by decide +kernel), List.mem_of_getElem? (i := 477) (by decide +kernel), ki_X1, List.mem_of_getElem? (i := 478) (by decide +kernel), ⟨by decide +kernel, by decide +kernel⟩, by decide +kernel⟩
theorem mv_X1_passOver : MV yX1_passOver cX1_passOver 5 (some .boolean) 2 := ⟨List.mem_of_getElem? (i := 481) (by decide +kernel), List.mem_of_getElem? (i := 15) (by decide +kernel), ki_X1, List.mem_of_getElem? (i := 482) (by decide +kernel), ⟨by decide +kernel, by decide +kernel⟩, by decide +kernel⟩
theorem mv_X1_visit : MV yX1_visit cX1_visit 6 none 1 := ⟨List.mem_of_getElem? (i := 485) (by decide +kernel), List.mem_of_getElem? (i := 16) (by decide +kernel), ki_X1, List.mem_of_getElem? (i := 486) (by decide +kernel), ⟨by decide +kernel, by decide +kernel⟩, by decide +kernel⟩
theorem mv_X7_takeStep : MV yX7_takeStep cX7_takeStep 3 (some .int) 2 := ⟨List.mem_of_getElem? (i := 490) (by decide +kernel), List.mem_of_getElem? (i := 17) (by decide +kernel), ki_X7, List.mem_of_getElem? (i := 491) (by decide +kernel), ⟨by decide +kernel, by decide +kernel⟩, by decide +kernel⟩
theorem mv_X7_lineOrFirst : MV yX7_lineOrFirst cX7_lineOrFirst 2 (some (.object "TruthSums$Line")) 1 := ⟨List.mem_of_getElem? (i := 494) (by decide +kernel), List.mem_of_getElem? (i := 18) (by decide +kernel), ki_X7, List.mem_of_getElem? (i := 495) (by decide +kernel), ⟨by decide +kernel, by decide +kernel⟩, by decide +kernel⟩
theorem mv_X7_isLine : MV yX7_isLine cX7_isLine 2 (some .boolean) 1 := ⟨List.mem_of_getElem? (i := 498) (by decide +kernel), List.mem_of_getElem? (i := 19) (by decide +kernel), ki_X7, List.mem_of_getElem? (i := 499) (by decide +kernel), ⟨by decide +kernel, by decide +kernel⟩, by decide +kernel⟩
theorem mv_X7_lineCount : MV yX7_lineCount cX7_lineCount 1 (some .int) 0 := ⟨List.mem_of_getElem? (i := 502) (by decide +kernel), List.mem_of_getElem? (i := 20) (by decide +kernel), ki_X7, List.mem_of_getElem? (i := 503) (by decide +kernel), ⟨by decide +kernel, by decide +kernel⟩, by decide +kernel⟩
theorem mv_X2_becomeSum : MV yX2_becomeSum cX2_becomeSum 7 none 2 := ⟨List.mem_of_getElem? (i := 505) (by decide +kernel), List.mem_of_getElem? (i := 506) (by decide +kernel), ki_X2, List.mem_of_getElem? (i := 507) (by decide +kernel), ⟨by decide +kernel, by decide +kernel⟩, by decide +kernel⟩
theorem ms_J9_max_7cf53 : MS yJ9_max_7cf53 cJ9_max_7cf53 2 (some .int) 2 := ⟨List.mem_of_getElem? (i := 510) (by decide +kernel), ki_J9, List.mem_of_getElem? (i := 511) (by decide +kernel), ⟨by decide +kernel, by decide +kernel⟩, by decide +kernel⟩
theorem mv_X2_becomeTimes : MV yX2_becomeTimes cX2_becomeTimes 4 none 2 := ⟨List.mem_of_getElem? (i := 513) (by decide +kernel), List.mem_of_getElem? (i := 514) (by decide +kernel), ki_X2, List.mem_of_getElem? (i := 515) (by decide +kernel), ⟨by decide +kernel, by decide +kernel⟩, by decide +kernel⟩
theorem mv_X2_becomeCut : MV yX2_becomeCut cX2_becomeCut 6 none 2 := ⟨List.mem_of_getElem? (i := 517) (by decide +kernel), List.mem_of_getElem? (i := 518) (by decide +kernel), ki_X2, List.mem_of_getElem? (i := 519) (by decide +kernel), ⟨by decide +kernel, by decide +kernel⟩, by decide +kernel⟩
theorem ms_X2_signed : MS yX2_signed cX2_signed 2 (some .int) 2 := ⟨List.mem_of_getElem? (i := 521) (by decide +kernel), ki_X2, List.mem_of_getElem? (i := 522) (by decide +kernel), ⟨by decide +kernel, by decide +kernel⟩, by decide +kernel⟩
theorem mv_X2_becomeTrimmed : MV yX2_becomeTrimmed cX2_becomeTrimmed 4 none 1 := ⟨List.mem_of_getElem? (i := 524) (by decide +kernel), List.mem_of_getElem? (i := 525) (by decide +kernel), ki_X2, List.mem_of_getElem? (i := 526) (by decide +kernel), ⟨by decide +kernel, by decide +kernel⟩, by decide +kernel⟩
theorem mv_X2_becomeDropped : MV yX2_becomeDropped cX2_becomeDropped 3 none 2 := ⟨List.mem_of_getElem? (i := 528) (by decide +kernel), List.mem_of_getElem? (i := 529) (by decide +kernel), ki_X2, List.mem_of_getElem? (i := 530) (by decide +kernel), ⟨by decide +kernel, by decide +kernel⟩, by decide +kernel⟩
theorem mv_X2_becomeBare : MV yX2_becomeBare cX2_becomeBare 3 none 2 := ⟨List.mem_of_getElem? (i := 533) (by decide +kernel), List.mem_of_getElem? (i := 534) (by decide +kernel), ki_X2, List.mem_of_getElem? (i := 535) (by decide +kernel), ⟨by decide +kernel, by decide +kernel⟩, by decide +kernel⟩
theorem mv_X2_isTooGreat : MV yX2_isTooGreat cX2_isTooGreat 2 (some .boolean) 0 := ⟨List.mem_of_getElem? (i := 538) (by decide +kernel), List.mem_of_getElem? (i := 539) (by decide +kernel), ki_X2, List.mem_of_getElem? (i := 540) (by decide +kernel), ⟨by decide +kernel, by decide +kernel⟩, by decide +kernel⟩
theorem mv_X7_wrong : MV yX7_wrong cX7_wrong 2 (some .int) 1 := ⟨List.mem_of_getElem? (i := 543) (by decide +kernel), List.mem_of_getElem? (i := 544) (by decide +kernel), ki_X7, List.mem_of_getElem? (i := 545) (by decide +kernel), ⟨by decide +kernel, by decide +kernel⟩, by decide +kernel⟩
theorem mv_X7_line : MV yX7_line cX7_line 3 (some .int) 2 := ⟨List.mem_of_getElem? (i := 547) (by decide +kernel), List.mem_of_getElem? (i := 548) (by decide +kernel), ki_X7, List.mem_of_getElem? (i := 549) (by decide +kernel), ⟨by decide +kernel, by decide +kernel⟩, by decide +kernel⟩
theorem mv_X7_holds : MV yX7_holds cX7_holds 2 (some .long) 1 := ⟨List.mem_of_getElem? (i := 552) (by decide +kernel), List.mem_of_getElem? (i := 553) (by decide +kernel), ki_X7, List.mem_of_getElem? (i := 554) (by decide +kernel), ⟨by decide +kernel, by decide +kernel⟩, by decide +kernel⟩
theorem mv_X2_worldsHeld : MV yX2_worldsHeld cX2_worldsHeld 4 (some .long) 0 := ⟨List.mem_of_getElem? (i := 556) (by decide +kernel), List.mem_of_getElem? (i := 557) (by decide +kernel), ki_X2, List.mem_of_getElem? (i := 558) (by decide +kernel), ⟨by decide +kernel, by decide +kernel⟩, by decide +kernel⟩
theorem mv_X2_weighsIn : MV yX2_weighsIn cX2_weighsIn 2 (some .int) 1 := ⟨List.mem_of_getElem? (i := 560) (by decide +kernel), List.mem_of_getElem? (i := 561) (by decide +kernel), ki_X2, List.mem_of_getElem? (i := 562) (by decide +kernel), ⟨by decide +kernel, by decide +kernel⟩, by decide +kernel⟩
theorem mv_X7_broken : MV yX7_broken cX7_broken 2 (some .int) 1 := ⟨List.mem_of_getElem? (i := 564) (by decide +kernel), List.mem_of_getElem? (i := 565) (by decide +kernel), ki_X7, List.mem_of_getElem? (i := 566) (by decide +kernel), ⟨by decide +kernel, by decide +kernel⟩, by decide +kernel⟩
theorem mv_X2_isBroken : MV yX2_isBroken cX2_isBroken 1 (some .boolean) 0 := ⟨List.mem_of_getElem? (i := 568) (by decide +kernel), List.mem_of_getElem? (i := 569) (by decide +kernel), ki_X2, List.mem_of_getElem? (i := 570) (by decide +kernel), ⟨by decide +kernel, by decide +kernel⟩, by decide +kernel⟩
theorem mv_X7_end : MV yX7_end cX7_end 2 (some .int) 0 := ⟨List.mem_of_getElem? (i := 572) (by decide +kernel), List.mem_of_getElem? (i := 573) (by decide +kernel), ki_X7, List.mem_of_getElem? (i := 574) (by decide +kernel), ⟨by decide +kernel, by decide +kernel⟩, by decide +kernel⟩
theorem mv_X7_both : MV yX7_both cX7_both 9 (some .int) 3 := ⟨List.mem_of_getElem? (i := 576) (by decide +kernel), List.mem_of_getElem? (i := 577) (by decide +kernel), ki_X7, List.mem_of_getElem? (i := 578) (by decide +kernel), ⟨by decide +kernel, by decide +kernel⟩, by decide +kernel⟩
theorem ms_X7_isWithin : MS yX7_isWithin cX7_isWithin 4 (some .boolean) 2 := ⟨List.mem_of_getElem? (i := 580) (by decide +kernel), ki_X7, List.mem_of_getElem? (i := 581) (by decide +kernel), ⟨by decide +kernel, by decide +kernel⟩, by decide +kernel⟩
theorem mv_X7_forced : MV yX7_forced cX7_forced 5 (some .int) 4 := ⟨List.mem_of_getElem? (i := 584) (by decide +kernel), List.mem_of_getElem? (i := 585) (by decide +kernel), ki_X7, List.mem_of_getElem? (i := 586) (by decide +kernel), ⟨by decide +kernel, by decide +kernel⟩, by decide +kernel⟩
theorem ms_X7_isLetterSet : MS yX7_isLetterSet cX7_isLetterSet 1 (some .boolean) 1 := ⟨List.mem_of_getElem? (i := 588) (by decide +kernel), ki_X7, List.mem_of_getElem? (i := 589) (by decide +kernel), ⟨by decide +kernel, by decide +kernel⟩, by decide +kernel⟩
theorem mv_X7_trues : MV yX7_trues cX7_trues 1 (some .long) 0 := ⟨List.mem_of_getElem? (i := 591) (by decide +kernel), List.mem_of_getElem? (i := 592) (by decide +kernel), ki_X7, List.mem_of_getElem? (i := 593) (by decide +kernel), ⟨by decide +kernel, by decide +kernel⟩, by decide +kernel⟩
theorem mv_X7_trueWorlds : MV yX7_trueWorlds cX7_trueWorlds 4 (some .long) 0 := ⟨List.mem_of_getElem? (i := 596) (by decide +kernel), List.mem_of_getElem? (i := 21) (by decide +kernel), ki_X7, List.mem_of_getElem? (i := 597) (by decide +kernel), ⟨by decide +kernel, by decide +kernel⟩, by decide +kernel⟩
theorem mv_X7_told : MV yX7_told cX7_told 2 (some .int) 1 := ⟨List.mem_of_getElem? (i := 599) (by decide +kernel), List.mem_of_getElem? (i := 600) (by decide +kernel), ki_X7, List.mem_of_getElem? (i := 601) (by decide +kernel), ⟨by decide +kernel, by decide +kernel⟩, by decide +kernel⟩
theorem mv_X7_tight : MV yX7_tight cX7_tight 7 (some .int) 1 := ⟨List.mem_of_getElem? (i := 603) (by decide +kernel), List.mem_of_getElem? (i := 604) (by decide +kernel), ki_X7, List.mem_of_getElem? (i := 605) (by decide +kernel), ⟨by decide +kernel, by decide +kernel⟩, by decide +kernel⟩
theorem ms_X7_has : MS yX7_has cX7_has 3 (some .boolean) 2 := ⟨List.mem_of_getElem? (i := 607) (by decide +kernel), ki_X7, List.mem_of_getElem? (i := 608) (by decide +kernel), ⟨by decide +kernel, by decide +kernel⟩, by decide +kernel⟩
theorem mv_X7_needed : MV yX7_needed cX7_needed 4 (some .int) 2 := ⟨List.mem_of_getElem? (i := 611) (by decide +kernel), List.mem_of_getElem? (i := 612) (by decide +kernel), ki_X7, List.mem_of_getElem? (i := 613) (by decide +kernel), ⟨by decide +kernel, by decide +kernel⟩, by decide +kernel⟩
theorem mv_X7_leastTelling : MV yX7_leastTelling cX7_leastTelling 7 (some .int) 1 := ⟨List.mem_of_getElem? (i := 616) (by decide +kernel), List.mem_of_getElem? (i := 22) (by decide +kernel), ki_X7, List.mem_of_getElem? (i := 617) (by decide +kernel), ⟨by decide +kernel, by decide +kernel⟩, by decide +kernel⟩
theorem ms_J6_bitCount_0f7a4 : MS yJ6_bitCount_0f7a4 cJ6_bitCount_0f7a4 1 (some .int) 1 := ⟨List.mem_of_getElem? (i := 619) (by decide +kernel), ki_J6, List.mem_of_getElem? (i := 620) (by decide +kernel), ⟨by decide +kernel, by decide +kernel⟩, by decide +kernel⟩
theorem mv_X7_worldsOfGiven : MV yX7_worldsOfGiven cX7_worldsOfGiven 5 (some .long) 1 := ⟨List.mem_of_getElem? (i := 626) (by decide +kernel), List.mem_of_getElem? (i := 23) (by decide +kernel), ki_X7, List.mem_of_getElem? (i := 627) (by decide +kernel), ⟨by decide +kernel, by decide +kernel⟩, by decide +kernel⟩
theorem mv_X7_covers : MV yX7_covers cX7_covers 5 (some .int) 2 := ⟨List.mem_of_getElem? (i := 629) (by decide +kernel), List.mem_of_getElem? (i := 630) (by decide +kernel), ki_X7, List.mem_of_getElem? (i := 631) (by decide +kernel), ⟨by decide +kernel, by decide +kernel⟩, by decide +kernel⟩
theorem mv_X2_isLeastCover : MV yX2_isLeastCover cX2_isLeastCover 3 (some .boolean) 1 := ⟨List.mem_of_getElem? (i := 633) (by decide +kernel), List.mem_of_getElem? (i := 634) (by decide +kernel), ki_X2, List.mem_of_getElem? (i := 635) (by decide +kernel), ⟨by decide +kernel, by decide +kernel⟩, by decide +kernel⟩
theorem mv_X2_isCover : MV yX2_isCover cX2_isCover 4 (some .boolean) 1 := ⟨List.mem_of_getElem? (i := 638) (by decide +kernel), List.mem_of_getElem? (i := 24) (by decide +kernel), ki_X2, List.mem_of_getElem? (i := 639) (by decide +kernel), ⟨by decide +kernel, by decide +kernel⟩, by decide +kernel⟩
theorem mv_X7_cost : MV yX7_cost cX7_cost 4 (some .int) 2 := ⟨List.mem_of_getElem? (i := 641) (by decide +kernel), List.mem_of_getElem? (i := 642) (by decide +kernel), ki_X7, List.mem_of_getElem? (i := 643) (by decide +kernel), ⟨by decide +kernel, by decide +kernel⟩, by decide +kernel⟩
theorem mv_X7_least : MV yX7_least cX7_least 3 (some .int) 1 := ⟨List.mem_of_getElem? (i := 645) (by decide +kernel), List.mem_of_getElem? (i := 646) (by decide +kernel), ki_X7, List.mem_of_getElem? (i := 647) (by decide +kernel), ⟨by decide +kernel, by decide +kernel⟩, by decide +kernel⟩
theorem mv_X7_cheapestTrueWorld : MV yX7_cheapestTrueWorld cX7_cheapestTrueWorld 5 (some .int) 0 := ⟨List.mem_of_getElem? (i := 650) (by decide +kernel), List.mem_of_getElem? (i := 25) (by decide +kernel), ki_X7, List.mem_of_getElem? (i := 651) (by decide +kernel), ⟨by decide +kernel, by decide +kernel⟩, by decide +kernel⟩
theorem mv_X7_costOf : MV yX7_costOf cX7_costOf 4 (some .int) 1 := ⟨List.mem_of_getElem? (i := 654) (by decide +kernel), List.mem_of_getElem? (i := 26) (by decide +kernel), ki_X7, List.mem_of_getElem? (i := 655) (by decide +kernel), ⟨by decide +kernel, by decide +kernel⟩, by decide +kernel⟩
theorem mv_X7_fit : MV yX7_fit cX7_fit 3 (some .int) 2 := ⟨List.mem_of_getElem? (i := 657) (by decide +kernel), List.mem_of_getElem? (i := 658) (by decide +kernel), ki_X7, List.mem_of_getElem? (i := 659) (by decide +kernel), ⟨by decide +kernel, by decide +kernel⟩, by decide +kernel⟩
theorem mv_X0_search : MV yX0_search cX0_search 3 (some .boolean) 1 := ⟨List.mem_of_getElem? (i := 661) (by decide +kernel), List.mem_of_getElem? (i := 662) (by decide +kernel), ki_X0, List.mem_of_getElem? (i := 663) (by decide +kernel), ⟨by decide +kernel, by decide +kernel⟩, by decide +kernel⟩
theorem mv_X0_searchTogether : MV yX0_searchTogether cX0_searchTogether 6 (some .boolean) 2 := ⟨List.mem_of_getElem? (i := 666) (by decide +kernel), List.mem_of_getElem? (i := 27) (by decide +kernel), ki_X0, List.mem_of_getElem? (i := 667) (by decide +kernel), ⟨by decide +kernel, by decide +kernel⟩, by decide +kernel⟩
theorem mv_X0_fits : MV yX0_fits cX0_fits 9 (some .boolean) 4 := ⟨List.mem_of_getElem? (i := 671) (by decide +kernel), List.mem_of_getElem? (i := 28) (by decide +kernel), ki_X0, List.mem_of_getElem? (i := 672) (by decide +kernel), ⟨by decide +kernel, by decide +kernel⟩, by decide +kernel⟩
theorem ms_X0_part : MS yX0_part cX0_part 2 (some .int) 2 := ⟨List.mem_of_getElem? (i := 674) (by decide +kernel), ki_X0, List.mem_of_getElem? (i := 675) (by decide +kernel), ⟨by decide +kernel, by decide +kernel⟩, by decide +kernel⟩
theorem mv_X7_count : MV yX7_count cX7_count 2 (some .int) 1 := ⟨List.mem_of_getElem? (i := 680) (by decide +kernel), List.mem_of_getElem? (i := 681) (by decide +kernel), ki_X7, List.mem_of_getElem? (i := 682) (by decide +kernel), ⟨by decide +kernel, by decide +kernel⟩, by decide +kernel⟩
theorem ms_J13_bitCount_95d88 : MS yJ13_bitCount_95d88 cJ13_bitCount_95d88 2 (some .int) 1 := ⟨List.mem_of_getElem? (i := 684) (by decide +kernel), ki_J13, List.mem_of_getElem? (i := 685) (by decide +kernel), ⟨by decide +kernel, by decide +kernel⟩, by decide +kernel⟩
-- no call row for yX8_init
theorem mv_X8_type : MV yX8_type cX8_type 5 (some .int) 2 := ⟨List.mem_of_getElem? (i := 757) (by decide +kernel), List.mem_of_getElem? (i := 758) (by decide +kernel), ki_X8, List.mem_of_getElem? (i := 759) (by decide +kernel), ⟨by decide +kernel, by decide +kernel⟩, by decide +kernel⟩
theorem ms_X8_in : MS yX8_in cX8_in 3 (some .boolean) 3 := ⟨List.mem_of_getElem? (i := 761) (by decide +kernel), ki_X8, List.mem_of_getElem? (i := 762) (by decide +kernel), ⟨by decide +kernel, by decide +kernel⟩, by decide +kernel⟩
theorem mv_X8_clear : MV yX8_clear cX8_clear 2 (some .int) 0 := ⟨List.mem_of_getElem? (i := 765) (by decide +kernel), List.mem_of_getElem? (i := 766) (by decide +kernel), ki_X8, List.mem_of_getElem? (i := 767) (by decide +kernel), ⟨by decide +kernel, by decide +kernel⟩, by decide +kernel⟩
theorem mv_X8_given : MV yX8_given cX8_given 3 (some .int) 0 := ⟨List.mem_of_getElem? (i := 769) (by decide +kernel), List.mem_of_getElem? (i := 770) (by decide +kernel), ki_X8, List.mem_of_getElem? (i := 771) (by decide +kernel), ⟨by decide +kernel, by decide +kernel⟩, by decide +kernel⟩
theorem mv_X8_advances : MV yX8_advances cX8_advances 5 none 0 := ⟨List.mem_of_getElem? (i := 774) (by decide +kernel), List.mem_of_getElem? (i := 29) (by decide +kernel), ki_X8, List.mem_of_getElem? (i := 775) (by decide +kernel), ⟨by decide +kernel, by decide +kernel⟩, by decide +kernel⟩
theorem mv_X8_byteAt : MV yX8_byteAt cX8_byteAt 2 (some .int) 1 := ⟨List.mem_of_getElem? (i := 778) (by decide +kernel), List.mem_of_getElem? (i := 30) (by decide +kernel), ki_X8, List.mem_of_getElem? (i := 779) (by decide +kernel), ⟨by decide +kernel, by decide +kernel⟩, by decide +kernel⟩
theorem ms_X8_add : MS yX8_add cX8_add 3 (some .long) 2 := ⟨List.mem_of_getElem? (i := 781) (by decide +kernel), ki_X8, List.mem_of_getElem? (i := 782) (by decide +kernel), ⟨by decide +kernel, by decide +kernel⟩, by decide +kernel⟩
theorem ms_X8_wordOf : MS yX8_wordOf cX8_wordOf 2 (some .int) 1 := ⟨List.mem_of_getElem? (i := 785) (by decide +kernel), ki_X8, List.mem_of_getElem? (i := 786) (by decide +kernel), ⟨by decide +kernel, by decide +kernel⟩, by decide +kernel⟩
theorem ms_X8_word : MS yX8_word cX8_word 5 (some .long) 5 := ⟨List.mem_of_getElem? (i := 788) (by decide +kernel), ki_X8, List.mem_of_getElem? (i := 789) (by decide +kernel), ⟨by decide +kernel, by decide +kernel⟩, by decide +kernel⟩
theorem mv_X8_isWell : MV yX8_isWell cX8_isWell 1 (some .boolean) 0 := ⟨List.mem_of_getElem? (i := 792) (by decide +kernel), List.mem_of_getElem? (i := 31) (by decide +kernel), ki_X8, List.mem_of_getElem? (i := 793) (by decide +kernel), ⟨by decide +kernel, by decide +kernel⟩, by decide +kernel⟩
theorem mv_X8_fails : MV yX8_fails cX8_fails 1 none 0 := ⟨List.mem_of_getElem? (i := 796) (by decide +kernel), List.mem_of_getElem? (i := 32) (by decide +kernel), ki_X8, List.mem_of_getElem? (i := 797) (by decide +kernel), ⟨by decide +kernel, by decide +kernel⟩, by decide +kernel⟩
theorem mv_X8_readsLine : MV yX8_readsLine cX8_readsLine 5 none 2 := ⟨List.mem_of_getElem? (i := 800) (by decide +kernel), List.mem_of_getElem? (i := 33) (by decide +kernel), ki_X8, List.mem_of_getElem? (i := 801) (by decide +kernel), ⟨by decide +kernel, by decide +kernel⟩, by decide +kernel⟩
theorem mv_X8_isToken : MV yX8_isToken cX8_isToken 2 (some .boolean) 1 := ⟨List.mem_of_getElem? (i := 804) (by decide +kernel), List.mem_of_getElem? (i := 34) (by decide +kernel), ki_X8, List.mem_of_getElem? (i := 805) (by decide +kernel), ⟨by decide +kernel, by decide +kernel⟩, by decide +kernel⟩
theorem mv_X8_takesNumber : MV yX8_takesNumber cX8_takesNumber 4 (some .int) 2 := ⟨List.mem_of_getElem? (i := 808) (by decide +kernel), List.mem_of_getElem? (i := 35) (by decide +kernel), ki_X8, List.mem_of_getElem? (i := 809) (by decide +kernel), ⟨by decide +kernel, by decide +kernel⟩, by decide +kernel⟩
theorem mv_X8_takes : MV yX8_takes cX8_takes 2 none 1 := ⟨List.mem_of_getElem? (i := 812) (by decide +kernel), List.mem_of_getElem? (i := 36) (by decide +kernel), ki_X8, List.mem_of_getElem? (i := 813) (by decide +kernel), ⟨by decide +kernel, by decide +kernel⟩, by decide +kernel⟩
theorem mv_X8_proof : MV yX8_proof cX8_proof 6 (some .int) 0 := ⟨List.mem_of_getElem? (i := 815) (by decide +kernel), List.mem_of_getElem? (i := 816) (by decide +kernel), ki_X8, List.mem_of_getElem? (i := 817) (by decide +kernel), ⟨by decide +kernel, by decide +kernel⟩, by decide +kernel⟩
theorem mv_X8_readsStep : MV yX8_readsStep cX8_readsStep 4 none 1 := ⟨List.mem_of_getElem? (i := 820) (by decide +kernel), List.mem_of_getElem? (i := 37) (by decide +kernel), ki_X8, List.mem_of_getElem? (i := 821) (by decide +kernel), ⟨by decide +kernel, by decide +kernel⟩, by decide +kernel⟩
theorem mv_X8_takesLetter : MV yX8_takesLetter cX8_takesLetter 2 (some .int) 0 := ⟨List.mem_of_getElem? (i := 824) (by decide +kernel), List.mem_of_getElem? (i := 38) (by decide +kernel), ki_X8, List.mem_of_getElem? (i := 825) (by decide +kernel), ⟨by decide +kernel, by decide +kernel⟩, by decide +kernel⟩
theorem mv_X8_does : MV yX8_does cX8_does 13 none 2 := ⟨List.mem_of_getElem? (i := 828) (by decide +kernel), List.mem_of_getElem? (i := 39) (by decide +kernel), ki_X8, List.mem_of_getElem? (i := 829) (by decide +kernel), ⟨by decide +kernel, by decide +kernel⟩, by decide +kernel⟩
theorem ms_X8_size : MS yX8_size cX8_size 1 (some .int) 1 := ⟨List.mem_of_getElem? (i := 831) (by decide +kernel), ki_X8, List.mem_of_getElem? (i := 832) (by decide +kernel), ⟨by decide +kernel, by decide +kernel⟩, by decide +kernel⟩
theorem mv_X8_isGreat : MV yX8_isGreat cX8_isGreat 4 (some .boolean) 1 := ⟨List.mem_of_getElem? (i := 835) (by decide +kernel), List.mem_of_getElem? (i := 40) (by decide +kernel), ki_X8, List.mem_of_getElem? (i := 836) (by decide +kernel), ⟨by decide +kernel, by decide +kernel⟩, by decide +kernel⟩
theorem mv_X8_isRight : MV yX8_isRight cX8_isRight 7 (some .boolean) 1 := ⟨List.mem_of_getElem? (i := 840) (by decide +kernel), List.mem_of_getElem? (i := 41) (by decide +kernel), ki_X8, List.mem_of_getElem? (i := 841) (by decide +kernel), ⟨by decide +kernel, by decide +kernel⟩, by decide +kernel⟩
theorem mv_X8_weights : MV yX8_weights cX8_weights 4 (some .int) 1 := ⟨List.mem_of_getElem? (i := 844) (by decide +kernel), List.mem_of_getElem? (i := 42) (by decide +kernel), ki_X8, List.mem_of_getElem? (i := 845) (by decide +kernel), ⟨by decide +kernel, by decide +kernel⟩, by decide +kernel⟩
theorem mv_X8_clashes : MV yX8_clashes cX8_clashes 11 (some .boolean) 3 := ⟨List.mem_of_getElem? (i := 848) (by decide +kernel), List.mem_of_getElem? (i := 43) (by decide +kernel), ki_X8, List.mem_of_getElem? (i := 849) (by decide +kernel), ⟨by decide +kernel, by decide +kernel⟩, by decide +kernel⟩
theorem mv_X8_wrong : MV yX8_wrong cX8_wrong 2 (some .int) 1 := ⟨List.mem_of_getElem? (i := 851) (by decide +kernel), List.mem_of_getElem? (i := 852) (by decide +kernel), ki_X8, List.mem_of_getElem? (i := 853) (by decide +kernel), ⟨by decide +kernel, by decide +kernel⟩, by decide +kernel⟩
theorem mv_X8_line : MV yX8_line cX8_line 3 (some .int) 2 := ⟨List.mem_of_getElem? (i := 855) (by decide +kernel), List.mem_of_getElem? (i := 856) (by decide +kernel), ki_X8, List.mem_of_getElem? (i := 857) (by decide +kernel), ⟨by decide +kernel, by decide +kernel⟩, by decide +kernel⟩
theorem mv_X8_isLine : MV yX8_isLine cX8_isLine 2 (some .boolean) 1 := ⟨List.mem_of_getElem? (i := 860) (by decide +kernel), List.mem_of_getElem? (i := 44) (by decide +kernel), ki_X8, List.mem_of_getElem? (i := 861) (by decide +kernel), ⟨by decide +kernel, by decide +kernel⟩, by decide +kernel⟩
theorem mv_X8_holds : MV yX8_holds cX8_holds 2 (some .long) 1 := ⟨List.mem_of_getElem? (i := 864) (by decide +kernel), List.mem_of_getElem? (i := 865) (by decide +kernel), ki_X8, List.mem_of_getElem? (i := 866) (by decide +kernel), ⟨by decide +kernel, by decide +kernel⟩, by decide +kernel⟩
theorem mv_X8_held : MV yX8_held cX8_held 5 (some .long) 1 := ⟨List.mem_of_getElem? (i := 869) (by decide +kernel), List.mem_of_getElem? (i := 45) (by decide +kernel), ki_X8, List.mem_of_getElem? (i := 870) (by decide +kernel), ⟨by decide +kernel, by decide +kernel⟩, by decide +kernel⟩
theorem mv_X8_isHeld : MV yX8_isHeld cX8_isHeld 3 (some .boolean) 2 := ⟨List.mem_of_getElem? (i := 873) (by decide +kernel), List.mem_of_getElem? (i := 46) (by decide +kernel), ki_X8, List.mem_of_getElem? (i := 874) (by decide +kernel), ⟨by decide +kernel, by decide +kernel⟩, by decide +kernel⟩
theorem mv_X8_weighs : MV yX8_weighs cX8_weighs 6 (some .int) 2 := ⟨List.mem_of_getElem? (i := 877) (by decide +kernel), List.mem_of_getElem? (i := 47) (by decide +kernel), ki_X8, List.mem_of_getElem? (i := 878) (by decide +kernel), ⟨by decide +kernel, by decide +kernel⟩, by decide +kernel⟩
theorem mv_X8_broken : MV yX8_broken cX8_broken 2 (some .int) 1 := ⟨List.mem_of_getElem? (i := 880) (by decide +kernel), List.mem_of_getElem? (i := 881) (by decide +kernel), ki_X8, List.mem_of_getElem? (i := 882) (by decide +kernel), ⟨by decide +kernel, by decide +kernel⟩, by decide +kernel⟩
theorem mv_X8_isBroken : MV yX8_isBroken cX8_isBroken 2 (some .boolean) 1 := ⟨List.mem_of_getElem? (i := 885) (by decide +kernel), List.mem_of_getElem? (i := 48) (by decide +kernel), ki_X8, List.mem_of_getElem? (i := 886) (by decide +kernel), ⟨by decide +kernel, by decide +kernel⟩, by decide +kernel⟩
theorem mv_X8_end : MV yX8_end cX8_end 2 (some .int) 0 := ⟨List.mem_of_getElem? (i := 888) (by decide +kernel), List.mem_of_getElem? (i := 889) (by decide +kernel), ki_X8, List.mem_of_getElem? (i := 890) (by decide +kernel), ⟨by decide +kernel, by decide +kernel⟩, by decide +kernel⟩
theorem mv_X8_both : MV yX8_both cX8_both 8 (some .int) 3 := ⟨List.mem_of_getElem? (i := 892) (by decide +kernel), List.mem_of_getElem? (i := 893) (by decide +kernel), ki_X8, List.mem_of_getElem? (i := 894) (by decide +kernel), ⟨by decide +kernel, by decide +kernel⟩, by decide +kernel⟩
theorem mv_X8_forced : MV yX8_forced cX8_forced 6 (some .int) 4 := ⟨List.mem_of_getElem? (i := 897) (by decide +kernel), List.mem_of_getElem? (i := 898) (by decide +kernel), ki_X8, List.mem_of_getElem? (i := 899) (by decide +kernel), ⟨by decide +kernel, by decide +kernel⟩, by decide +kernel⟩
theorem mv_X8_trues : MV yX8_trues cX8_trues 1 (some .long) 0 := ⟨List.mem_of_getElem? (i := 901) (by decide +kernel), List.mem_of_getElem? (i := 902) (by decide +kernel), ki_X8, List.mem_of_getElem? (i := 903) (by decide +kernel), ⟨by decide +kernel, by decide +kernel⟩, by decide +kernel⟩
theorem mv_X8_trueWorlds : MV yX8_trueWorlds cX8_trueWorlds 1 (some .long) 0 := ⟨List.mem_of_getElem? (i := 906) (by decide +kernel), List.mem_of_getElem? (i := 49) (by decide +kernel), ki_X8, List.mem_of_getElem? (i := 907) (by decide +kernel), ⟨by decide +kernel, by decide +kernel⟩, by decide +kernel⟩
theorem mv_X8_heldBy : MV yX8_heldBy cX8_heldBy 5 (some .long) 1 := ⟨List.mem_of_getElem? (i := 910) (by decide +kernel), List.mem_of_getElem? (i := 50) (by decide +kernel), ki_X8, List.mem_of_getElem? (i := 911) (by decide +kernel), ⟨by decide +kernel, by decide +kernel⟩, by decide +kernel⟩
theorem mv_X8_told : MV yX8_told cX8_told 2 (some .int) 1 := ⟨List.mem_of_getElem? (i := 913) (by decide +kernel), List.mem_of_getElem? (i := 914) (by decide +kernel), ki_X8, List.mem_of_getElem? (i := 915) (by decide +kernel), ⟨by decide +kernel, by decide +kernel⟩, by decide +kernel⟩
theorem mv_X8_tight : MV yX8_tight cX8_tight 7 (some .int) 1 := ⟨List.mem_of_getElem? (i := 917) (by decide +kernel), List.mem_of_getElem? (i := 918) (by decide +kernel), ki_X8, List.mem_of_getElem? (i := 919) (by decide +kernel), ⟨by decide +kernel, by decide +kernel⟩, by decide +kernel⟩
theorem mv_X8_needed : MV yX8_needed cX8_needed 7 (some .int) 2 := ⟨List.mem_of_getElem? (i := 921) (by decide +kernel), List.mem_of_getElem? (i := 922) (by decide +kernel), ki_X8, List.mem_of_getElem? (i := 923) (by decide +kernel), ⟨by decide +kernel, by decide +kernel⟩, by decide +kernel⟩
theorem ms_X8_ones : MS yX8_ones cX8_ones 3 (some .int) 1 := ⟨List.mem_of_getElem? (i := 925) (by decide +kernel), ki_X8, List.mem_of_getElem? (i := 926) (by decide +kernel), ⟨by decide +kernel, by decide +kernel⟩, by decide +kernel⟩
theorem mv_X8_covers : MV yX8_covers cX8_covers 8 (some .int) 2 := ⟨List.mem_of_getElem? (i := 928) (by decide +kernel), List.mem_of_getElem? (i := 929) (by decide +kernel), ki_X8, List.mem_of_getElem? (i := 930) (by decide +kernel), ⟨by decide +kernel, by decide +kernel⟩, by decide +kernel⟩
theorem mv_X8_isCover : MV yX8_isCover cX8_isCover 5 (some .boolean) 2 := ⟨List.mem_of_getElem? (i := 933) (by decide +kernel), List.mem_of_getElem? (i := 51) (by decide +kernel), ki_X8, List.mem_of_getElem? (i := 934) (by decide +kernel), ⟨by decide +kernel, by decide +kernel⟩, by decide +kernel⟩
theorem mv_X8_cost : MV yX8_cost cX8_cost 4 (some .int) 2 := ⟨List.mem_of_getElem? (i := 936) (by decide +kernel), List.mem_of_getElem? (i := 937) (by decide +kernel), ki_X8, List.mem_of_getElem? (i := 938) (by decide +kernel), ⟨by decide +kernel, by decide +kernel⟩, by decide +kernel⟩
theorem mv_X8_least : MV yX8_least cX8_least 9 (some .int) 1 := ⟨List.mem_of_getElem? (i := 940) (by decide +kernel), List.mem_of_getElem? (i := 941) (by decide +kernel), ki_X8, List.mem_of_getElem? (i := 942) (by decide +kernel), ⟨by decide +kernel, by decide +kernel⟩, by decide +kernel⟩
theorem mv_X8_fit : MV yX8_fit cX8_fit 3 (some .int) 2 := ⟨List.mem_of_getElem? (i := 944) (by decide +kernel), List.mem_of_getElem? (i := 945) (by decide +kernel), ki_X8, List.mem_of_getElem? (i := 946) (by decide +kernel), ⟨by decide +kernel, by decide +kernel⟩, by decide +kernel⟩
theorem mv_X8_fits : MV yX8_fits cX8_fits 11 (some .boolean) 1 := ⟨List.mem_of_getElem? (i := 949) (by decide +kernel), List.mem_of_getElem? (i := 52) (by decide +kernel), ki_X8, List.mem_of_getElem? (i := 950) (by decide +kernel), ⟨by decide +kernel, by decide +kernel⟩, by decide +kernel⟩
theorem ms_X8_weighsOf : MS yX8_weighsOf cX8_weighsOf 5 (some .int) 4 := ⟨List.mem_of_getElem? (i := 952) (by decide +kernel), ki_X8, List.mem_of_getElem? (i := 953) (by decide +kernel), ⟨by decide +kernel, by decide +kernel⟩, by decide +kernel⟩
theorem mv_X8_count : MV yX8_count cX8_count 6 (some .int) 1 := ⟨List.mem_of_getElem? (i := 955) (by decide +kernel), List.mem_of_getElem? (i := 956) (by decide +kernel), ki_X8, List.mem_of_getElem? (i := 957) (by decide +kernel), ⟨by decide +kernel, by decide +kernel⟩, by decide +kernel⟩
