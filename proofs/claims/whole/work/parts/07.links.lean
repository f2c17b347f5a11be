theorem nw_0 : (.methodLinkNest RX7 9 yX5_init "AskedCocks" : Cond) ∈ nestW := List.mem_of_getElem? (i := 0) rfl
theorem nw_1 : (.methodLinkNest RX7 18 yX4_init "AskedCocks" : Cond) ∈ nestW := List.mem_of_getElem? (i := 1) rfl
theorem nw_2 : (.methodLinkNest RX4 11 yX1_init "AskedCocks" : Cond) ∈ nestW := List.mem_of_getElem? (i := 2) rfl
theorem nw_3 : (.methodLinkNest RX7 25 yX6_init "AskedCocks" : Cond) ∈ nestW := List.mem_of_getElem? (i := 3) rfl
theorem nw_4 : (.methodLinkNest RX6 11 yX1_init "AskedCocks" : Cond) ∈ nestW := List.mem_of_getElem? (i := 4) rfl
theorem nw_5 : (.methodLinkNest RX6 20 yX3_init "AskedCocks" : Cond) ∈ nestW := List.mem_of_getElem? (i := 5) rfl
theorem nw_6 : (.methodLinkNest RX7 32 yX0_init "AskedCocks" : Cond) ∈ nestW := List.mem_of_getElem? (i := 6) rfl
theorem nw_7 : (.methodLinkNest RX7 39 yX2_init "AskedCocks" : Cond) ∈ nestW := List.mem_of_getElem? (i := 7) rfl
theorem nw_8 : (.methodLinkNest RX7 46 yX3_init "AskedCocks" : Cond) ∈ nestW := List.mem_of_getElem? (i := 8) rfl
theorem nw_9 : (.methodLinkNest RX7 55 yX5_append "AskedCocks" : Cond) ∈ nestW := List.mem_of_getElem? (i := 9) rfl
theorem nw_10 : (.methodLinkNest RX7 63 yX5_empty "AskedCocks" : Cond) ∈ nestW := List.mem_of_getElem? (i := 10) rfl
theorem nw_11 : (.methodLinkNest RX7 66 yX4_readAll "AskedCocks" : Cond) ∈ nestW := List.mem_of_getElem? (i := 11) rfl
theorem nw_12 : (.methodLinkNest RX4 22 yX1_empty "AskedCocks" : Cond) ∈ nestW := List.mem_of_getElem? (i := 12) rfl
theorem nw_13 : (.methodLinkNest RX4 25 yX5_rewind "AskedCocks" : Cond) ∈ nestW := List.mem_of_getElem? (i := 13) rfl
theorem nw_14 : (.methodLinkNest RX4 30 yX5_nextToken "AskedCocks" : Cond) ∈ nestW := List.mem_of_getElem? (i := 14) rfl
theorem nw_15 : (.methodLinkNest RX4 83 yX7_isWithin "AskedCocks" : Cond) ∈ nestW := List.mem_of_getElem? (i := 15) rfl
theorem nw_16 : (.methodLinkNest RX4 89 yX1_addCock "AskedCocks" : Cond) ∈ nestW := List.mem_of_getElem? (i := 16) rfl
theorem nw_17 : (.methodLinkNest RX4 93 yX1_addOne "AskedCocks" : Cond) ∈ nestW := List.mem_of_getElem? (i := 17) rfl
theorem nw_18 : (.methodLinkNest RX4 96 yX1_addSmoke "AskedCocks" : Cond) ∈ nestW := List.mem_of_getElem? (i := 18) rfl
theorem nw_19 : (.methodLinkNest RX7 74 yX6_beginWith "AskedCocks" : Cond) ∈ nestW := List.mem_of_getElem? (i := 19) rfl
theorem nw_20 : (.methodLinkNest RX6 25 yX1_becomeAs "AskedCocks" : Cond) ∈ nestW := List.mem_of_getElem? (i := 20) rfl
theorem nw_21 : (.methodLinkNest RX1 48 yX7_copyRows "AskedCocks" : Cond) ∈ nestW := List.mem_of_getElem? (i := 21) rfl
theorem nw_22 : (.methodLinkNest RX6 33 yX3_beginOver "AskedCocks" : Cond) ∈ nestW := List.mem_of_getElem? (i := 22) rfl
theorem nw_23 : (.methodLinkNest RX7 78 yX0_drop "AskedCocks" : Cond) ∈ nestW := List.mem_of_getElem? (i := 23) rfl
theorem nw_24 : (.methodLinkNest RX7 107 yX6_eyeOf "AskedCocks" : Cond) ∈ nestW := List.mem_of_getElem? (i := 24) rfl
theorem nw_25 : (.methodLinkNest RX7 114 yX1_sideOf "AskedCocks" : Cond) ∈ nestW := List.mem_of_getElem? (i := 25) rfl
theorem nw_26 : (.methodLinkNest RX1 52 yX7_sideBy "AskedCocks" : Cond) ∈ nestW := List.mem_of_getElem? (i := 26) rfl
theorem nw_27 : (.methodLinkNest RX7 118 yX3_isAsked "AskedCocks" : Cond) ∈ nestW := List.mem_of_getElem? (i := 27) rfl
theorem nw_28 : (.methodLinkNest RX3 55 yX7_isIn "AskedCocks" : Cond) ∈ nestW := List.mem_of_getElem? (i := 28) rfl
theorem nw_29 : (.methodLinkNest RX7 121 yX3_tellingOf "AskedCocks" : Cond) ∈ nestW := List.mem_of_getElem? (i := 29) rfl
theorem nw_30 : (.methodLinkNest RX7 131 yX1_cellOf "AskedCocks" : Cond) ∈ nestW := List.mem_of_getElem? (i := 30) rfl
theorem nw_31 : (.methodLinkNest RX1 56 yX7_placeBy "AskedCocks" : Cond) ∈ nestW := List.mem_of_getElem? (i := 31) rfl
theorem nw_32 : (.methodLinkNest RX1 59 yX7_isCell "AskedCocks" : Cond) ∈ nestW := List.mem_of_getElem? (i := 32) rfl
theorem nw_33 : (.methodLinkNest RX7 140 yX3_seenByAnyOf "AskedCocks" : Cond) ∈ nestW := List.mem_of_getElem? (i := 33) rfl
theorem nw_34 : (.methodLinkNest RX7 143 yX6_goBy "AskedCocks" : Cond) ∈ nestW := List.mem_of_getElem? (i := 34) rfl
theorem nw_35 : (.methodLinkNest RX6 74 yX3_rememberHour "AskedCocks" : Cond) ∈ nestW := List.mem_of_getElem? (i := 35) rfl
theorem nw_36 : (.methodLinkNest RX6 90 yX1_cellOf "AskedCocks" : Cond) ∈ nestW := List.mem_of_getElem? (i := 36) rfl
theorem nw_37 : (.methodLinkNest RX6 93 yX1_isSmoky "AskedCocks" : Cond) ∈ nestW := List.mem_of_getElem? (i := 37) rfl
theorem nw_38 : (.methodLinkNest RX1 63 yX7_isWithin "AskedCocks" : Cond) ∈ nestW := List.mem_of_getElem? (i := 38) rfl
theorem nw_39 : (.methodLinkNest RX6 66 yX3_isAsked "AskedCocks" : Cond) ∈ nestW := List.mem_of_getElem? (i := 39) rfl
theorem nw_40 : (.methodLinkNest RX6 42 yX1_sideOf "AskedCocks" : Cond) ∈ nestW := List.mem_of_getElem? (i := 40) rfl
theorem nw_41 : (.methodLinkNest RX7 147 yX3_build "AskedCocks" : Cond) ∈ nestW := List.mem_of_getElem? (i := 41) rfl
theorem nw_42 : (.methodLinkNest RX7 151 yX3_amountKnownWith "AskedCocks" : Cond) ∈ nestW := List.mem_of_getElem? (i := 42) rfl
theorem nw_43 : (.methodLinkNest RX7 154 yX3_bringDown "AskedCocks" : Cond) ∈ nestW := List.mem_of_getElem? (i := 43) rfl
theorem nw_44 : (.methodLinkNest RX7 160 yX3_undoLatest "AskedCocks" : Cond) ∈ nestW := List.mem_of_getElem? (i := 44) rfl
theorem nw_45 : (.methodLinkNest RX7 163 yX1_allCocks "AskedCocks" : Cond) ∈ nestW := List.mem_of_getElem? (i := 45) rfl
theorem nw_46 : (.methodLinkNest RX7 167 yX3_amountSeenBy "AskedCocks" : Cond) ∈ nestW := List.mem_of_getElem? (i := 46) rfl
theorem nw_47 : (.methodLinkNest RX7 171 yX6_bestToAsk "AskedCocks" : Cond) ∈ nestW := List.mem_of_getElem? (i := 47) rfl
theorem nw_48 : (.methodLinkNest RX6 104 yX1_allCocks "AskedCocks" : Cond) ∈ nestW := List.mem_of_getElem? (i := 48) rfl
theorem nw_49 : (.methodLinkNest RX6 111 yX3_hoursToAsk "AskedCocks" : Cond) ∈ nestW := List.mem_of_getElem? (i := 49) rfl
theorem nw_50 : (.methodLinkNest RX6 117 yX3_amountKnownWith "AskedCocks" : Cond) ∈ nestW := List.mem_of_getElem? (i := 50) rfl
theorem nw_51 : (.methodLinkNest RX7 177 yX6_viewOf "AskedCocks" : Cond) ∈ nestW := List.mem_of_getElem? (i := 51) rfl
theorem nw_52 : (.methodLinkNest RX7 180 yX6_unseenIn "AskedCocks" : Cond) ∈ nestW := List.mem_of_getElem? (i := 52) rfl
theorem nw_53 : (.methodLinkNest RX7 183 yX6_hoursInView "AskedCocks" : Cond) ∈ nestW := List.mem_of_getElem? (i := 53) rfl
theorem nw_54 : (.methodLinkNest RX7 193 yX0_addFaced "AskedCocks" : Cond) ∈ nestW := List.mem_of_getElem? (i := 54) rfl
theorem nw_55 : (.methodLinkNest RX7 200 yX0_lawCount "AskedCocks" : Cond) ∈ nestW := List.mem_of_getElem? (i := 55) rfl
theorem nw_56 : (.methodLinkNest RX0 31 yX7_sideBy "AskedCocks" : Cond) ∈ nestW := List.mem_of_getElem? (i := 56) rfl
theorem nw_57 : (.methodLinkNest RX7 203 yX0_firstLaw "AskedCocks" : Cond) ∈ nestW := List.mem_of_getElem? (i := 57) rfl
theorem nw_58 : (.methodLinkNest RX7 206 yX0_bestHourToTry "AskedCocks" : Cond) ∈ nestW := List.mem_of_getElem? (i := 58) rfl
theorem nw_59 : (.methodLinkNest RX7 209 yX0_addMet "AskedCocks" : Cond) ∈ nestW := List.mem_of_getElem? (i := 59) rfl
theorem nw_60 : (.methodLinkNest RX7 215 yX0_wayCount "AskedCocks" : Cond) ∈ nestW := List.mem_of_getElem? (i := 60) rfl
theorem nw_61 : (.methodLinkNest RX0 52 yX7_placeBy "AskedCocks" : Cond) ∈ nestW := List.mem_of_getElem? (i := 61) rfl
theorem nw_62 : (.methodLinkNest RX7 218 yX0_bestWay "AskedCocks" : Cond) ∈ nestW := List.mem_of_getElem? (i := 62) rfl
theorem nw_63 : (.methodLinkNest RX7 221 yX0_falsesOf "AskedCocks" : Cond) ∈ nestW := List.mem_of_getElem? (i := 63) rfl
theorem nw_64 : (.methodLinkNest RX7 224 yX2_markAs "AskedCocks" : Cond) ∈ nestW := List.mem_of_getElem? (i := 64) rfl
theorem nw_65 : (.methodLinkNest RX2 35 yX6_eyeOf "AskedCocks" : Cond) ∈ nestW := List.mem_of_getElem? (i := 65) rfl
theorem nw_66 : (.methodLinkNest RX2 47 yX3_tellingOf "AskedCocks" : Cond) ∈ nestW := List.mem_of_getElem? (i := 66) rfl
theorem nw_67 : (.methodLinkNest RX7 228 yX3_becomeAs "AskedCocks" : Cond) ∈ nestW := List.mem_of_getElem? (i := 67) rfl
theorem nw_68 : (.methodLinkNest RX3 51 yX7_copyRows "AskedCocks" : Cond) ∈ nestW := List.mem_of_getElem? (i := 68) rfl
theorem nw_69 : (.fieldLinkNest RX7 59 "AskedCocks$Script" "length" "I" "AskedCocks" : Cond) ∈ nestW := List.mem_of_getElem? (i := 69) rfl
theorem nw_70 : (.fieldLinkNest RX4 38 "AskedCocks$Script" "tokenStart" "I" "AskedCocks" : Cond) ∈ nestW := List.mem_of_getElem? (i := 70) rfl
theorem nw_71 : (.fieldLinkNest RX4 42 "AskedCocks$Script" "tokenValue" "I" "AskedCocks" : Cond) ∈ nestW := List.mem_of_getElem? (i := 71) rfl
theorem nw_72 : (.fieldLinkNest RX6 29 "AskedCocks$Diocese" "roofs" "[I" "AskedCocks" : Cond) ∈ nestW := List.mem_of_getElem? (i := 72) rfl
theorem nw_73 : (.fieldLinkNest RX4 86 "AskedCocks$Diocese" "roofs" "[I" "AskedCocks" : Cond) ∈ nestW := List.mem_of_getElem? (i := 73) rfl
theorem nw_74 : (.fieldLinkNest RX6 38 "AskedCocks$Diocese" "cocks" "[[I" "AskedCocks" : Cond) ∈ nestW := List.mem_of_getElem? (i := 74) rfl
theorem nw_75 : (.fieldLinkNest RX2 58 "AskedCocks$Diocese" "cocks" "[[I" "AskedCocks" : Cond) ∈ nestW := List.mem_of_getElem? (i := 75) rfl
theorem nw_76 : (.fieldLinkNest RX7 101 "AskedCocks$Diocese" "cocks" "[[I" "AskedCocks" : Cond) ∈ nestW := List.mem_of_getElem? (i := 76) rfl
theorem nw_77 : (.fieldLinkNest RX7 128 "AskedCocks$Diocese" "people" "[[I" "AskedCocks" : Cond) ∈ nestW := List.mem_of_getElem? (i := 77) rfl
theorem nw_78 : (.fieldLinkNest RX4 68 "AskedCocks$Diocese" "cockCount" "I" "AskedCocks" : Cond) ∈ nestW := List.mem_of_getElem? (i := 78) rfl
theorem nw_79 : (.fieldLinkNest RX6 62 "AskedCocks$Diocese" "cockCount" "I" "AskedCocks" : Cond) ∈ nestW := List.mem_of_getElem? (i := 79) rfl
theorem nw_80 : (.fieldLinkNest RX7 235 "AskedCocks$Diocese" "cockCount" "I" "AskedCocks" : Cond) ∈ nestW := List.mem_of_getElem? (i := 80) rfl
theorem nw_81 : (.fieldLinkNest RX4 71 "AskedCocks$Diocese" "peopleCount" "I" "AskedCocks" : Cond) ∈ nestW := List.mem_of_getElem? (i := 81) rfl
theorem nw_82 : (.fieldLinkNest RX6 87 "AskedCocks$Diocese" "peopleCount" "I" "AskedCocks" : Cond) ∈ nestW := List.mem_of_getElem? (i := 82) rfl
theorem nw_83 : (.fieldLinkNest RX7 238 "AskedCocks$Diocese" "peopleCount" "I" "AskedCocks" : Cond) ∈ nestW := List.mem_of_getElem? (i := 83) rfl
theorem nw_84 : (.fieldLinkNest RX4 74 "AskedCocks$Diocese" "smokeCount" "I" "AskedCocks" : Cond) ∈ nestW := List.mem_of_getElem? (i := 84) rfl
theorem nw_85 : (.fieldLinkNest RX7 241 "AskedCocks$Diocese" "smokeCount" "I" "AskedCocks" : Cond) ∈ nestW := List.mem_of_getElem? (i := 85) rfl
theorem nw_86 : (.fieldLinkNest RX7 70 "AskedCocks$Reader" "draft" "LAskedCocks$Diocese;" "AskedCocks" : Cond) ∈ nestW := List.mem_of_getElem? (i := 86) rfl
theorem nw_87 : (.fieldLinkNest RX7 111 "AskedCocks$Present" "hour" "I" "AskedCocks" : Cond) ∈ nestW := List.mem_of_getElem? (i := 87) rfl
theorem nw_88 : (.fieldLinkNest RX2 70 "AskedCocks$Present" "hour" "I" "AskedCocks" : Cond) ∈ nestW := List.mem_of_getElem? (i := 88) rfl
theorem nw_89 : (.fieldLinkNest RX6 77 "AskedCocks$Present" "hour" "I" "AskedCocks" : Cond) ∈ nestW := List.mem_of_getElem? (i := 89) rfl
theorem nw_90 : (.fieldLinkNest RX7 137 "AskedCocks$Present" "asked" "I" "AskedCocks" : Cond) ∈ nestW := List.mem_of_getElem? (i := 90) rfl
theorem nw_91 : (.fieldLinkNest RX6 108 "AskedCocks$Present" "asked" "I" "AskedCocks" : Cond) ∈ nestW := List.mem_of_getElem? (i := 91) rfl
theorem nw_92 : (.fieldLinkNest RX6 37 "AskedCocks$Present" "roofs" "[I" "AskedCocks" : Cond) ∈ nestW := List.mem_of_getElem? (i := 92) rfl
theorem nw_93 : (.fieldLinkNest RX7 91 "AskedCocks$Present" "roofs" "[I" "AskedCocks" : Cond) ∈ nestW := List.mem_of_getElem? (i := 93) rfl
theorem nw_94 : (.fieldLinkNest RX7 134 "AskedCocks$Present" "seen" "[[I" "AskedCocks" : Cond) ∈ nestW := List.mem_of_getElem? (i := 94) rfl
theorem nw_95 : (.fieldLinkNest RX6 101 "AskedCocks$Present" "seen" "[[I" "AskedCocks" : Cond) ∈ nestW := List.mem_of_getElem? (i := 95) rfl
theorem nw_96 : (.fieldLinkNest RX7 157 "AskedCocks$Present" "deeds" "I" "AskedCocks" : Cond) ∈ nestW := List.mem_of_getElem? (i := 96) rfl
theorem nw_97 : (.fieldLinkNest RX2 54 "AskedCocks$Watch" "told" "LAskedCocks$Diocese;" "AskedCocks" : Cond) ∈ nestW := List.mem_of_getElem? (i := 97) rfl
theorem nw_98 : (.fieldLinkNest RX7 98 "AskedCocks$Watch" "told" "LAskedCocks$Diocese;" "AskedCocks" : Cond) ∈ nestW := List.mem_of_getElem? (i := 98) rfl
theorem nw_99 : (.fieldLinkNest RX2 43 "AskedCocks$Watch" "present" "LAskedCocks$Present;" "AskedCocks" : Cond) ∈ nestW := List.mem_of_getElem? (i := 99) rfl
theorem nw_100 : (.fieldLinkNest RX7 87 "AskedCocks$Watch" "present" "LAskedCocks$Present;" "AskedCocks" : Cond) ∈ nestW := List.mem_of_getElem? (i := 100) rfl
theorem nw_101 : (.fieldLinkNest RX7 197 "AskedCocks$Clues" "facedCount" "I" "AskedCocks" : Cond) ∈ nestW := List.mem_of_getElem? (i := 101) rfl
theorem nw_102 : (.fieldLinkNest RX7 212 "AskedCocks$Clues" "metCount" "I" "AskedCocks" : Cond) ∈ nestW := List.mem_of_getElem? (i := 102) rfl
theorem nw_103 : (.fieldLinkNest RX7 244 "AskedCocks$Kinds" "trace" "J" "AskedCocks" : Cond) ∈ nestW := List.mem_of_getElem? (i := 103) rfl
theorem mf_J6_bitCount_0f7a4 : MFs yJ6_bitCount_0f7a4 cJ6_bitCount_0f7a4 1 (some .int) 1 := ⟨mw_490, mw_489, mw_110, ⟨by decide +kernel, by decide +kernel⟩, by decide +kernel⟩
theorem mf_X0_addFaced : MFv yX0_addFaced cX0_addFaced 3 (some .boolean) 2 := ⟨mw_681, ⟨mw_680, mw_49⟩, mw_104, ⟨by decide +kernel, by decide +kernel⟩, by decide +kernel⟩
theorem mf_X0_addMet : MFv yX0_addMet cX0_addMet 3 (some .boolean) 2 := ⟨mw_722, ⟨mw_721, mw_55⟩, mw_104, ⟨by decide +kernel, by decide +kernel⟩, by decide +kernel⟩
theorem mf_X0_bestHourToTry : MFv yX0_bestHourToTry cX0_bestHourToTry 5 (some .int) 0 := ⟨mw_710, ⟨mw_709, mw_54⟩, mw_104, ⟨by decide +kernel, by decide +kernel⟩, by decide +kernel⟩
theorem mf_X0_bestWay : MFv yX0_bestWay cX0_bestWay 5 (some .int) 0 := ⟨mw_739, ⟨mw_738, mw_58⟩, mw_104, ⟨by decide +kernel, by decide +kernel⟩, by decide +kernel⟩
theorem mf_X0_drop : MFv yX0_drop cX0_drop 1 none 0 := ⟨mw_450, ⟨mw_449, mw_18⟩, mw_104, ⟨by decide +kernel, by decide +kernel⟩, by decide +kernel⟩
theorem mf_X0_falsesOf : MFv yX0_falsesOf cX0_falsesOf 6 (some .int) 1 := ⟨mw_734, ⟨mw_733, mw_57⟩, mw_104, ⟨by decide +kernel, by decide +kernel⟩, by decide +kernel⟩
theorem mf_X0_firstLaw : MFv yX0_firstLaw cX0_firstLaw 3 (some .int) 0 := ⟨mw_702, ⟨mw_701, mw_53⟩, mw_104, ⟨by decide +kernel, by decide +kernel⟩, by decide +kernel⟩
theorem mf_X0_isLaw : MFv yX0_isLaw cX0_isLaw 4 (some .boolean) 2 := ⟨mw_697, ⟨mw_696, mw_52⟩, mw_104, ⟨by decide +kernel, by decide +kernel⟩, by decide +kernel⟩
theorem mf_X0_lawCount : MFv yX0_lawCount cX0_lawCount 1 (some .int) 0 := ⟨mw_689, ⟨mw_688, mw_50⟩, mw_104, ⟨by decide +kernel, by decide +kernel⟩, by decide +kernel⟩
theorem mf_X0_lawsFacing : MFv yX0_lawsFacing cX0_lawsFacing 6 (some .int) 2 := ⟨mw_693, ⟨mw_692, mw_51⟩, mw_104, ⟨by decide +kernel, by decide +kernel⟩, by decide +kernel⟩
theorem mf_X0_wayCount : MFv yX0_wayCount cX0_wayCount 4 (some .int) 0 := ⟨mw_730, ⟨mw_729, mw_56⟩, mw_104, ⟨by decide +kernel, by decide +kernel⟩, by decide +kernel⟩
theorem mf_X1_addCock : MFv yX1_addCock cX1_addCock 2 none 1 := ⟨mw_414, ⟨mw_413, mw_12⟩, mw_101, ⟨by decide +kernel, by decide +kernel⟩, by decide +kernel⟩
theorem mf_X1_addOne : MFv yX1_addOne cX1_addOne 2 none 1 := ⟨mw_421, ⟨mw_420, mw_13⟩, mw_101, ⟨by decide +kernel, by decide +kernel⟩, by decide +kernel⟩
theorem mf_X1_addSmoke : MFv yX1_addSmoke cX1_addSmoke 2 none 1 := ⟨mw_425, ⟨mw_424, mw_14⟩, mw_101, ⟨by decide +kernel, by decide +kernel⟩, by decide +kernel⟩
theorem mf_X1_allCocks : MFv yX1_allCocks cX1_allCocks 1 (some .int) 0 := ⟨mw_616, ⟨mw_615, mw_42⟩, mw_101, ⟨by decide +kernel, by decide +kernel⟩, by decide +kernel⟩
theorem mf_X1_becomeAs : MFv yX1_becomeAs cX1_becomeAs 2 none 1 := ⟨mw_433, ⟨mw_432, mw_16⟩, mw_101, ⟨by decide +kernel, by decide +kernel⟩, by decide +kernel⟩
theorem mf_X1_cellOf : MFv yX1_cellOf cX1_cellOf 4 (some .int) 2 := ⟨mw_506, ⟨mw_505, mw_25⟩, mw_101, ⟨by decide +kernel, by decide +kernel⟩, by decide +kernel⟩
theorem mf_X1_empty : MFv yX1_empty cX1_empty 1 none 0 := ⟨mw_357, ⟨mw_356, mw_3⟩, mw_101, ⟨by decide +kernel, by decide +kernel⟩, by decide +kernel⟩
theorem mf_X1_isSmoky : MFv yX1_isSmoky cX1_isSmoky 4 (some .boolean) 2 := ⟨mw_552, ⟨mw_551, mw_32⟩, mw_101, ⟨by decide +kernel, by decide +kernel⟩, by decide +kernel⟩
theorem mf_X1_sideOf : MFv yX1_sideOf cX1_sideOf 3 (some .int) 2 := ⟨mw_473, ⟨mw_472, mw_21⟩, mw_101, ⟨by decide +kernel, by decide +kernel⟩, by decide +kernel⟩
theorem mf_X2_markAs : MFv yX2_markAs cX2_markAs 4 (some .int) 3 := ⟨mw_756, ⟨mw_755, mw_59⟩, mw_105, ⟨by decide +kernel, by decide +kernel⟩, by decide +kernel⟩
theorem mf_X2_markAsBarn : MFv yX2_markAsBarn cX2_markAsBarn 3 (some .int) 2 := ⟨mw_781, ⟨mw_780, mw_64⟩, mw_105, ⟨by decide +kernel, by decide +kernel⟩, by decide +kernel⟩
theorem mf_X2_markAsCock : MFv yX2_markAsCock cX2_markAsCock 3 (some .int) 2 := ⟨mw_760, ⟨mw_759, mw_60⟩, mw_105, ⟨by decide +kernel, by decide +kernel⟩, by decide +kernel⟩
theorem mf_X2_markAsDean : MFv yX2_markAsDean cX2_markAsDean 3 (some .int) 2 := ⟨mw_776, ⟨mw_775, mw_63⟩, mw_105, ⟨by decide +kernel, by decide +kernel⟩, by decide +kernel⟩
theorem mf_X2_markAsGold : MFv yX2_markAsGold cX2_markAsGold 3 (some .int) 2 := ⟨mw_765, ⟨mw_764, mw_61⟩, mw_105, ⟨by decide +kernel, by decide +kernel⟩, by decide +kernel⟩
theorem mf_X2_markAsIron : MFv yX2_markAsIron cX2_markAsIron 3 (some .int) 2 := ⟨mw_771, ⟨mw_770, mw_62⟩, mw_105, ⟨by decide +kernel, by decide +kernel⟩, by decide +kernel⟩
theorem mf_X2_markAsZinc : MFv yX2_markAsZinc cX2_markAsZinc 3 (some .int) 2 := ⟨mw_786, ⟨mw_785, mw_65⟩, mw_105, ⟨by decide +kernel, by decide +kernel⟩, by decide +kernel⟩
theorem mf_X3_amountKnownWith : MFv yX3_amountKnownWith cX3_amountKnownWith 2 (some .int) 1 := ⟨mw_587, ⟨mw_586, mw_37⟩, mw_103, ⟨by decide +kernel, by decide +kernel⟩, by decide +kernel⟩
theorem mf_X3_amountSeenBy : MFv yX3_amountSeenBy cX3_amountSeenBy 4 (some .int) 1 := ⟨mw_591, ⟨mw_590, mw_38⟩, mw_103, ⟨by decide +kernel, by decide +kernel⟩, by decide +kernel⟩
theorem mf_X3_becomeAs : MFv yX3_becomeAs cX3_becomeAs 2 none 1 := ⟨mw_796, ⟨mw_795, mw_66⟩, mw_103, ⟨by decide +kernel, by decide +kernel⟩, by decide +kernel⟩
theorem mf_X3_beginOver : MFv yX3_beginOver cX3_beginOver 3 none 1 := ⟨mw_444, ⟨mw_443, mw_17⟩, mw_103, ⟨by decide +kernel, by decide +kernel⟩, by decide +kernel⟩
theorem mf_X3_bringDown : MFv yX3_bringDown cX3_bringDown 2 none 1 := ⟨mw_596, ⟨mw_595, mw_39⟩, mw_103, ⟨by decide +kernel, by decide +kernel⟩, by decide +kernel⟩
theorem mf_X3_build : MFv yX3_build cX3_build 3 none 2 := ⟨mw_579, ⟨mw_578, mw_36⟩, mw_103, ⟨by decide +kernel, by decide +kernel⟩, by decide +kernel⟩
theorem mf_X3_hoursToAsk : MFv yX3_hoursToAsk cX3_hoursToAsk 4 (some .int) 1 := ⟨mw_627, ⟨mw_626, mw_44⟩, mw_103, ⟨by decide +kernel, by decide +kernel⟩, by decide +kernel⟩
theorem mf_X3_isAsked : MFv yX3_isAsked cX3_isAsked 2 (some .boolean) 1 := ⟨mw_480, ⟨mw_479, mw_22⟩, mw_103, ⟨by decide +kernel, by decide +kernel⟩, by decide +kernel⟩
theorem mf_X3_loseOldest : MFv yX3_loseOldest cX3_loseOldest 1 none 0 := ⟨mw_542, ⟨mw_541, mw_30⟩, mw_103, ⟨by decide +kernel, by decide +kernel⟩, by decide +kernel⟩
theorem mf_X3_remember : MFv yX3_remember cX3_remember 4 none 3 := ⟨mw_538, ⟨mw_537, mw_29⟩, mw_103, ⟨by decide +kernel, by decide +kernel⟩, by decide +kernel⟩
theorem mf_X3_rememberHour : MFv yX3_rememberHour cX3_rememberHour 1 none 0 := ⟨mw_534, ⟨mw_533, mw_28⟩, mw_103, ⟨by decide +kernel, by decide +kernel⟩, by decide +kernel⟩
theorem mf_X3_returnTo : MFv yX3_returnTo cX3_returnTo 5 none 1 := ⟨mw_608, ⟨mw_607, mw_41⟩, mw_103, ⟨by decide +kernel, by decide +kernel⟩, by decide +kernel⟩
theorem mf_X3_seenByAnyOf : MFv yX3_seenByAnyOf cX3_seenByAnyOf 5 (some .int) 2 := ⟨mw_522, ⟨mw_521, mw_26⟩, mw_103, ⟨by decide +kernel, by decide +kernel⟩, by decide +kernel⟩
theorem mf_X3_tellingOf : MFv yX3_tellingOf cX3_tellingOf 4 (some .int) 1 := ⟨mw_487, ⟨mw_486, mw_23⟩, mw_103, ⟨by decide +kernel, by decide +kernel⟩, by decide +kernel⟩
theorem mf_X3_undoLatest : MFv yX3_undoLatest cX3_undoLatest 2 none 0 := ⟨mw_604, ⟨mw_603, mw_40⟩, mw_103, ⟨by decide +kernel, by decide +kernel⟩, by decide +kernel⟩
theorem mf_X4_hasRoomFor : MFv yX4_hasRoomFor cX4_hasRoomFor 2 (some .boolean) 1 := ⟨mw_395, ⟨mw_394, mw_9⟩, mw_100, ⟨by decide +kernel, by decide +kernel⟩, by decide +kernel⟩
theorem mf_X4_itemOf : MFs yX4_itemOf cX4_itemOf 2 (some .int) 1 := ⟨mw_389, mw_388, mw_100, ⟨by decide +kernel, by decide +kernel⟩, by decide +kernel⟩
theorem mf_X4_mayBe : MFv yX4_mayBe cX4_mayBe 4 (some .boolean) 3 := ⟨mw_401, ⟨mw_400, mw_10⟩, mw_100, ⟨by decide +kernel, by decide +kernel⟩, by decide +kernel⟩
theorem mf_X4_readAll : MFv yX4_readAll cX4_readAll 4 (some .int) 1 := ⟨mw_353, ⟨mw_352, mw_2⟩, mw_100, ⟨by decide +kernel, by decide +kernel⟩, by decide +kernel⟩
theorem mf_X4_readItem : MFv yX4_readItem cX4_readItem 4 (some .boolean) 1 := ⟨mw_386, ⟨mw_385, mw_8⟩, mw_100, ⟨by decide +kernel, by decide +kernel⟩, by decide +kernel⟩
theorem mf_X4_tell : MFv yX4_tell cX4_tell 2 none 1 := ⟨mw_410, ⟨mw_409, mw_11⟩, mw_100, ⟨by decide +kernel, by decide +kernel⟩, by decide +kernel⟩
theorem mf_X5_append : MFv yX5_append cX5_append 2 (some .boolean) 1 := ⟨mw_337, ⟨mw_336, mw_0⟩, mw_99, ⟨by decide +kernel, by decide +kernel⟩, by decide +kernel⟩
theorem mf_X5_empty : MFv yX5_empty cX5_empty 1 none 0 := ⟨mw_345, ⟨mw_344, mw_1⟩, mw_99, ⟨by decide +kernel, by decide +kernel⟩, by decide +kernel⟩
theorem mf_X5_isDigit : MFs yX5_isDigit cX5_isDigit 1 (some .boolean) 1 := ⟨mw_378, mw_377, mw_99, ⟨by decide +kernel, by decide +kernel⟩, by decide +kernel⟩
theorem mf_X5_isLetter : MFs yX5_isLetter cX5_isLetter 1 (some .boolean) 1 := ⟨mw_371, mw_370, mw_99, ⟨by decide +kernel, by decide +kernel⟩, by decide +kernel⟩
theorem mf_X5_nextToken : MFv yX5_nextToken cX5_nextToken 2 (some .int) 0 := ⟨mw_368, ⟨mw_367, mw_5⟩, mw_99, ⟨by decide +kernel, by decide +kernel⟩, by decide +kernel⟩
theorem mf_X5_readNumber : MFv yX5_readNumber cX5_readNumber 2 (some .int) 0 := ⟨mw_382, ⟨mw_381, mw_7⟩, mw_99, ⟨by decide +kernel, by decide +kernel⟩, by decide +kernel⟩
theorem mf_X5_readWord : MFv yX5_readWord cX5_readWord 2 (some .int) 0 := ⟨mw_375, ⟨mw_374, mw_6⟩, mw_99, ⟨by decide +kernel, by decide +kernel⟩, by decide +kernel⟩
theorem mf_X5_rewind : MFv yX5_rewind cX5_rewind 1 none 0 := ⟨mw_364, ⟨mw_363, mw_4⟩, mw_99, ⟨by decide +kernel, by decide +kernel⟩, by decide +kernel⟩
theorem mf_X6_beginWith : MFv yX6_beginWith cX6_beginWith 2 none 1 := ⟨mw_429, ⟨mw_428, mw_15⟩, mw_102, ⟨by decide +kernel, by decide +kernel⟩, by decide +kernel⟩
theorem mf_X6_bestToAsk : MFv yX6_bestToAsk cX6_bestToAsk 5 (some .int) 1 := ⟨mw_622, ⟨mw_621, mw_43⟩, mw_102, ⟨by decide +kernel, by decide +kernel⟩, by decide +kernel⟩
theorem mf_X6_canSee : MFv yX6_canSee cX6_canSee 6 (some .boolean) 3 := ⟨mw_562, ⟨mw_561, mw_34⟩, mw_102, ⟨by decide +kernel, by decide +kernel⟩, by decide +kernel⟩
theorem mf_X6_eyeOf : MFv yX6_eyeOf cX6_eyeOf 2 (some .int) 1 := ⟨mw_469, ⟨mw_468, mw_20⟩, mw_102, ⟨by decide +kernel, by decide +kernel⟩, by decide +kernel⟩
theorem mf_X6_goBy : MFv yX6_goBy cX6_goBy 4 none 1 := ⟨mw_530, ⟨mw_529, mw_27⟩, mw_102, ⟨by decide +kernel, by decide +kernel⟩, by decide +kernel⟩
theorem mf_X6_hoursInView : MFv yX6_hoursInView cX6_hoursInView 7 (some .int) 4 := ⟨mw_667, ⟨mw_666, mw_48⟩, mw_102, ⟨by decide +kernel, by decide +kernel⟩, by decide +kernel⟩
theorem mf_X6_isBetter : MFv yX6_isBetter cX6_isBetter 4 (some .boolean) 2 := ⟨mw_632, ⟨mw_631, mw_45⟩, mw_102, ⟨by decide +kernel, by decide +kernel⟩, by decide +kernel⟩
theorem mf_X6_isLineFree : MFv yX6_isLineFree cX6_isLineFree 9 (some .boolean) 3 := ⟨mw_568, ⟨mw_567, mw_35⟩, mw_102, ⟨by decide +kernel, by decide +kernel⟩, by decide +kernel⟩
theorem mf_X6_seeAllIn : MFv yX6_seeAllIn cX6_seeAllIn 4 none 1 := ⟨mw_547, ⟨mw_546, mw_31⟩, mw_102, ⟨by decide +kernel, by decide +kernel⟩, by decide +kernel⟩
theorem mf_X6_seeOne : MFv yX6_seeOne cX6_seeOne 5 none 3 := ⟨mw_557, ⟨mw_556, mw_33⟩, mw_102, ⟨by decide +kernel, by decide +kernel⟩, by decide +kernel⟩
theorem mf_X6_unseenIn : MFv yX6_unseenIn cX6_unseenIn 4 (some .int) 1 := ⟨mw_653, ⟨mw_652, mw_47⟩, mw_102, ⟨by decide +kernel, by decide +kernel⟩, by decide +kernel⟩
theorem mf_X6_viewOf : MFv yX6_viewOf cX6_viewOf 5 (some .int) 2 := ⟨mw_645, ⟨mw_644, mw_46⟩, mw_102, ⟨by decide +kernel, by decide +kernel⟩, by decide +kernel⟩
theorem mf_X7_asks : MFv yX7_asks cX7_asks 3 (some .int) 1 := ⟨mw_583, ⟨mw_581, mw_582⟩, mw_98, ⟨by decide +kernel, by decide +kernel⟩, by decide +kernel⟩
theorem mf_X7_back : MFv yX7_back cX7_back 2 (some .int) 1 := ⟨mw_801, ⟨mw_799, mw_800⟩, mw_98, ⟨by decide +kernel, by decide +kernel⟩, by decide +kernel⟩
theorem mf_X7_blind : MFv yX7_blind cX7_blind 2 (some .int) 1 := ⟨mw_649, ⟨mw_647, mw_648⟩, mw_98, ⟨by decide +kernel, by decide +kernel⟩, by decide +kernel⟩
theorem mf_X7_builds : MFv yX7_builds cX7_builds 4 (some .int) 2 := ⟨mw_575, ⟨mw_573, mw_574⟩, mw_98, ⟨by decide +kernel, by decide +kernel⟩, by decide +kernel⟩
theorem mf_X7_clear : MFv yX7_clear cX7_clear 2 (some .int) 0 := ⟨mw_341, ⟨mw_339, mw_340⟩, mw_98, ⟨by decide +kernel, by decide +kernel⟩, by decide +kernel⟩
theorem mf_X7_cock : MFv yX7_cock cX7_cock 3 (some .int) 2 := ⟨mw_461, ⟨mw_459, mw_460⟩, mw_98, ⟨by decide +kernel, by decide +kernel⟩, by decide +kernel⟩
theorem mf_X7_copyRows : MFs yX7_copyRows cX7_copyRows 3 none 2 := ⟨mw_436, mw_435, mw_98, ⟨by decide +kernel, by decide +kernel⟩, by decide +kernel⟩
theorem mf_X7_count : MFv yX7_count cX7_count 2 (some .int) 1 := ⟨mw_806, ⟨mw_804, mw_805⟩, mw_98, ⟨by decide +kernel, by decide +kernel⟩, by decide +kernel⟩
theorem mf_X7_diocese : MFv yX7_diocese cX7_diocese 2 (some .int) 0 := ⟨mw_349, ⟨mw_347, mw_348⟩, mw_98, ⟨by decide +kernel, by decide +kernel⟩, by decide +kernel⟩
theorem mf_X7_faced : MFv yX7_faced cX7_faced 3 (some .int) 2 := ⟨mw_677, ⟨mw_675, mw_676⟩, mw_98, ⟨by decide +kernel, by decide +kernel⟩, by decide +kernel⟩
theorem mf_X7_falses : MFv yX7_falses cX7_falses 2 (some .int) 1 := ⟨mw_744, ⟨mw_742, mw_743⟩, mw_98, ⟨by decide +kernel, by decide +kernel⟩, by decide +kernel⟩
theorem mf_X7_forget : MFv yX7_forget cX7_forget 2 (some .int) 0 := ⟨mw_748, ⟨mw_746, mw_747⟩, mw_98, ⟨by decide +kernel, by decide +kernel⟩, by decide +kernel⟩
theorem mf_X7_hours : MFv yX7_hours cX7_hours 2 (some .int) 1 := ⟨mw_526, ⟨mw_524, mw_525⟩, mw_98, ⟨by decide +kernel, by decide +kernel⟩, by decide +kernel⟩
theorem mf_X7_isCell : MFs yX7_isCell cX7_isCell 1 (some .boolean) 1 := ⟨mw_457, mw_456, mw_98, ⟨by decide +kernel, by decide +kernel⟩, by decide +kernel⟩
theorem mf_X7_isCock : MFv yX7_isCock cX7_isCock 2 (some .boolean) 1 := ⟨mw_465, ⟨mw_464, mw_19⟩, mw_98, ⟨by decide +kernel, by decide +kernel⟩, by decide +kernel⟩
theorem mf_X7_isHour : MFs yX7_isHour cX7_isHour 1 (some .boolean) 1 := ⟨mw_641, mw_640, mw_98, ⟨by decide +kernel, by decide +kernel⟩, by decide +kernel⟩
theorem mf_X7_isIn : MFs yX7_isIn cX7_isIn 2 (some .boolean) 2 := ⟨mw_483, mw_482, mw_98, ⟨by decide +kernel, by decide +kernel⟩, by decide +kernel⟩
theorem mf_X7_isOne : MFv yX7_isOne cX7_isOne 2 (some .boolean) 1 := ⟨mw_501, ⟨mw_500, mw_24⟩, mw_98, ⟨by decide +kernel, by decide +kernel⟩, by decide +kernel⟩
theorem mf_X7_isWithin : MFs yX7_isWithin cX7_isWithin 3 (some .boolean) 3 := ⟨mw_333, mw_332, mw_98, ⟨by decide +kernel, by decide +kernel⟩, by decide +kernel⟩
theorem mf_X7_keep : MFv yX7_keep cX7_keep 2 (some .int) 1 := ⟨mw_792, ⟨mw_790, mw_791⟩, mw_98, ⟨by decide +kernel, by decide +kernel⟩, by decide +kernel⟩
theorem mf_X7_known : MFv yX7_known cX7_known 2 (some .int) 1 := ⟨mw_518, ⟨mw_516, mw_517⟩, mw_98, ⟨by decide +kernel, by decide +kernel⟩, by decide +kernel⟩
theorem mf_X7_laws : MFv yX7_laws cX7_laws 2 (some .int) 1 := ⟨mw_685, ⟨mw_683, mw_684⟩, mw_98, ⟨by decide +kernel, by decide +kernel⟩, by decide +kernel⟩
theorem mf_X7_mark : MFv yX7_mark cX7_mark 3 (some .int) 2 := ⟨mw_752, ⟨mw_750, mw_751⟩, mw_98, ⟨by decide +kernel, by decide +kernel⟩, by decide +kernel⟩
theorem mf_X7_met : MFv yX7_met cX7_met 3 (some .int) 2 := ⟨mw_718, ⟨mw_716, mw_717⟩, mw_98, ⟨by decide +kernel, by decide +kernel⟩, by decide +kernel⟩
theorem mf_X7_most : MFv yX7_most cX7_most 4 (some .int) 2 := ⟨mw_659, ⟨mw_657, mw_658⟩, mw_98, ⟨by decide +kernel, by decide +kernel⟩, by decide +kernel⟩
theorem mf_X7_now : MFv yX7_now cX7_now 2 (some .int) 1 := ⟨mw_612, ⟨mw_610, mw_611⟩, mw_98, ⟨by decide +kernel, by decide +kernel⟩, by decide +kernel⟩
theorem mf_X7_odds : MFv yX7_odds cX7_odds 10 (some .int) 6 := ⟨mw_663, ⟨mw_661, mw_662⟩, mw_98, ⟨by decide +kernel, by decide +kernel⟩, by decide +kernel⟩
theorem mf_X7_one : MFv yX7_one cX7_one 3 (some .int) 2 := ⟨mw_497, ⟨mw_495, mw_496⟩, mw_98, ⟨by decide +kernel, by decide +kernel⟩, by decide +kernel⟩
theorem mf_X7_placeBy : MFs yX7_placeBy cX7_placeBy 3 (some .int) 3 := ⟨mw_509, mw_508, mw_98, ⟨by decide +kernel, by decide +kernel⟩, by decide +kernel⟩
theorem mf_X7_power : MFs yX7_power cX7_power 4 (some .int) 2 := ⟨mw_673, mw_672, mw_98, ⟨by decide +kernel, by decide +kernel⟩, by decide +kernel⟩
theorem mf_X7_roof : MFv yX7_roof cX7_roof 2 (some .int) 1 := ⟨mw_454, ⟨mw_452, mw_453⟩, mw_98, ⟨by decide +kernel, by decide +kernel⟩, by decide +kernel⟩
theorem mf_X7_saw : MFv yX7_saw cX7_saw 3 (some .int) 2 := ⟨mw_514, ⟨mw_512, mw_513⟩, mw_98, ⟨by decide +kernel, by decide +kernel⟩, by decide +kernel⟩
theorem mf_X7_sharedWithTen : MFs yX7_sharedWithTen cX7_sharedWithTen 2 (some .int) 1 := ⟨mw_670, mw_669, mw_98, ⟨by decide +kernel, by decide +kernel⟩, by decide +kernel⟩
theorem mf_X7_sideBy : MFs yX7_sideBy cX7_sideBy 4 (some .int) 3 := ⟨mw_476, mw_475, mw_98, ⟨by decide +kernel, by decide +kernel⟩, by decide +kernel⟩
theorem mf_X7_trace : MFv yX7_trace cX7_trace 1 (some .long) 0 := ⟨mw_810, ⟨mw_808, mw_809⟩, mw_98, ⟨by decide +kernel, by decide +kernel⟩, by decide +kernel⟩
theorem mf_X7_tryNext : MFv yX7_tryNext cX7_tryNext 1 (some .int) 0 := ⟨mw_706, ⟨mw_704, mw_705⟩, mw_98, ⟨by decide +kernel, by decide +kernel⟩, by decide +kernel⟩
theorem mf_X7_type : MFv yX7_type cX7_type 2 (some .int) 1 := ⟨mw_330, ⟨mw_328, mw_329⟩, mw_98, ⟨by decide +kernel, by decide +kernel⟩, by decide +kernel⟩
theorem mf_X7_undo : MFv yX7_undo cX7_undo 1 (some .int) 0 := ⟨mw_600, ⟨mw_598, mw_599⟩, mw_98, ⟨by decide +kernel, by decide +kernel⟩, by decide +kernel⟩
theorem mf_X7_view : MFv yX7_view cX7_view 3 (some .int) 2 := ⟨mw_638, ⟨mw_636, mw_637⟩, mw_98, ⟨by decide +kernel, by decide +kernel⟩, by decide +kernel⟩
theorem mf_X7_ways : MFv yX7_ways cX7_ways 2 (some .int) 1 := ⟨mw_726, ⟨mw_724, mw_725⟩, mw_98, ⟨by decide +kernel, by decide +kernel⟩, by decide +kernel⟩
theorem mf_X8_all : MFv yX8_all cX8_all 1 (some .int) 0 := ⟨mw_1103, ⟨mw_1102, mw_91⟩, mw_106, ⟨by decide +kernel, by decide +kernel⟩, by decide +kernel⟩
theorem mf_X8_asks : MFv yX8_asks cX8_asks 3 (some .int) 1 := ⟨mw_1087, ⟨mw_1085, mw_1086⟩, mw_106, ⟨by decide +kernel, by decide +kernel⟩, by decide +kernel⟩
theorem mf_X8_back : MFv yX8_back cX8_back 3 (some .int) 1 := ⟨mw_1198, ⟨mw_1196, mw_1197⟩, mw_106, ⟨by decide +kernel, by decide +kernel⟩, by decide +kernel⟩
theorem mf_X8_bits : MFs yX8_bits cX8_bits 3 (some .int) 1 := ⟨mw_1034, mw_1033, mw_106, ⟨by decide +kernel, by decide +kernel⟩, by decide +kernel⟩
theorem mf_X8_blind : MFv yX8_blind cX8_blind 4 (some .int) 1 := ⟨mw_1125, ⟨mw_1123, mw_1124⟩, mw_106, ⟨by decide +kernel, by decide +kernel⟩, by decide +kernel⟩
theorem mf_X8_builds : MFv yX8_builds cX8_builds 4 (some .int) 2 := ⟨mw_1083, ⟨mw_1081, mw_1082⟩, mw_106, ⟨by decide +kernel, by decide +kernel⟩, by decide +kernel⟩
theorem mf_X8_clear : MFv yX8_clear cX8_clear 2 (some .int) 0 := ⟨mw_940, ⟨mw_938, mw_939⟩, mw_106, ⟨by decide +kernel, by decide +kernel⟩, by decide +kernel⟩
theorem mf_X8_cock : MFv yX8_cock cX8_cock 3 (some .int) 2 := ⟨mw_1005, ⟨mw_1003, mw_1004⟩, mw_106, ⟨by decide +kernel, by decide +kernel⟩, by decide +kernel⟩
theorem mf_X8_count : MFv yX8_count cX8_count 2 (some .int) 1 := ⟨mw_1202, ⟨mw_1200, mw_1201⟩, mw_106, ⟨by decide +kernel, by decide +kernel⟩, by decide +kernel⟩
theorem mf_X8_cover : MFv yX8_cover cX8_cover 4 (some .int) 0 := ⟨mw_1107, ⟨mw_1106, mw_92⟩, mw_106, ⟨by decide +kernel, by decide +kernel⟩, by decide +kernel⟩
theorem mf_X8_diocese : MFv yX8_diocese cX8_diocese 2 (some .int) 0 := ⟨mw_944, ⟨mw_942, mw_943⟩, mw_106, ⟨by decide +kernel, by decide +kernel⟩, by decide +kernel⟩
theorem mf_X8_eye : MFv yX8_eye cX8_eye 2 (some .int) 1 := ⟨mw_1013, ⟨mw_1012, mw_79⟩, mw_106, ⟨by decide +kernel, by decide +kernel⟩, by decide +kernel⟩
theorem mf_X8_faced : MFv yX8_faced cX8_faced 3 (some .int) 2 := ⟨mw_1145, ⟨mw_1143, mw_1144⟩, mw_106, ⟨by decide +kernel, by decide +kernel⟩, by decide +kernel⟩
theorem mf_X8_falses : MFv yX8_falses cX8_falses 4 (some .int) 1 := ⟨mw_1177, ⟨mw_1175, mw_1176⟩, mw_106, ⟨by decide +kernel, by decide +kernel⟩, by decide +kernel⟩
theorem mf_X8_forget : MFv yX8_forget cX8_forget 2 (some .int) 0 := ⟨mw_1181, ⟨mw_1179, mw_1180⟩, mw_106, ⟨by decide +kernel, by decide +kernel⟩, by decide +kernel⟩
theorem mf_X8_has : MFs yX8_has cX8_has 2 (some .boolean) 2 := ⟨mw_1023, mw_1022, mw_106, ⟨by decide +kernel, by decide +kernel⟩, by decide +kernel⟩
theorem mf_X8_hourGoes : MFv yX8_hourGoes cX8_hourGoes 6 none 0 := ⟨mw_1067, ⟨mw_1066, mw_86⟩, mw_106, ⟨by decide +kernel, by decide +kernel⟩, by decide +kernel⟩
theorem mf_X8_hours : MFv yX8_hours cX8_hours 3 (some .int) 1 := ⟨mw_1059, ⟨mw_1057, mw_1058⟩, mw_106, ⟨by decide +kernel, by decide +kernel⟩, by decide +kernel⟩
theorem mf_X8_in : MFs yX8_in cX8_in 3 (some .boolean) 3 := ⟨mw_936, mw_935, mw_106, ⟨by decide +kernel, by decide +kernel⟩, by decide +kernel⟩
theorem mf_X8_isAsked : MFv yX8_isAsked cX8_isAsked 2 (some .boolean) 1 := ⟨mw_1020, ⟨mw_1019, mw_80⟩, mw_106, ⟨by decide +kernel, by decide +kernel⟩, by decide +kernel⟩
theorem mf_X8_isCell : MFs yX8_isCell cX8_isCell 1 (some .boolean) 1 := ⟨mw_1001, mw_1000, mw_106, ⟨by decide +kernel, by decide +kernel⟩, by decide +kernel⟩
theorem mf_X8_isClear : MFv yX8_isClear cX8_isClear 8 (some .boolean) 2 := ⟨mw_1075, ⟨mw_1074, mw_88⟩, mw_106, ⟨by decide +kernel, by decide +kernel⟩, by decide +kernel⟩
theorem mf_X8_isCock : MFv yX8_isCock cX8_isCock 2 (some .boolean) 1 := ⟨mw_1009, ⟨mw_1008, mw_78⟩, mw_106, ⟨by decide +kernel, by decide +kernel⟩, by decide +kernel⟩
theorem mf_X8_isFigure : MFs yX8_isFigure cX8_isFigure 1 (some .boolean) 1 := ⟨mw_955, mw_954, mw_106, ⟨by decide +kernel, by decide +kernel⟩, by decide +kernel⟩
theorem mf_X8_isHour : MFs yX8_isHour cX8_isHour 1 (some .boolean) 1 := ⟨mw_1117, mw_1116, mw_106, ⟨by decide +kernel, by decide +kernel⟩, by decide +kernel⟩
theorem mf_X8_isLaw : MFv yX8_isLaw cX8_isLaw 4 (some .boolean) 1 := ⟨mw_1153, ⟨mw_1152, mw_95⟩, mw_106, ⟨by decide +kernel, by decide +kernel⟩, by decide +kernel⟩
theorem mf_X8_isLess : MFs yX8_isLess cX8_isLess 2 (some .boolean) 2 := ⟨mw_1110, mw_1109, mw_106, ⟨by decide +kernel, by decide +kernel⟩, by decide +kernel⟩
theorem mf_X8_isLetter : MFs yX8_isLetter cX8_isLetter 1 (some .boolean) 1 := ⟨mw_958, mw_957, mw_106, ⟨by decide +kernel, by decide +kernel⟩, by decide +kernel⟩
theorem mf_X8_isOne : MFv yX8_isOne cX8_isOne 2 (some .boolean) 1 := ⟨mw_1042, ⟨mw_1041, mw_83⟩, mw_106, ⟨by decide +kernel, by decide +kernel⟩, by decide +kernel⟩
theorem mf_X8_isSmoke : MFv yX8_isSmoke cX8_isSmoke 5 (some .boolean) 2 := ⟨mw_1079, ⟨mw_1078, mw_89⟩, mw_106, ⟨by decide +kernel, by decide +kernel⟩, by decide +kernel⟩
theorem mf_X8_keep : MFv yX8_keep cX8_keep 3 (some .int) 1 := ⟨mw_1194, ⟨mw_1192, mw_1193⟩, mw_106, ⟨by decide +kernel, by decide +kernel⟩, by decide +kernel⟩
theorem mf_X8_known : MFv yX8_known cX8_known 4 (some .int) 1 := ⟨mw_1055, ⟨mw_1053, mw_1054⟩, mw_106, ⟨by decide +kernel, by decide +kernel⟩, by decide +kernel⟩
theorem mf_X8_knownMuch : MFv yX8_knownMuch cX8_knownMuch 1 (some .int) 0 := ⟨mw_1091, ⟨mw_1090, mw_90⟩, mw_106, ⟨by decide +kernel, by decide +kernel⟩, by decide +kernel⟩
theorem mf_X8_laws : MFv yX8_laws cX8_laws 5 (some .int) 1 := ⟨mw_1149, ⟨mw_1147, mw_1148⟩, mw_106, ⟨by decide +kernel, by decide +kernel⟩, by decide +kernel⟩
theorem mf_X8_letterAt : MFv yX8_letterAt cX8_letterAt 2 (some .int) 1 := ⟨mw_952, ⟨mw_951, mw_68⟩, mw_106, ⟨by decide +kernel, by decide +kernel⟩, by decide +kernel⟩
theorem mf_X8_lowest : MFs yX8_lowest cX8_lowest 6 (some .int) 3 := ⟨mw_1141, mw_1140, mw_106, ⟨by decide +kernel, by decide +kernel⟩, by decide +kernel⟩
theorem mf_X8_mark : MFv yX8_mark cX8_mark 6 (some .int) 2 := ⟨mw_1185, ⟨mw_1183, mw_1184⟩, mw_106, ⟨by decide +kernel, by decide +kernel⟩, by decide +kernel⟩
theorem mf_X8_mayBegin : MFv yX8_mayBegin cX8_mayBegin 2 (some .boolean) 1 := ⟨mw_966, ⟨mw_965, mw_70⟩, mw_106, ⟨by decide +kernel, by decide +kernel⟩, by decide +kernel⟩
theorem mf_X8_met : MFv yX8_met cX8_met 3 (some .int) 2 := ⟨mw_1162, ⟨mw_1160, mw_1161⟩, mw_106, ⟨by decide +kernel, by decide +kernel⟩, by decide +kernel⟩
theorem mf_X8_most : MFv yX8_most cX8_most 8 (some .int) 2 := ⟨mw_1130, ⟨mw_1128, mw_1129⟩, mw_106, ⟨by decide +kernel, by decide +kernel⟩, by decide +kernel⟩
theorem mf_X8_next : MFv yX8_next cX8_next 2 none 0 := ⟨mw_948, ⟨mw_947, mw_67⟩, mw_106, ⟨by decide +kernel, by decide +kernel⟩, by decide +kernel⟩
theorem mf_X8_now : MFv yX8_now cX8_now 2 (some .int) 1 := ⟨mw_1099, ⟨mw_1097, mw_1098⟩, mw_106, ⟨by decide +kernel, by decide +kernel⟩, by decide +kernel⟩
theorem mf_X8_odds : MFv yX8_odds cX8_odds 11 (some .int) 6 := ⟨mw_1138, ⟨mw_1136, mw_1137⟩, mw_106, ⟨by decide +kernel, by decide +kernel⟩, by decide +kernel⟩
theorem mf_X8_one : MFv yX8_one cX8_one 3 (some .int) 2 := ⟨mw_1038, ⟨mw_1036, mw_1037⟩, mw_106, ⟨by decide +kernel, by decide +kernel⟩, by decide +kernel⟩
theorem mf_X8_readBody : MFv yX8_readBody cX8_readBody 2 none 1 := ⟨mw_970, ⟨mw_969, mw_71⟩, mw_106, ⟨by decide +kernel, by decide +kernel⟩, by decide +kernel⟩
theorem mf_X8_readCock : MFv yX8_readCock cX8_readCock 1 none 0 := ⟨mw_982, ⟨mw_981, mw_74⟩, mw_106, ⟨by decide +kernel, by decide +kernel⟩, by decide +kernel⟩
theorem mf_X8_readItem : MFv yX8_readItem cX8_readItem 2 none 0 := ⟨mw_962, ⟨mw_961, mw_69⟩, mw_106, ⟨by decide +kernel, by decide +kernel⟩, by decide +kernel⟩
theorem mf_X8_readOne : MFv yX8_readOne cX8_readOne 1 none 0 := ⟨mw_986, ⟨mw_985, mw_75⟩, mw_106, ⟨by decide +kernel, by decide +kernel⟩, by decide +kernel⟩
theorem mf_X8_readRoof : MFv yX8_readRoof cX8_readRoof 2 none 0 := ⟨mw_974, ⟨mw_973, mw_72⟩, mw_106, ⟨by decide +kernel, by decide +kernel⟩, by decide +kernel⟩
theorem mf_X8_readSmoke : MFv yX8_readSmoke cX8_readSmoke 2 none 0 := ⟨mw_990, ⟨mw_989, mw_76⟩, mw_106, ⟨by decide +kernel, by decide +kernel⟩, by decide +kernel⟩
theorem mf_X8_remembers : MFv yX8_remembers cX8_remembers 3 none 0 := ⟨mw_1063, ⟨mw_1062, mw_85⟩, mw_106, ⟨by decide +kernel, by decide +kernel⟩, by decide +kernel⟩
theorem mf_X8_roof : MFv yX8_roof cX8_roof 2 (some .int) 1 := ⟨mw_998, ⟨mw_996, mw_997⟩, mw_106, ⟨by decide +kernel, by decide +kernel⟩, by decide +kernel⟩
theorem mf_X8_saw : MFv yX8_saw cX8_saw 3 (some .int) 2 := ⟨mw_1051, ⟨mw_1049, mw_1050⟩, mw_106, ⟨by decide +kernel, by decide +kernel⟩, by decide +kernel⟩
theorem mf_X8_sawBy : MFv yX8_sawBy cX8_sawBy 6 (some .int) 1 := ⟨mw_1027, ⟨mw_1026, mw_81⟩, mw_106, ⟨by decide +kernel, by decide +kernel⟩, by decide +kernel⟩
theorem mf_X8_sawOf : MFv yX8_sawOf cX8_sawOf 3 (some .int) 2 := ⟨mw_1031, ⟨mw_1030, mw_82⟩, mw_106, ⟨by decide +kernel, by decide +kernel⟩, by decide +kernel⟩
theorem mf_X8_sees : MFv yX8_sees cX8_sees 5 (some .boolean) 3 := ⟨mw_1071, ⟨mw_1070, mw_87⟩, mw_106, ⟨by decide +kernel, by decide +kernel⟩, by decide +kernel⟩
theorem mf_X8_settles : MFv yX8_settles cX8_settles 2 none 0 := ⟨mw_994, ⟨mw_993, mw_77⟩, mw_106, ⟨by decide +kernel, by decide +kernel⟩, by decide +kernel⟩
theorem mf_X8_sideBy : MFs yX8_sideBy cX8_sideBy 3 (some .int) 3 := ⟨mw_1016, mw_1015, mw_106, ⟨by decide +kernel, by decide +kernel⟩, by decide +kernel⟩
theorem mf_X8_takes : MFv yX8_takes cX8_takes 4 (some .int) 1 := ⟨mw_1134, ⟨mw_1133, mw_94⟩, mw_106, ⟨by decide +kernel, by decide +kernel⟩, by decide +kernel⟩
theorem mf_X8_takesNumber : MFv yX8_takesNumber cX8_takesNumber 5 (some .int) 2 := ⟨mw_978, ⟨mw_977, mw_73⟩, mw_106, ⟨by decide +kernel, by decide +kernel⟩, by decide +kernel⟩
theorem mf_X8_told : MFs yX8_told cX8_told 1 (some .int) 1 := ⟨mw_1173, mw_1172, mw_106, ⟨by decide +kernel, by decide +kernel⟩, by decide +kernel⟩
theorem mf_X8_trace : MFv yX8_trace cX8_trace 1 (some .long) 0 := ⟨mw_1206, ⟨mw_1204, mw_1205⟩, mw_106, ⟨by decide +kernel, by decide +kernel⟩, by decide +kernel⟩
theorem mf_X8_tryNext : MFv yX8_tryNext cX8_tryNext 7 (some .int) 0 := ⟨mw_1157, ⟨mw_1155, mw_1156⟩, mw_106, ⟨by decide +kernel, by decide +kernel⟩, by decide +kernel⟩
theorem mf_X8_type : MFv yX8_type cX8_type 2 (some .int) 1 := ⟨mw_933, ⟨mw_931, mw_932⟩, mw_106, ⟨by decide +kernel, by decide +kernel⟩, by decide +kernel⟩
theorem mf_X8_undo : MFv yX8_undo cX8_undo 3 (some .int) 0 := ⟨mw_1095, ⟨mw_1093, mw_1094⟩, mw_106, ⟨by decide +kernel, by decide +kernel⟩, by decide +kernel⟩
theorem mf_X8_view : MFv yX8_view cX8_view 3 (some .int) 2 := ⟨mw_1114, ⟨mw_1112, mw_1113⟩, mw_106, ⟨by decide +kernel, by decide +kernel⟩, by decide +kernel⟩
theorem mf_X8_viewOf : MFv yX8_viewOf cX8_viewOf 5 (some .int) 2 := ⟨mw_1121, ⟨mw_1120, mw_93⟩, mw_106, ⟨by decide +kernel, by decide +kernel⟩, by decide +kernel⟩
theorem mf_X8_walks : MFv yX8_walks cX8_walks 4 (some .int) 2 := ⟨mw_1047, ⟨mw_1046, mw_84⟩, mw_106, ⟨by decide +kernel, by decide +kernel⟩, by decide +kernel⟩
theorem mf_X8_ways : MFv yX8_ways cX8_ways 5 (some .int) 1 := ⟨mw_1166, ⟨mw_1164, mw_1165⟩, mw_106, ⟨by decide +kernel, by decide +kernel⟩, by decide +kernel⟩
theorem mf_X8_wrong : MFv yX8_wrong cX8_wrong 4 (some .int) 1 := ⟨mw_1170, ⟨mw_1169, mw_96⟩, mw_106, ⟨by decide +kernel, by decide +kernel⟩, by decide +kernel⟩
theorem mf_J7_fill_53178 : MFs yJ7_fill_53178 cJ7_fill_53178 4 none 2 := ⟨mw_360, mw_359, mw_107, ⟨by decide +kernel, by decide +kernel⟩, by decide +kernel⟩
def FU : Nat := 2000
theorem arrV_congr {c : ClassId} {N : Nat} {F F' : Nat → Value} (h : ∀ j, j < N → F j = F' j) : arrV c N F = arrV c N F' := by
  unfold arrV
  congr 1
  first | (congr 1; funext j; exact h j.1 j.2) | (apply Array.ext <;> simp; intro i hi; exact h i hi)
theorem oob_nI {i N : Nat} (h : i < N) (hN : N < 2 ^ 31) : ¬ oob (nI i) N = true := fun q => vp_in_nI h hN (of_decide_eq_true q)
theorem va_P_row {w : Gx → St → va_W} {g : Gx} {u : St} {q j N a : Nat} (hs : ∀ (u : St) (f : Nat → Int32), (w g u).set q (a, .inl (g.2.1.1, N, .inl f)) = w g (sA u j f)) {f f' : Nat → Int32} (h : ∀ k, k < N → f k = f' k) {H : Heap} (hP : va_P g.1 vwCl (w g (sA u j f)) H) : va_P g.1 vwCl (w g (sA u j f')) H := by
  rw [← hs] at hP ⊢
  intro k e hk
  rw [List.getElem?_set] at hk
  have hk2 := hP k
  rw [List.getElem?_set] at hk2
  by_cases hq : q = k
  · rw [if_pos hq] at hk hk2
    by_cases hl : q < (w g u).length
    · rw [if_pos hl] at hk hk2
      cases hk
      have h3 := hk2 _ rfl
      have h4 : H[a]? = some (vp_cell g.2.1.1 (N, .inl f)) := h3
      have h5 : vp_cell g.2.1.1 (N, .inl f) = vp_cell g.2.1.1 (N, .inl f') := by rw [vp_cell_i, vp_cell_i]; exact arrV_congr (fun j hj => by rw [h j hj])
      show H[a]? = some (vp_cell g.2.1.1 (N, .inl f'))
      rw [← h5]; exact h4
    · rw [if_neg hl] at hk
      cases hk
  · rw [if_neg hq] at hk hk2
    exact hk2 _ hk
theorem sA_sA (u : St) (j : Nat) (f f' : Nat → Int32) : sA (sA u j f) j f' = sA u j f' := by
  unfold sA
  congr 2
  funext k
  simp only [va_up]
  split <;> rfl
theorem sA_self (u : St) (j : Nat) : sA u j (u.2.1 j) = u := by
  obtain ⟨a, b, c⟩ := u
  unfold sA
  congr 2
  funext k
  simp only [va_up]
  split
  · rename_i h; rw [h]
  · rfl
def fillTo (f : Nat → Int32) (x : Int32) (i : Nat) : Nat → Int32 := fun k => if k < i then x else f k
theorem fillTo_0 (f : Nat → Int32) (x : Int32) : fillTo f x 0 = f := by funext k; simp [fillTo]
theorem fillTo_s (f : Nat → Int32) (x : Int32) (i : Nat) : upd (fillTo f x i) i x = fillTo f x (i + 1) := by
  funext k
  simp only [upd, fillTo]
  by_cases h : k = i
  · rw [if_pos h, if_pos (by omega)]
  · rw [if_neg h]
    by_cases h2 : k < i
    · rw [if_pos h2, if_pos (by omega)]
    · rw [if_neg h2, if_neg (by omega)]
set_option maxHeartbeats 4000000 in
set_option maxRecDepth 100000 in
/-- Arrays.fill over one of our rows -/
theorem c_fill (l : Launch) {g : Gx} {u : St} {q j N a : Nat} (ha : ∀ u : St, (wC g u)[q]? = some (a, .inl (g.2.1.1, N, .inl (u.2.1 j)))) (hs : ∀ (u : St) (f : Nat → Int32), (wC g u).set q (a, .inl (g.2.1.1, N, .inl f)) = wC g (sA u j f)) (hN : N < 2 ^ 31) (x : Int32) : CV wC 82 l yJ7_fill_53178 (wsY yJ7_fill_53178 cJ7_fill_53178 4 (none)) (rmX 0 0) g [.ref a, .int x] u (sA u j (fun _ => x)) := by
  refine CV_start (by decide +kernel) rfl (Nat.le_of_ble_eq_true rfl) (fun {p e s m args below meth c ls} C Z hl => ?_)
  have hl : lv_has ls 4 [(0, .ref a), (1, .int x)] := hl
  have hx := C.1
  have hb := C.2.1
  refine lv_iconst (v := 0) hx hb dJ7_fill_53178_0 (by decide +kernel) ?_
  refine lv_istore_n (lv' := [(2, .int 0), (0, .ref a), (1, .int x)]) hx hb dJ7_fill_53178_1 rfl hl (by decide) rfl (fun ls hl => ?_)
  refine lv_aload_n hx hb dJ7_fill_53178_2 rfl (lv_at hl 1 rfl) ?_
  refine r_len C Z (ha u) (t := 0) rfl (v := Int32.ofNat N) rfl dJ7_fill_53178_3 ?_
  refine lv_istore_n (lv' := [(3, .int (Int32.ofNat N)), (2, .int 0), (0, .ref a), (1, .int x)]) hx hb dJ7_fill_53178_4 rfl hl (by decide) rfl (fun ls hl => ?_)
  have key : ∀ (k i : Nat) (H : Heap) (locs : List Loc) (ls : Array Slot), i + k = N → Zx wC g (Aw 82 g s.heap.size) s H locs (sA u j (fillTo (u.2.1 j) x i)) → lv_has ls 4 [(3, .int (nI N)), (2, .int (nI i)), (0, .ref a), (1, .int x)] → W p l e (rmX 0 0) s m args below meth c H locs 0 0 (QV wC 82 g (sA u j (fun _ => x)) below args s) (F0 m 5 ls []) := by
    intro k
    induction k with
    | zero =>
      intro i H locs ls hi Z hl
      have hiN : i = N := by omega
      subst hiN
      refine lv_iload_n hx hb dJ7_fill_53178_5 rfl (lv_at hl 1 rfl) ?_
      refine lv_iload_n hx hb dJ7_fill_53178_6 rfl (lv_at hl 0 rfl) ?_
      refine lv_icmp_ge (tgt := 20) hx hb dJ7_fill_53178_7 (by decide) (fun _ => ?_) (fun hq => absurd (Int32.le_refl _) hq)
      exact ret_v C ⟨va_P_row hs (fun k hk => by simp [fillTo, hk]) Z.1, Z.2⟩ dJ7_fill_53178_20
    | succ k ih =>
      intro i H locs ls hi Z hl
      refine lv_iload_n hx hb dJ7_fill_53178_5 rfl (lv_at hl 1 rfl) ?_
      refine lv_iload_n hx hb dJ7_fill_53178_6 rfl (lv_at hl 0 rfl) ?_
      refine lv_icmp_ge (tgt := 20) hx hb dJ7_fill_53178_7 (by decide) (fun hq => absurd hq (nI_ge (by omega) hN)) (fun _ => ?_)
      refine lv_aload_n hx hb dJ7_fill_53178_10 rfl (lv_at hl 2 rfl) ?_
      refine lv_iload_n hx hb dJ7_fill_53178_11 rfl (lv_at hl 1 rfl) ?_
      refine lv_iload_n hx hb dJ7_fill_53178_12 rfl (lv_at hl 3 rfl) ?_
      refine r_ast C wokC Z (ha _) (oob_nI (by omega) hN) (nI_clamp (by omega)) (hs _ _) dJ7_fill_53178_13 (fun H locs Z => ?_)
      have e1 : (sA u j (fillTo (u.2.1 j) x i)).2.1 j = fillTo (u.2.1 j) x i := by simp [sA, va_up]
      rw [e1, fillTo_s, sA_sA] at Z
      refine lv_iinc (v := nI (i + 1)) (lv' := [(2, .int (nI (i + 1))), (3, .int (nI N)), (0, .ref a), (1, .int x)]) hx hb dJ7_fill_53178_14 hl (k := 1) rfl (by rw [nI_succ]; rfl) (by decide) rfl (fun ls hl => ?_)
      refine lv_goto (tgt := 5) hx hb dJ7_fill_53178_17 (by decide) ?_
      exact ih (i + 1) H locs ls (by omega) Z (lv_sub hl [1, 0, 2, 3] rfl)
  exact key N 0 _ _ ls (by omega) (by rw [fillTo_0, sA_self]; exact Z) hl
