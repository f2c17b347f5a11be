theorem tw_aoa : (.arrayOver (.array .int) : Cond) ∈ lw_tbl := List.mem_of_getElem? (i := 158) (by decide +kernel)
theorem tw_aoo : (.arrayOver (.object "AskedCocks$Present") : Cond) ∈ lw_tbl := List.mem_of_getElem? (i := 303) (by decide +kernel)
theorem tw_ini : (.initialized "AskedCocks$Reader" : Cond) ∈ lw_tbl := List.mem_of_getElem? (i := 100) (by decide +kernel)
theorem tw_ls0 : (.laysStatic "AskedCocks$Reader" "LETTERS" "[C" : Cond) ∈ lw_tbl := List.mem_of_getElem? (i := 391) (by decide +kernel)
theorem tw_ls1 : (.laysStatic "AskedCocks$Reader" "NUMBERS" "[I" : Cond) ∈ lw_tbl := List.mem_of_getElem? (i := 397) (by decide +kernel)
theorem tw_ls2 : (.laysStatic "AskedCocks$Reader" "LOWEST" "[I" : Cond) ∈ lw_tbl := List.mem_of_getElem? (i := 403) (by decide +kernel)
theorem tw_ls3 : (.laysStatic "AskedCocks$Reader" "HIGHEST" "[I" : Cond) ∈ lw_tbl := List.mem_of_getElem? (i := 405) (by decide +kernel)
theorem nt_0 : (.methodLinkNest RX7 9 yX5_init "AskedCocks" : Cond) ∈ lw_tbl := List.mem_of_getElem? (i := 121) (by decide +kernel)
theorem nt_1 : (.methodLinkNest RX7 18 yX4_init "AskedCocks" : Cond) ∈ lw_tbl := List.mem_of_getElem? (i := 147) (by decide +kernel)
theorem nt_2 : (.methodLinkNest RX4 11 yX1_init "AskedCocks" : Cond) ∈ lw_tbl := List.mem_of_getElem? (i := 153) (by decide +kernel)
theorem nt_3 : (.methodLinkNest RX7 25 yX6_init "AskedCocks" : Cond) ∈ lw_tbl := List.mem_of_getElem? (i := 205) (by decide +kernel)
theorem nt_4 : (.methodLinkNest RX6 11 yX1_init "AskedCocks" : Cond) ∈ lw_tbl := List.mem_of_getElem? (i := 210) (by decide +kernel)
theorem nt_5 : (.methodLinkNest RX6 20 yX3_init "AskedCocks" : Cond) ∈ lw_tbl := List.mem_of_getElem? (i := 213) (by decide +kernel)
theorem nt_6 : (.methodLinkNest RX7 32 yX0_init "AskedCocks" : Cond) ∈ lw_tbl := List.mem_of_getElem? (i := 266) (by decide +kernel)
theorem nt_7 : (.methodLinkNest RX7 39 yX2_init "AskedCocks" : Cond) ∈ lw_tbl := List.mem_of_getElem? (i := 293) (by decide +kernel)
theorem nt_8 : (.methodLinkNest RX7 46 yX3_init "AskedCocks" : Cond) ∈ lw_tbl := List.mem_of_getElem? (i := 304) (by decide +kernel)
theorem nt_9 : (.methodLinkNest RX7 55 yX5_append "AskedCocks" : Cond) ∈ lw_tbl := List.mem_of_getElem? (i := 334) (by decide +kernel)
theorem nt_10 : (.methodLinkNest RX7 63 yX5_empty "AskedCocks" : Cond) ∈ lw_tbl := List.mem_of_getElem? (i := 342) (by decide +kernel)
theorem nt_11 : (.methodLinkNest RX7 66 yX4_readAll "AskedCocks" : Cond) ∈ lw_tbl := List.mem_of_getElem? (i := 350) (by decide +kernel)
theorem nt_12 : (.methodLinkNest RX4 22 yX1_empty "AskedCocks" : Cond) ∈ lw_tbl := List.mem_of_getElem? (i := 354) (by decide +kernel)
theorem nt_13 : (.methodLinkNest RX4 25 yX5_rewind "AskedCocks" : Cond) ∈ lw_tbl := List.mem_of_getElem? (i := 361) (by decide +kernel)
theorem nt_14 : (.methodLinkNest RX4 30 yX5_nextToken "AskedCocks" : Cond) ∈ lw_tbl := List.mem_of_getElem? (i := 365) (by decide +kernel)
theorem nt_15 : (.methodLinkNest RX4 83 yX7_isWithin "AskedCocks" : Cond) ∈ lw_tbl := List.mem_of_getElem? (i := 406) (by decide +kernel)
theorem nt_16 : (.methodLinkNest RX4 89 yX1_addCock "AskedCocks" : Cond) ∈ lw_tbl := List.mem_of_getElem? (i := 411) (by decide +kernel)
theorem nt_17 : (.methodLinkNest RX4 93 yX1_addOne "AskedCocks" : Cond) ∈ lw_tbl := List.mem_of_getElem? (i := 418) (by decide +kernel)
theorem nt_18 : (.methodLinkNest RX4 96 yX1_addSmoke "AskedCocks" : Cond) ∈ lw_tbl := List.mem_of_getElem? (i := 422) (by decide +kernel)
theorem nt_19 : (.methodLinkNest RX7 74 yX6_beginWith "AskedCocks" : Cond) ∈ lw_tbl := List.mem_of_getElem? (i := 426) (by decide +kernel)
theorem nt_20 : (.methodLinkNest RX6 25 yX1_becomeAs "AskedCocks" : Cond) ∈ lw_tbl := List.mem_of_getElem? (i := 430) (by decide +kernel)
theorem nt_21 : (.methodLinkNest RX1 48 yX7_copyRows "AskedCocks" : Cond) ∈ lw_tbl := List.mem_of_getElem? (i := 434) (by decide +kernel)
theorem nt_22 : (.methodLinkNest RX6 33 yX3_beginOver "AskedCocks" : Cond) ∈ lw_tbl := List.mem_of_getElem? (i := 441) (by decide +kernel)
theorem nt_23 : (.methodLinkNest RX7 78 yX0_drop "AskedCocks" : Cond) ∈ lw_tbl := List.mem_of_getElem? (i := 447) (by decide +kernel)
theorem nt_24 : (.methodLinkNest RX7 107 yX6_eyeOf "AskedCocks" : Cond) ∈ lw_tbl := List.mem_of_getElem? (i := 466) (by decide +kernel)
theorem nt_25 : (.methodLinkNest RX7 114 yX1_sideOf "AskedCocks" : Cond) ∈ lw_tbl := List.mem_of_getElem? (i := 470) (by decide +kernel)
theorem nt_26 : (.methodLinkNest RX1 52 yX7_sideBy "AskedCocks" : Cond) ∈ lw_tbl := List.mem_of_getElem? (i := 474) (by decide +kernel)
theorem nt_27 : (.methodLinkNest RX7 118 yX3_isAsked "AskedCocks" : Cond) ∈ lw_tbl := List.mem_of_getElem? (i := 477) (by decide +kernel)
theorem nt_28 : (.methodLinkNest RX3 55 yX7_isIn "AskedCocks" : Cond) ∈ lw_tbl := List.mem_of_getElem? (i := 481) (by decide +kernel)
theorem nt_29 : (.methodLinkNest RX7 121 yX3_tellingOf "AskedCocks" : Cond) ∈ lw_tbl := List.mem_of_getElem? (i := 484) (by decide +kernel)
theorem nt_30 : (.methodLinkNest RX7 131 yX1_cellOf "AskedCocks" : Cond) ∈ lw_tbl := List.mem_of_getElem? (i := 503) (by decide +kernel)
theorem nt_31 : (.methodLinkNest RX1 56 yX7_placeBy "AskedCocks" : Cond) ∈ lw_tbl := List.mem_of_getElem? (i := 507) (by decide +kernel)
theorem nt_32 : (.methodLinkNest RX1 59 yX7_isCell "AskedCocks" : Cond) ∈ lw_tbl := List.mem_of_getElem? (i := 510) (by decide +kernel)
theorem nt_33 : (.methodLinkNest RX7 140 yX3_seenByAnyOf "AskedCocks" : Cond) ∈ lw_tbl := List.mem_of_getElem? (i := 519) (by decide +kernel)
theorem nt_34 : (.methodLinkNest RX7 143 yX6_goBy "AskedCocks" : Cond) ∈ lw_tbl := List.mem_of_getElem? (i := 527) (by decide +kernel)
theorem nt_35 : (.methodLinkNest RX6 74 yX3_rememberHour "AskedCocks" : Cond) ∈ lw_tbl := List.mem_of_getElem? (i := 531) (by decide +kernel)
theorem nt_36 : (.methodLinkNest RX6 90 yX1_cellOf "AskedCocks" : Cond) ∈ lw_tbl := List.mem_of_getElem? (i := 548) (by decide +kernel)
theorem nt_37 : (.methodLinkNest RX6 93 yX1_isSmoky "AskedCocks" : Cond) ∈ lw_tbl := List.mem_of_getElem? (i := 549) (by decide +kernel)
theorem nt_38 : (.methodLinkNest RX1 63 yX7_isWithin "AskedCocks" : Cond) ∈ lw_tbl := List.mem_of_getElem? (i := 553) (by decide +kernel)
theorem nt_39 : (.methodLinkNest RX6 66 yX3_isAsked "AskedCocks" : Cond) ∈ lw_tbl := List.mem_of_getElem? (i := 558) (by decide +kernel)
theorem nt_40 : (.methodLinkNest RX6 42 yX1_sideOf "AskedCocks" : Cond) ∈ lw_tbl := List.mem_of_getElem? (i := 563) (by decide +kernel)
theorem nt_41 : (.methodLinkNest RX7 147 yX3_build "AskedCocks" : Cond) ∈ lw_tbl := List.mem_of_getElem? (i := 576) (by decide +kernel)
theorem nt_42 : (.methodLinkNest RX7 151 yX3_amountKnownWith "AskedCocks" : Cond) ∈ lw_tbl := List.mem_of_getElem? (i := 584) (by decide +kernel)
theorem nt_43 : (.methodLinkNest RX7 154 yX3_bringDown "AskedCocks" : Cond) ∈ lw_tbl := List.mem_of_getElem? (i := 593) (by decide +kernel)
theorem nt_44 : (.methodLinkNest RX7 160 yX3_undoLatest "AskedCocks" : Cond) ∈ lw_tbl := List.mem_of_getElem? (i := 601) (by decide +kernel)
theorem nt_45 : (.methodLinkNest RX7 163 yX1_allCocks "AskedCocks" : Cond) ∈ lw_tbl := List.mem_of_getElem? (i := 613) (by decide +kernel)
theorem nt_46 : (.methodLinkNest RX7 167 yX3_amountSeenBy "AskedCocks" : Cond) ∈ lw_tbl := List.mem_of_getElem? (i := 617) (by decide +kernel)
theorem nt_47 : (.methodLinkNest RX7 171 yX6_bestToAsk "AskedCocks" : Cond) ∈ lw_tbl := List.mem_of_getElem? (i := 619) (by decide +kernel)
theorem nt_48 : (.methodLinkNest RX6 104 yX1_allCocks "AskedCocks" : Cond) ∈ lw_tbl := List.mem_of_getElem? (i := 623) (by decide +kernel)
theorem nt_49 : (.methodLinkNest RX6 111 yX3_hoursToAsk "AskedCocks" : Cond) ∈ lw_tbl := List.mem_of_getElem? (i := 624) (by decide +kernel)
theorem nt_50 : (.methodLinkNest RX6 117 yX3_amountKnownWith "AskedCocks" : Cond) ∈ lw_tbl := List.mem_of_getElem? (i := 633) (by decide +kernel)
theorem nt_51 : (.methodLinkNest RX7 177 yX6_viewOf "AskedCocks" : Cond) ∈ lw_tbl := List.mem_of_getElem? (i := 642) (by decide +kernel)
theorem nt_52 : (.methodLinkNest RX7 180 yX6_unseenIn "AskedCocks" : Cond) ∈ lw_tbl := List.mem_of_getElem? (i := 650) (by decide +kernel)
theorem nt_53 : (.methodLinkNest RX7 183 yX6_hoursInView "AskedCocks" : Cond) ∈ lw_tbl := List.mem_of_getElem? (i := 664) (by decide +kernel)
theorem nt_54 : (.methodLinkNest RX7 193 yX0_addFaced "AskedCocks" : Cond) ∈ lw_tbl := List.mem_of_getElem? (i := 678) (by decide +kernel)
theorem nt_55 : (.methodLinkNest RX7 200 yX0_lawCount "AskedCocks" : Cond) ∈ lw_tbl := List.mem_of_getElem? (i := 686) (by decide +kernel)
theorem nt_56 : (.methodLinkNest RX0 31 yX7_sideBy "AskedCocks" : Cond) ∈ lw_tbl := List.mem_of_getElem? (i := 698) (by decide +kernel)
theorem nt_57 : (.methodLinkNest RX7 203 yX0_firstLaw "AskedCocks" : Cond) ∈ lw_tbl := List.mem_of_getElem? (i := 699) (by decide +kernel)
theorem nt_58 : (.methodLinkNest RX7 206 yX0_bestHourToTry "AskedCocks" : Cond) ∈ lw_tbl := List.mem_of_getElem? (i := 707) (by decide +kernel)
theorem nt_59 : (.methodLinkNest RX7 209 yX0_addMet "AskedCocks" : Cond) ∈ lw_tbl := List.mem_of_getElem? (i := 719) (by decide +kernel)
theorem nt_60 : (.methodLinkNest RX7 215 yX0_wayCount "AskedCocks" : Cond) ∈ lw_tbl := List.mem_of_getElem? (i := 727) (by decide +kernel)
theorem nt_61 : (.methodLinkNest RX0 52 yX7_placeBy "AskedCocks" : Cond) ∈ lw_tbl := List.mem_of_getElem? (i := 735) (by decide +kernel)
theorem nt_62 : (.methodLinkNest RX7 218 yX0_bestWay "AskedCocks" : Cond) ∈ lw_tbl := List.mem_of_getElem? (i := 736) (by decide +kernel)
theorem nt_63 : (.methodLinkNest RX7 221 yX0_falsesOf "AskedCocks" : Cond) ∈ lw_tbl := List.mem_of_getElem? (i := 740) (by decide +kernel)
theorem nt_64 : (.methodLinkNest RX7 224 yX2_markAs "AskedCocks" : Cond) ∈ lw_tbl := List.mem_of_getElem? (i := 753) (by decide +kernel)
theorem nt_65 : (.methodLinkNest RX2 35 yX6_eyeOf "AskedCocks" : Cond) ∈ lw_tbl := List.mem_of_getElem? (i := 761) (by decide +kernel)
theorem nt_66 : (.methodLinkNest RX2 47 yX3_tellingOf "AskedCocks" : Cond) ∈ lw_tbl := List.mem_of_getElem? (i := 767) (by decide +kernel)
theorem nt_67 : (.methodLinkNest RX7 228 yX3_becomeAs "AskedCocks" : Cond) ∈ lw_tbl := List.mem_of_getElem? (i := 793) (by decide +kernel)
theorem nt_68 : (.methodLinkNest RX3 51 yX7_copyRows "AskedCocks" : Cond) ∈ lw_tbl := List.mem_of_getElem? (i := 797) (by decide +kernel)
theorem nt_69 : (.fieldLinkNest RX7 59 "AskedCocks$Script" "length" "I" "AskedCocks" : Cond) ∈ lw_tbl := List.mem_of_getElem? (i := 127) (by decide +kernel)
theorem nt_70 : (.fieldLinkNest RX4 38 "AskedCocks$Script" "tokenStart" "I" "AskedCocks" : Cond) ∈ lw_tbl := List.mem_of_getElem? (i := 129) (by decide +kernel)
theorem nt_71 : (.fieldLinkNest RX4 42 "AskedCocks$Script" "tokenValue" "I" "AskedCocks" : Cond) ∈ lw_tbl := List.mem_of_getElem? (i := 131) (by decide +kernel)
theorem nt_72 : (.fieldLinkNest RX6 29 "AskedCocks$Diocese" "roofs" "[I" "AskedCocks" : Cond) ∈ lw_tbl := List.mem_of_getElem? (i := 160) (by decide +kernel)
theorem nt_73 : (.fieldLinkNest RX4 86 "AskedCocks$Diocese" "roofs" "[I" "AskedCocks" : Cond) ∈ lw_tbl := List.mem_of_getElem? (i := 161) (by decide +kernel)
theorem nt_74 : (.fieldLinkNest RX6 38 "AskedCocks$Diocese" "cocks" "[[I" "AskedCocks" : Cond) ∈ lw_tbl := List.mem_of_getElem? (i := 163) (by decide +kernel)
theorem nt_75 : (.fieldLinkNest RX2 58 "AskedCocks$Diocese" "cocks" "[[I" "AskedCocks" : Cond) ∈ lw_tbl := List.mem_of_getElem? (i := 164) (by decide +kernel)
theorem nt_76 : (.fieldLinkNest RX7 101 "AskedCocks$Diocese" "cocks" "[[I" "AskedCocks" : Cond) ∈ lw_tbl := List.mem_of_getElem? (i := 165) (by decide +kernel)
theorem nt_77 : (.fieldLinkNest RX7 128 "AskedCocks$Diocese" "people" "[[I" "AskedCocks" : Cond) ∈ lw_tbl := List.mem_of_getElem? (i := 167) (by decide +kernel)
theorem nt_78 : (.fieldLinkNest RX4 68 "AskedCocks$Diocese" "cockCount" "I" "AskedCocks" : Cond) ∈ lw_tbl := List.mem_of_getElem? (i := 170) (by decide +kernel)
theorem nt_79 : (.fieldLinkNest RX6 62 "AskedCocks$Diocese" "cockCount" "I" "AskedCocks" : Cond) ∈ lw_tbl := List.mem_of_getElem? (i := 171) (by decide +kernel)
theorem nt_80 : (.fieldLinkNest RX7 235 "AskedCocks$Diocese" "cockCount" "I" "AskedCocks" : Cond) ∈ lw_tbl := List.mem_of_getElem? (i := 172) (by decide +kernel)
theorem nt_81 : (.fieldLinkNest RX4 71 "AskedCocks$Diocese" "peopleCount" "I" "AskedCocks" : Cond) ∈ lw_tbl := List.mem_of_getElem? (i := 174) (by decide +kernel)
theorem nt_82 : (.fieldLinkNest RX6 87 "AskedCocks$Diocese" "peopleCount" "I" "AskedCocks" : Cond) ∈ lw_tbl := List.mem_of_getElem? (i := 175) (by decide +kernel)
theorem nt_83 : (.fieldLinkNest RX7 238 "AskedCocks$Diocese" "peopleCount" "I" "AskedCocks" : Cond) ∈ lw_tbl := List.mem_of_getElem? (i := 176) (by decide +kernel)
theorem nt_84 : (.fieldLinkNest RX4 74 "AskedCocks$Diocese" "smokeCount" "I" "AskedCocks" : Cond) ∈ lw_tbl := List.mem_of_getElem? (i := 178) (by decide +kernel)
theorem nt_85 : (.fieldLinkNest RX7 241 "AskedCocks$Diocese" "smokeCount" "I" "AskedCocks" : Cond) ∈ lw_tbl := List.mem_of_getElem? (i := 179) (by decide +kernel)
theorem nt_86 : (.fieldLinkNest RX7 70 "AskedCocks$Reader" "draft" "LAskedCocks$Diocese;" "AskedCocks" : Cond) ∈ lw_tbl := List.mem_of_getElem? (i := 196) (by decide +kernel)
theorem nt_87 : (.fieldLinkNest RX7 111 "AskedCocks$Present" "hour" "I" "AskedCocks" : Cond) ∈ lw_tbl := List.mem_of_getElem? (i := 219) (by decide +kernel)
theorem nt_88 : (.fieldLinkNest RX2 70 "AskedCocks$Present" "hour" "I" "AskedCocks" : Cond) ∈ lw_tbl := List.mem_of_getElem? (i := 220) (by decide +kernel)
theorem nt_89 : (.fieldLinkNest RX6 77 "AskedCocks$Present" "hour" "I" "AskedCocks" : Cond) ∈ lw_tbl := List.mem_of_getElem? (i := 221) (by decide +kernel)
theorem nt_90 : (.fieldLinkNest RX7 137 "AskedCocks$Present" "asked" "I" "AskedCocks" : Cond) ∈ lw_tbl := List.mem_of_getElem? (i := 223) (by decide +kernel)
theorem nt_91 : (.fieldLinkNest RX6 108 "AskedCocks$Present" "asked" "I" "AskedCocks" : Cond) ∈ lw_tbl := List.mem_of_getElem? (i := 224) (by decide +kernel)
theorem nt_92 : (.fieldLinkNest RX6 37 "AskedCocks$Present" "roofs" "[I" "AskedCocks" : Cond) ∈ lw_tbl := List.mem_of_getElem? (i := 226) (by decide +kernel)
theorem nt_93 : (.fieldLinkNest RX7 91 "AskedCocks$Present" "roofs" "[I" "AskedCocks" : Cond) ∈ lw_tbl := List.mem_of_getElem? (i := 227) (by decide +kernel)
theorem nt_94 : (.fieldLinkNest RX7 134 "AskedCocks$Present" "seen" "[[I" "AskedCocks" : Cond) ∈ lw_tbl := List.mem_of_getElem? (i := 229) (by decide +kernel)
theorem nt_95 : (.fieldLinkNest RX6 101 "AskedCocks$Present" "seen" "[[I" "AskedCocks" : Cond) ∈ lw_tbl := List.mem_of_getElem? (i := 230) (by decide +kernel)
theorem nt_96 : (.fieldLinkNest RX7 157 "AskedCocks$Present" "deeds" "I" "AskedCocks" : Cond) ∈ lw_tbl := List.mem_of_getElem? (i := 235) (by decide +kernel)
theorem nt_97 : (.fieldLinkNest RX2 54 "AskedCocks$Watch" "told" "LAskedCocks$Diocese;" "AskedCocks" : Cond) ∈ lw_tbl := List.mem_of_getElem? (i := 254) (by decide +kernel)
theorem nt_98 : (.fieldLinkNest RX7 98 "AskedCocks$Watch" "told" "LAskedCocks$Diocese;" "AskedCocks" : Cond) ∈ lw_tbl := List.mem_of_getElem? (i := 255) (by decide +kernel)
theorem nt_99 : (.fieldLinkNest RX2 43 "AskedCocks$Watch" "present" "LAskedCocks$Present;" "AskedCocks" : Cond) ∈ lw_tbl := List.mem_of_getElem? (i := 257) (by decide +kernel)
theorem nt_100 : (.fieldLinkNest RX7 87 "AskedCocks$Watch" "present" "LAskedCocks$Present;" "AskedCocks" : Cond) ∈ lw_tbl := List.mem_of_getElem? (i := 258) (by decide +kernel)
theorem nt_101 : (.fieldLinkNest RX7 197 "AskedCocks$Clues" "facedCount" "I" "AskedCocks" : Cond) ∈ lw_tbl := List.mem_of_getElem? (i := 273) (by decide +kernel)
theorem nt_102 : (.fieldLinkNest RX7 212 "AskedCocks$Clues" "metCount" "I" "AskedCocks" : Cond) ∈ lw_tbl := List.mem_of_getElem? (i := 277) (by decide +kernel)
theorem nt_103 : (.fieldLinkNest RX7 244 "AskedCocks$Kinds" "trace" "J" "AskedCocks" : Cond) ∈ lw_tbl := List.mem_of_getElem? (i := 298) (by decide +kernel)
theorem nest_tbl : ∀ w ∈ nestW, w ∈ lw_tbl := (List.forall_mem_cons.mpr ⟨nt_0, (List.forall_mem_cons.mpr ⟨nt_1, (List.forall_mem_cons.mpr ⟨nt_2, (List.forall_mem_cons.mpr ⟨nt_3, (List.forall_mem_cons.mpr ⟨nt_4, (List.forall_mem_cons.mpr ⟨nt_5, (List.forall_mem_cons.mpr ⟨nt_6, (List.forall_mem_cons.mpr ⟨nt_7, (List.forall_mem_cons.mpr ⟨nt_8, (List.forall_mem_cons.mpr ⟨nt_9, (List.forall_mem_cons.mpr ⟨nt_10, (List.forall_mem_cons.mpr ⟨nt_11, (List.forall_mem_cons.mpr ⟨nt_12, (List.forall_mem_cons.mpr ⟨nt_13, (List.forall_mem_cons.mpr ⟨nt_14, (List.forall_mem_cons.mpr ⟨nt_15, (List.forall_mem_cons.mpr ⟨nt_16, (List.forall_mem_cons.mpr ⟨nt_17, (List.forall_mem_cons.mpr ⟨nt_18, (List.forall_mem_cons.mpr ⟨nt_19, (List.forall_mem_cons.mpr ⟨nt_20, (List.forall_mem_cons.mpr ⟨nt_21, (List.forall_mem_cons.mpr ⟨nt_22, (List.forall_mem_cons.mpr ⟨nt_23, (List.forall_mem_cons.mpr ⟨nt_24, (List.forall_mem_cons.mpr ⟨nt_25, (List.forall_mem_cons.mpr ⟨nt_26, (List.forall_mem_cons.mpr ⟨nt_27, (List.forall_mem_cons.mpr ⟨nt_28, (List.forall_mem_cons.mpr ⟨nt_29, (List.forall_mem_cons.mpr ⟨nt_30, (List.forall_mem_cons.mpr ⟨nt_31, (List.forall_mem_cons.mpr ⟨nt_32, (List.forall_mem_cons.mpr ⟨nt_33, (List.forall_mem_cons.mpr ⟨nt_34, (List.forall_mem_cons.mpr ⟨nt_35, (List.forall_mem_cons.mpr ⟨nt_36, (List.forall_mem_cons.mpr ⟨nt_37, (List.forall_mem_cons.mpr ⟨nt_38, (List.forall_mem_cons.mpr ⟨nt_39, (List.forall_mem_cons.mpr ⟨nt_40, (List.forall_mem_cons.mpr ⟨nt_41, (List.forall_mem_cons.mpr ⟨nt_42, (List.forall_mem_cons.mpr ⟨nt_43, (List.forall_mem_cons.mpr ⟨nt_44, (List.forall_mem_cons.mpr ⟨nt_45, (List.forall_mem_cons.mpr ⟨nt_46, (List.forall_mem_cons.mpr ⟨nt_47, (List.forall_mem_cons.mpr ⟨nt_48, (List.forall_mem_cons.mpr ⟨nt_49, (List.forall_mem_cons.mpr ⟨nt_50, (List.forall_mem_cons.mpr ⟨nt_51, (List.forall_mem_cons.mpr ⟨nt_52, (List.forall_mem_cons.mpr ⟨nt_53, (List.forall_mem_cons.mpr ⟨nt_54, (List.forall_mem_cons.mpr ⟨nt_55, (List.forall_mem_cons.mpr ⟨nt_56, (List.forall_mem_cons.mpr ⟨nt_57, (List.forall_mem_cons.mpr ⟨nt_58, (List.forall_mem_cons.mpr ⟨nt_59, (List.forall_mem_cons.mpr ⟨nt_60, (List.forall_mem_cons.mpr ⟨nt_61, (List.forall_mem_cons.mpr ⟨nt_62, (List.forall_mem_cons.mpr ⟨nt_63, (List.forall_mem_cons.mpr ⟨nt_64, (List.forall_mem_cons.mpr ⟨nt_65, (List.forall_mem_cons.mpr ⟨nt_66, (List.forall_mem_cons.mpr ⟨nt_67, (List.forall_mem_cons.mpr ⟨nt_68, (List.forall_mem_cons.mpr ⟨nt_69, (List.forall_mem_cons.mpr ⟨nt_70, (List.forall_mem_cons.mpr ⟨nt_71, (List.forall_mem_cons.mpr ⟨nt_72, (List.forall_mem_cons.mpr ⟨nt_73, (List.forall_mem_cons.mpr ⟨nt_74, (List.forall_mem_cons.mpr ⟨nt_75, (List.forall_mem_cons.mpr ⟨nt_76, (List.forall_mem_cons.mpr ⟨nt_77, (List.forall_mem_cons.mpr ⟨nt_78, (List.forall_mem_cons.mpr ⟨nt_79, (List.forall_mem_cons.mpr ⟨nt_80, (List.forall_mem_cons.mpr ⟨nt_81, (List.forall_mem_cons.mpr ⟨nt_82, (List.forall_mem_cons.mpr ⟨nt_83, (List.forall_mem_cons.mpr ⟨nt_84, (List.forall_mem_cons.mpr ⟨nt_85, (List.forall_mem_cons.mpr ⟨nt_86, (List.forall_mem_cons.mpr ⟨nt_87, (List.forall_mem_cons.mpr ⟨nt_88, (List.forall_mem_cons.mpr ⟨nt_89, (List.forall_mem_cons.mpr ⟨nt_90, (List.forall_mem_cons.mpr ⟨nt_91, (List.forall_mem_cons.mpr ⟨nt_92, (List.forall_mem_cons.mpr ⟨nt_93, (List.forall_mem_cons.mpr ⟨nt_94, (List.forall_mem_cons.mpr ⟨nt_95, (List.forall_mem_cons.mpr ⟨nt_96, (List.forall_mem_cons.mpr ⟨nt_97, (List.forall_mem_cons.mpr ⟨nt_98, (List.forall_mem_cons.mpr ⟨nt_99, (List.forall_mem_cons.mpr ⟨nt_100, (List.forall_mem_cons.mpr ⟨nt_101, (List.forall_mem_cons.mpr ⟨nt_102, (List.forall_mem_cons.mpr ⟨nt_103, (fun _ h => absurd h List.not_mem_nil)⟩)⟩)⟩)⟩)⟩)⟩)⟩)⟩)⟩)⟩)⟩)⟩)⟩)⟩)⟩)⟩)⟩)⟩)⟩)⟩)⟩)⟩)⟩)⟩)⟩)⟩)⟩)⟩)⟩)⟩)⟩)⟩)⟩)⟩)⟩)⟩)⟩)⟩)⟩)⟩)⟩)⟩)⟩)⟩)⟩)⟩)⟩)⟩)⟩)⟩)⟩)⟩)⟩)⟩)⟩)⟩)⟩)⟩)⟩)⟩)⟩)⟩)⟩)⟩)⟩)⟩)⟩)⟩)⟩)⟩)⟩)⟩)⟩)⟩)⟩)⟩)⟩)⟩)⟩)⟩)⟩)⟩)⟩)⟩)⟩)⟩)⟩)⟩)⟩)⟩)⟩)⟩)⟩)⟩)⟩)⟩)⟩)⟩)⟩)⟩)⟩)⟩)⟩)⟩)
-- ===== the law from its entry: what the tables give, the two objects made, then its loop =====
theorem aoa_spec {args : Array Value} {s : State} (h : (Cond.arrayOver (.array .int)).before args s = true) : ∃ comp c k, s.vm.findClass (FieldType.array .int).toString = some comp ∧ s.vm.classes[c]? = some k ∧ k.kind = .array comp (.array .int) ∧ s.vm.findClass ("[" ++ (FieldType.array .int).toString) = some c := by
  simp only [Cond.before, Cond.holds, Cond.value, beq_iff_eq] at h
  cases hc : s.vm.findClass (FieldType.array .int).toString with
  | none => simp [hc] at h
  | some comp =>
    simp only [hc, Option.bind_some, Option.bind_eq_some_iff, Option.map_eq_some_iff] at h
    obtain ⟨c, hi, k, hk, hb⟩ := h
    obtain ⟨hlt, hp, -⟩ := Array.findIdx?_eq_some_iff_getElem.mp hi
    have hkk : s.vm.classes[c] = k := (Array.getElem?_eq_some_iff.mp hk).2
    rw [hkk] at hp
    cases hkind : k.kind with
    | array component ty =>
      rw [hkind] at hb hp
      simp at hb hp
      exact ⟨comp, c, k, rfl, hk, by rw [hkind, hp, hb.1], hb.2⟩
    | _ => rw [hkind] at hb; simp at hb
theorem arr_prim {args : Array Value} {s : State} {ty : FieldType} (hp : ∀ C, ty ≠ .object C) (h : (Cond.arrayClass ty).before args s = true) : ∃ cA : ClassId, ArrOfT s cA ty ∧ va_RA s cA ty := by
  obtain ⟨c, k, comp, h1, h2, h3⟩ := Cond.arrayClass_spec h
  refine ⟨c, fun N z => ⟨(fun k h => by cases h), k, h2, comp, h3⟩, ?_⟩
  cases ty with
  | object C => exact absurd rfl (hp C)
  | _ => exact h1
theorem arr_arr {args : Array Value} {s : State} (h : (Cond.arrayOver (.array .int)).before args s = true) : ∃ cA : ClassId, ArrOfT s cA (.array .int) ∧ va_RA s cA (.array .int) := by
  obtain ⟨comp, c, k, h1, h2, h3, h4⟩ := aoa_spec h
  exact ⟨c, fun N z => ⟨(fun k h => by cases h), k, h2, comp, h3⟩, h4⟩
theorem arr_obj {args : Array Value} {s : State} {C : String} (h : (Cond.arrayOver (.object C)).before args s = true) : ∃ cA : ClassId, ArrOfT s cA (.object C) ∧ va_RA s cA (.object C) := by
  obtain ⟨comp, c, k, h1, -, h3, h4, h5⟩ := Cond.arrayOver_spec h
  exact ⟨c, fun N z => ⟨(fun k h => by cases h), k, h3, comp, h4⟩, k, comp, h3, h4, h1, h5⟩
theorem tab_of {args : Array Value} {s : State} {n d : String} {ty : FieldType} {N : Nat} {f : Nat → Int32} (hN : N < 2 ^ 31) (hl : (Cond.laysStatic "AskedCocks$Reader" n d).before args s = true) (hini : (Cond.initialized "AskedCocks$Reader").before args s = true) (harr : (Cond.arrayOf (.static "AskedCocks$Reader" n d) ty).before args s = true) (hlen : (Cond.eq (.length (.static "AskedCocks$Reader" n d)) (.int (Int32.ofNat N))).before args s = true) (hel : ∀ j, j < N → (Cond.eq (.elem (.static "AskedCocks$Reader" n d) (.int (Int32.ofNat j))) (.int (f j))).before args s = true) : Tab n d ty N f (A0 s) s s.heap := by
  have hA : ∀ a : Nat, a < s.heap.size → ¬ A0 s a := fun a h => Nat.not_le.mpr h
  obtain ⟨t, ht, hT⟩ := va_Tof (f := fun j => .int (f j)) hN harr (va_eqt hlen) (fun j hj => va_eqt (hel j hj)) hA
  exact ⟨t, va_Zof hl hini ht hA, hT⟩
theorem wmapC (g : Gx) (u : St) : (wC g u).map (fun x => x.1) = (List.range 82).map g.2.2 := rfl
theorem wmapM (g : Gx) (u : St) : (wM g u).map (fun x => x.1) = (List.range 22).map g.2.2 := rfl
theorem w_get {ws : va_W} {n : Nat} {ad : Nat → Nat} (h : ws.map (fun x => x.1) = (List.range n).map ad) {i : Nat} (hi : i < n) : ∃ p : Nat × va_E, ws[i]? = some p ∧ p.1 = ad i := by
  have h1 : (ws.map (fun x => x.1))[i]? = some (ad i) := by rw [h, List.getElem?_map, List.getElem?_range hi]; rfl
  rw [List.getElem?_map] at h1
  cases hx : ws[i]? with
  | none => rw [hx] at h1; cases h1
  | some p => rw [hx] at h1; exact ⟨p, rfl, Option.some.inj h1⟩
theorem w_len {ws : va_W} {n : Nat} {ad : Nat → Nat} (h : ws.map (fun x => x.1) = (List.range n).map ad) : ws.length = n := by
  have := congrArg List.length h
  simpa using this
def st0 : St := (fun _ => 0, fun _ _ => 0, 0)
theorem two_worlds {s : State} {g g' : Gx} {H : Heap} {locs : List Loc} (hg : g.1 = g'.1) (hP : va_P g.1 vwCl (wC g st0 ++ wM g' st0) H) (hD : va_D (A0 s) (wC g st0 ++ wM g' st0)) (hS : va_S (A0 s) s.heap H locs) : LZ s g g' H locs st0 st0 ∧ (Dx 82 g (A0 s) ∧ Dx 22 g' (A0 s)) ∧ ∀ i j : Nat, i < 82 → j < 22 → g.2.2 i ≠ g'.2.2 j := by
  have hl : (wC g st0).length = 82 := w_len (wmapC g st0)
  have left : ∀ (k : Nat) (x : Nat × va_E), (wC g st0)[k]? = some x → (wC g st0 ++ wM g' st0)[k]? = some x := fun k x hx => by
    rw [List.getElem?_append_left (List.getElem?_eq_some_iff.mp hx).1]; exact hx
  have right : ∀ (k : Nat) (x : Nat × va_E), (wM g' st0)[k]? = some x → (wC g st0 ++ wM g' st0)[82 + k]? = some x := fun k x hx => by
    rw [List.getElem?_append_right (by omega), hl, Nat.add_sub_cancel_left]; exact hx
  refine ⟨⟨fun k x hx => hP k x (left k x hx), by rw [← hg]; exact fun k x hx => hP _ x (right k x hx), hS⟩, ⟨⟨fun i j hi hj e => ?_, fun k hk => ?_⟩, ⟨fun i j hi hj e => ?_, fun k hk => ?_⟩⟩, fun i j hi hj e => ?_⟩
  · obtain ⟨p, h1, h2⟩ := w_get (wmapC g st0) hi
    obtain ⟨q, h3, h4⟩ := w_get (wmapC g st0) hj
    exact hD.1 i j p q (left i p h1) (left j q h3) (by rw [h2, h4]; exact e)
  · obtain ⟨p, h1, h2⟩ := w_get (wmapC g st0) hk
    rw [← h2]; exact hD.2 k p (left k p h1)
  · obtain ⟨p, h1, h2⟩ := w_get (wmapM g' st0) hi
    obtain ⟨q, h3, h4⟩ := w_get (wmapM g' st0) hj
    have := hD.1 (82 + i) (82 + j) p q (right i p h1) (right j q h3) (by rw [h2, h4]; exact e)
    omega
  · obtain ⟨p, h1, h2⟩ := w_get (wmapM g' st0) hk
    rw [← h2]; exact hD.2 _ p (right k p h1)
  · obtain ⟨p, h1, h2⟩ := w_get (wmapC g st0) hi
    obtain ⟨q, h3, h4⟩ := w_get (wmapM g' st0) hj
    have := hD.1 i (82 + j) p q (left i p h1) (right j q h3) (by rw [h2, h4]; exact e)
    omega
section LI
variable {p : Program} {l : Launch} {e : Env} {s : State} {m : MethodId} {args : Array Value} {below : List Frame} {meth : Method} {c : Code} {H : Heap} {locs : List Loc} {Q : State → Prop} {g : Gx} {ls : Array Slot} {rest : List Value} {pc idx cells slots : Nat} {A : Nat → Prop} {o : va_E} {nL : Nat} {cc : ByteArray} {own : String} {R : Room}
/-- k_call, of any caller -/
theorem l_call {pre : va_W} {q : Nat} {y : MethodName} {bytes : ByteArray} {maxL mc ms : Nat} {rm : Room} {k : Gx → va_W} (S : CallFix p m c cc nL s args wsA own) (hF : Fix g s) (hAO : AOv s) (hA : ∀ q, s.heap.size ≤ q → A q) (Z : ZK g A s H locs (pre ++ [(q, o)])) (hM : CN l y (wsY y bytes maxL none) rm g o k mc ms) (hm : MFi y bytes maxL) (hlk : Cond.methodLink own idx y ∈ wsA) (hrm : rm.cells = mc ∧ rm.slots = ms ∧ rm.frames + 1 ≤ R.frames ∧ 8 + (maxL + 11) + rm.locals ≤ R.locals) (hf : cells + mc ≤ R.cells ∧ slots + ms ≤ R.slots) (hsz : ls.size = nL) (hw : (rest.map fun v => v.category).sum ≤ 8) (hdg : decode cc pc = .ok (.invokespecial idx, 3))
    (kk : ∀ (ad : Nat → Nat) (H1 : Heap) (locs1 : List Loc), ad 0 = q → ZK g A s H1 locs1 (pre ++ k (g.1, g.2.1, ad)) → W p l e R s m args below meth c H1 locs1 (cells + mc) (slots + ms) Q (F0 m (pc + 3) ls rest)) : W p l e R s m args below meth c H locs cells slots Q (F0 m pc ls (.ref q :: rest)) := by
  have hts := S.2.2.2.2
  have hW : 2 * (F0 m pc ls (.ref q :: rest)).monitorRoom + (rest.map fun v => v.category).sum ≤ 8 := lv_room hw
  have hcc : Cond.code y bytes maxL none ∈ wsY y bytes maxL none := List.mem_cons_self
  have hlast : (pre ++ [(q, o)])[pre.length]? = some (q, o) := by
    rw [List.getElem?_append_right (Nat.le_refl _), Nat.sub_self]; rfl
  have hpre : PreS s H (va_Pc [.ref q] (PK g q H.size o)) [.ref q] := ⟨pk_blind, fun U hU hWm => by
    subst hU
    refine ⟨rfl, rfl, fun k x hk => ?_, hF.warm hWm, hAO.warm hWm.alike⟩
    have h1 : k < 1 := (List.getElem?_eq_some_iff.mp hk).1
    rw [show k = 0 by omega] at hk
    cases hk
    exact Z.1 _ _ hlast⟩
  have hfree : ∀ x, Ak q H.size x → A x := fun x h => h.elim (fun e => e ▸ Z.2.1.2 _ _ hlast) (fun h => hA _ (Nat.le_trans Z.2.2.1 h))
  have hrun : va_Run p l e R s m args below meth c H locs cells slots mc ms (F0 m pc ls (.ref q :: rest)) rest (va_Qv (fun ad : Nat → Nat => ad 0 = q) (fun ad t => va_P g.1 vwCl (k (g.1, g.2.1, ad)) t.heap ∧ va_D (Ak q H.size) (k (g.1, g.2.1, ad))) (Ak q H.size) (Value.ref q :: []).toArray) (Ak q H.size) :=
    va_runI (As := []) S (hM q H.size) ⟨⟨hrm.1, hrm.2.1, hrm.2.2.1, hrm.2.2.2, pay_in hts (goodY hm.1), hcc, hts _ hm.1, hts _ hm.2.2.1, hm.2.2.2.1, parsed hm.2.2.2.2.1, hts _ hlk⟩, hm.2.2.2.2.2, hts _ hm.2.1⟩ hpre rfl rfl hsz rfl hW hdg hf
  refine va_callv hrun Z.2.2 (fun x _ h => hfree x h) hfree (fun ad t H1 locs1 ht _ hp hB _ hk1 hS => ?_)
  obtain ⟨hP1, hD1⟩ := hB
  rw [ht] at hP1
  obtain ⟨hP2, hD2⟩ := k_join hA Z hP1 hD1 hk1
  exact kk ad H1 locs1 hp ⟨hP2, hD2, hS⟩
end LI
theorem cls_known {s : State} {args : Array Value} (hts : ∀ w ∈ wsA, w.before args s = true) : ∃ (dC : Nat → ClassId) (dI : Nat → Nat → Nat), ∀ (k : Nat) (q : vw_C), vwCl[k]? = some q → u_Kn s q.1 q.2.1 q.2.2 (dC k) (dI k) := by
  have h : ∀ k : Nat, ∃ (cC : ClassId) (iS : Nat → Nat), ∀ q : vw_C, vwCl[k]? = some q → u_Kn s q.1 q.2.1 q.2.2 cC iS := by
    intro k
    match k with
    | 0 => obtain ⟨c0, i0, h0⟩ := u_known (C := RX0) (T := TX0) (N := 6) (n := 6) hts inlX0 (hts _ mw_265); exact ⟨c0, i0, fun q h => by cases h; exact h0⟩
    | 1 => obtain ⟨c0, i0, h0⟩ := u_known (C := RX1) (T := TX1) (N := 7) (n := 7) hts inlX1 (hts _ mw_152); exact ⟨c0, i0, fun q h => by cases h; exact h0⟩
    | 2 => obtain ⟨c0, i0, h0⟩ := u_known (C := RX2) (T := TX2) (N := 1) (n := 1) hts inlX2 (hts _ mw_292); exact ⟨c0, i0, fun q h => by cases h; exact h0⟩
    | 3 => obtain ⟨c0, i0, h0⟩ := u_known (C := RX3) (T := TX3) (N := 8) (n := 8) hts inlX3 (hts _ mw_212); exact ⟨c0, i0, fun q h => by cases h; exact h0⟩
    | 4 => obtain ⟨c0, i0, h0⟩ := u_known (C := RX4) (T := TX4) (N := 2) (n := 2) hts inlX4 (hts _ mw_146); exact ⟨c0, i0, fun q h => by cases h; exact h0⟩
    | 5 => obtain ⟨c0, i0, h0⟩ := u_known (C := RX5) (T := TX5) (N := 5) (n := 5) hts inlX5 (hts _ mw_120); exact ⟨c0, i0, fun q h => by cases h; exact h0⟩
    | 6 => obtain ⟨c0, i0, h0⟩ := u_known (C := RX6) (T := TX6) (N := 2) (n := 2) hts inlX6 (hts _ mw_204); exact ⟨c0, i0, fun q h => by cases h; exact h0⟩
    | 7 => obtain ⟨c0, i0, h0⟩ := u_known (C := RX7) (T := TX7) (N := 7) (n := 7) hts inlX7 (hts _ mw_112); exact ⟨c0, i0, fun q h => by cases h; exact h0⟩
    | 8 => obtain ⟨c0, i0, h0⟩ := u_known (C := RX8) (T := TX8) (N := 37) (n := 37) hts inlX8 (hts _ mw_812); exact ⟨c0, i0, fun q h => by cases h; exact h0⟩
    | k + 9 => exact ⟨0, fun _ => 0, fun q h => by simp at h⟩
  exact ⟨fun k => Classical.choose (h k), fun k => Classical.choose (Classical.choose_spec (h k)), fun k => Classical.choose_spec (Classical.choose_spec (h k))⟩
set_option maxHeartbeats 8000000 in
set_option maxRecDepth 100000 in
/-- the law from its entry, given that its function says 1 -/
theorem start_open {p : Program} {e : Env} {s : State} {m : MethodId} {below : List Frame} {meth : Method} {c : Code} (l : Launch) {b L : Nat} {xs : Nat → Int32} (hpure : ∃ n, f_law xs L n 0 st0 st0 = some 1) (C0 : lw_At p s m meth c b L xs) : W p l e room_1 s m #[Value.ref b] below meth c s.heap [] 0 0 (lw_Z below #[Value.ref b] s) (entryFrame m ([Value.ref b] : List Value).toArray 4) := by
  obtain ⟨hx, hb, hr, hml, hown, hts0, hX, hbl, hlocks, hgv⟩ := id C0
  have hts : ∀ w ∈ wsA, w.before #[Value.ref b] s = true := fun w h => hts0 w (wsA_in h)
  have hA : ∀ q : Nat, s.heap.size ≤ q → A0 s q := fun _ h => h
  obtain ⟨dC, dI, hKc⟩ := cls_known hts
  obtain ⟨cI, hI1, hI2⟩ := arr_prim (fun _ h => by cases h) (hts _ mw_144)
  obtain ⟨cZ, hZ1, hZ2⟩ := arr_prim (fun _ h => by cases h) (hts _ mw_929)
  obtain ⟨cR, hR1, hR2⟩ := arr_arr (hts0 _ tw_aoa)
  obtain ⟨cQ, hQ1, hQ2⟩ := arr_obj (hts0 _ tw_aoo)
  have hFix : Fix ((dC, dI), (cI, cR, cQ, cZ), fun _ => 0) s := by
    refine ⟨⟨hKc, fun k q hk => ?_⟩, fun w hw => ?_⟩
    · match k, hk with
      | 0, hk => cases hk; exact ⟨hI1, hI2⟩
      | 1, hk => cases hk; exact ⟨hR1, hR2⟩
      | 2, hk => cases hk; exact ⟨hQ1, hQ2⟩
      | 3, hk => cases hk; exact ⟨hZ1, hZ2⟩
      | k + 4, hk => simp at hk
    · have h1 := hts0 w (nest_tbl w hw)
      have h2 := nestW_ok w hw
      cases w <;> first | exact va_Nw.of rfl h1 | cases h2
  have hAO : AOv s := ⟨hts0 _ tw_aoa, hts0 _ tw_aoo⟩
  have hs := flat_of_before _ hgv
  have hSta : Sta (A0 s) s s.heap := by
    refine ⟨?_, ?_, ?_, ?_⟩
    · exact tab_of (by decide) (hts0 _ tw_ls0) (hts0 _ tw_ini) (hs _ (by decide +kernel)) (hs _ (by decide +kernel)) (fun j hj => match j, hj with | 0, _ => hs _ (by decide +kernel) | 1, _ => hs _ (by decide +kernel) | 2, _ => hs _ (by decide +kernel) | 3, _ => hs _ (by decide +kernel))
    · exact tab_of (by decide) (hts0 _ tw_ls1) (hts0 _ tw_ini) (hs _ (by decide +kernel)) (hs _ (by decide +kernel)) (fun j hj => match j, hj with | 0, _ => hs _ (by decide +kernel) | 1, _ => hs _ (by decide +kernel) | 2, _ => hs _ (by decide +kernel) | 3, _ => hs _ (by decide +kernel))
    · exact tab_of (by decide) (hts0 _ tw_ls2) (hts0 _ tw_ini) (hs _ (by decide +kernel)) (hs _ (by decide +kernel)) (lt_s (lt_s (lt_s (lt_s (lt_s (lt_s (lt_s (lt_s (lt_s (lt_s (lt_s (lt_s (lt_s (lt_s (lt_s (lt_s lt_0 (hs _ (by decide +kernel))) (hs _ (by decide +kernel))) (hs _ (by decide +kernel))) (hs _ (by decide +kernel))) (hs _ (by decide +kernel))) (hs _ (by decide +kernel))) (hs _ (by decide +kernel))) (hs _ (by decide +kernel))) (hs _ (by decide +kernel))) (hs _ (by decide +kernel))) (hs _ (by decide +kernel))) (hs _ (by decide +kernel))) (hs _ (by decide +kernel))) (hs _ (by decide +kernel))) (hs _ (by decide +kernel))) (hs _ (by decide +kernel)))
    · exact tab_of (by decide) (hts0 _ tw_ls3) (hts0 _ tw_ini) (hs _ (by decide +kernel)) (hs _ (by decide +kernel)) (lt_s (lt_s (lt_s (lt_s (lt_s (lt_s (lt_s (lt_s (lt_s (lt_s (lt_s (lt_s (lt_s (lt_s (lt_s (lt_s lt_0 (hs _ (by decide +kernel))) (hs _ (by decide +kernel))) (hs _ (by decide +kernel))) (hs _ (by decide +kernel))) (hs _ (by decide +kernel))) (hs _ (by decide +kernel))) (hs _ (by decide +kernel))) (hs _ (by decide +kernel))) (hs _ (by decide +kernel))) (hs _ (by decide +kernel))) (hs _ (by decide +kernel))) (hs _ (by decide +kernel))) (hs _ (by decide +kernel))) (hs _ (by decide +kernel))) (hs _ (by decide +kernel))) (hs _ (by decide +kernel)))
  have S : CallFix p m c code 4 s #[Value.ref b] wsA R_law := ⟨hx, hb, hml, hown, hts⟩
  have hS : va_S (A0 s) s.heap s.heap [] := va_S.rf
  have hP : va_P (dC, dI) vwCl [] s.heap := fun k q h => by simp at h
  have hD : va_D (A0 s) [] := ⟨fun i j p q h => by simp at h, fun k q h => by simp at h⟩
  have hl := lv_entry ([.ref b]) (n := 4) (Nat.le_of_ble_eq_true rfl)
  rw [lg_entry_eq]
  generalize (lg_sl ([.ref b]) ++ List.replicate (4 - (lg_sl ([.ref b])).length) Slot.unset).toArray = ls at hl ⊢
  have hl : lv_has ls 4 [(0, .ref b)] := hl
  refine va_new (ci := 7) (fs := [.null, .null, .null, .null, .null, .null, .int 0]) (C := RX7) (T := TX7) (N := 7) hx hb hts inlX7 tyX7 tyX7_ok hown (hts _ mw_111) (hts _ mw_112) (hts _ mw_98) hFix.1 hP hD hS hA rfl (fun j hj => by rcases (show j = 0 ∨ j = 1 ∨ j = 2 ∨ j = 3 ∨ j = 4 ∨ j = 5 ∨ j = 6 by omega) with rfl | rfl | rfl | rfl | rfl | rfl | rfl <;> rfl) (Nat.le_of_ble_eq_true rfl) (Nat.le_of_ble_eq_true rfl) dL_law_0 (fun q0 H hP hD hS => ?_)
  refine lv_dup hx hb dL_law_3 rfl ?_
  refine l_call (pre := []) (g := ((dC, dI), (cI, cR, cQ, cZ), fun _ => 0)) S hFix hAO hA ⟨hP, hD, hS⟩ (n_X7 l) mi_X7 mw_113 ⟨rfl, rfl, by decide, by decide⟩ ⟨Nat.le_of_ble_eq_true rfl, Nat.le_of_ble_eq_true rfl⟩ hl.1 (Nat.le_of_ble_eq_true rfl) dL_law_4 (fun ad H locs hq Zn => ?_)
  subst hq
  refine lv_astore_n (lv' := [(1, .ref (ad 0)), (0, .ref b)]) hx hb dL_law_7 rfl hl (by decide) rfl (fun ls hl => ?_)
  refine va_new (ci := 8) (fs := [.int 0, .null, .null, .null, .null, .int 0, .null, .null, .int 0, .null, .null, .null, .null, .int 0, .null, .int 0, .null, .long 0, .null, .int 0, .int 0, .int 0, .int 0, .int 0, .int 0, .int 0, .null, .int 0, .null, .null, .null, .null, .int 0, .null, .null, .int 0, .null]) (C := RX8) (T := TX8) (N := 37) hx hb hts inlX8 tyX8 tyX8_ok hown (hts _ mw_811) (hts _ mw_812) (hts _ mw_106) hFix.1 Zn.1 Zn.2.1 Zn.2.2 hA rfl (fun j hj => by rcases (show j = 0 ∨ j = 1 ∨ j = 2 ∨ j = 3 ∨ j = 4 ∨ j = 5 ∨ j = 6 ∨ j = 7 ∨ j = 8 ∨ j = 9 ∨ j = 10 ∨ j = 11 ∨ j = 12 ∨ j = 13 ∨ j = 14 ∨ j = 15 ∨ j = 16 ∨ j = 17 ∨ j = 18 ∨ j = 19 ∨ j = 20 ∨ j = 21 ∨ j = 22 ∨ j = 23 ∨ j = 24 ∨ j = 25 ∨ j = 26 ∨ j = 27 ∨ j = 28 ∨ j = 29 ∨ j = 30 ∨ j = 31 ∨ j = 32 ∨ j = 33 ∨ j = 34 ∨ j = 35 ∨ j = 36 by omega) with rfl | rfl | rfl | rfl | rfl | rfl | rfl | rfl | rfl | rfl | rfl | rfl | rfl | rfl | rfl | rfl | rfl | rfl | rfl | rfl | rfl | rfl | rfl | rfl | rfl | rfl | rfl | rfl | rfl | rfl | rfl | rfl | rfl | rfl | rfl | rfl | rfl <;> rfl) (Nat.le_of_ble_eq_true rfl) (Nat.le_of_ble_eq_true rfl) dL_law_8 (fun q1 H hP hD hS => ?_)
  refine lv_dup hx hb dL_law_11 rfl ?_
  refine l_call (g := ((dC, dI), (cI, cR, cQ, cZ), fun _ => 0)) S hFix hAO hA ⟨hP, hD, hS⟩ (n_X8 l) mi_X8 mw_813 ⟨rfl, rfl, by decide, by decide⟩ ⟨Nat.le_of_ble_eq_true rfl, Nat.le_of_ble_eq_true rfl⟩ hl.1 (Nat.le_of_ble_eq_true rfl) dL_law_12 (fun ad' H locs hq Zm => ?_)
  subst hq
  refine lv_astore_n (lv' := [(2, .ref (ad' 0)), (1, .ref (ad 0)), (0, .ref b)]) hx hb dL_law_15 rfl hl (by decide) rfl (fun ls hl => ?_)
  refine lv_iconst (v := 0) hx hb dL_law_16 (by decide) ?_
  refine lv_istore_n (lv' := [(3, .int 0), (2, .ref (ad' 0)), (1, .ref (ad 0)), (0, .ref b)]) hx hb dL_law_17 rfl hl (by decide) rfl (fun ls hl => ?_)
  obtain ⟨Z, hdx, hdis⟩ := two_worlds (s := s) (g := ((dC, dI), (cI, cR, cQ, cZ), ad)) (g' := ((dC, dI), (cI, cR, cQ, cZ), ad')) (H := H) (locs := locs) rfl Zm.1 Zm.2.1 Zm.2.2
  obtain ⟨n, hn⟩ := hpure
  refine W.widen (k := 600000) (n := 7302250) (Nat.le_of_ble_eq_true rfl) (Nat.le_of_ble_eq_true rfl) ?_
  exact b_law (g := ((dC, dI), (cI, cR, cQ, cZ), ad)) (g' := ((dC, dI), (cI, cR, cQ, cZ), ad')) ⟨C0, ⟨hFix, hFix⟩, hSta, hdx, hdis⟩ n 0 st0 st0 H locs ls Z (lv_sub hl [3, 2, 1, 0] rfl) hn
