def wsA : List Cond := lw_tbl.filter goodWord
theorem mem_A {w : Cond} (h : w ∈ lw_tbl) (g : goodWord w = true) : w ∈ wsA := List.mem_filter.mpr ⟨h, g⟩
theorem wsA_in {w : Cond} (h : w ∈ wsA) : w ∈ lw_tbl := (List.mem_filter.mp h).1
theorem u_all {C : String} {T : u_T} {N : Nat} {Ts : List Cond} (h : ∀ k, k < N → u_lay C T k ∈ Ts) : ∀ x ∈ u_ws C T N, x ∈ Ts := by
  intro x hx
  obtain ⟨k, hk, rfl⟩ := List.mem_map.mp hx
  exact h k (List.mem_range.mp hk)
theorem mw_0 : (.selects RX5 yX5_append yX5_append : Cond) ∈ wsA := mem_A (List.mem_of_getElem? (i := 0) (by decide +kernel)) rfl
theorem mw_1 : (.selects RX5 yX5_empty yX5_empty : Cond) ∈ wsA := mem_A (List.mem_of_getElem? (i := 1) (by decide +kernel)) rfl
theorem mw_2 : (.selects RX4 yX4_readAll yX4_readAll : Cond) ∈ wsA := mem_A (List.mem_of_getElem? (i := 2) (by decide +kernel)) rfl
theorem mw_3 : (.selects RX1 yX1_empty yX1_empty : Cond) ∈ wsA := mem_A (List.mem_of_getElem? (i := 3) (by decide +kernel)) rfl
theorem mw_4 : (.selects RX5 yX5_rewind yX5_rewind : Cond) ∈ wsA := mem_A (List.mem_of_getElem? (i := 4) (by decide +kernel)) rfl
theorem mw_5 : (.selects RX5 yX5_nextToken yX5_nextToken : Cond) ∈ wsA := mem_A (List.mem_of_getElem? (i := 5) (by decide +kernel)) rfl
theorem mw_6 : (.selects RX5 yX5_readWord yX5_readWord : Cond) ∈ wsA := mem_A (List.mem_of_getElem? (i := 6) (by decide +kernel)) rfl
theorem mw_7 : (.selects RX5 yX5_readNumber yX5_readNumber : Cond) ∈ wsA := mem_A (List.mem_of_getElem? (i := 7) (by decide +kernel)) rfl
theorem mw_8 : (.selects RX4 yX4_readItem yX4_readItem : Cond) ∈ wsA := mem_A (List.mem_of_getElem? (i := 8) (by decide +kernel)) rfl
theorem mw_9 : (.selects RX4 yX4_hasRoomFor yX4_hasRoomFor : Cond) ∈ wsA := mem_A (List.mem_of_getElem? (i := 9) (by decide +kernel)) rfl
theorem mw_10 : (.selects RX4 yX4_mayBe yX4_mayBe : Cond) ∈ wsA := mem_A (List.mem_of_getElem? (i := 10) (by decide +kernel)) rfl
theorem mw_11 : (.selects RX4 yX4_tell yX4_tell : Cond) ∈ wsA := mem_A (List.mem_of_getElem? (i := 11) (by decide +kernel)) rfl
theorem mw_12 : (.selects RX1 yX1_addCock yX1_addCock : Cond) ∈ wsA := mem_A (List.mem_of_getElem? (i := 12) (by decide +kernel)) rfl
theorem mw_13 : (.selects RX1 yX1_addOne yX1_addOne : Cond) ∈ wsA := mem_A (List.mem_of_getElem? (i := 13) (by decide +kernel)) rfl
theorem mw_14 : (.selects RX1 yX1_addSmoke yX1_addSmoke : Cond) ∈ wsA := mem_A (List.mem_of_getElem? (i := 14) (by decide +kernel)) rfl
theorem mw_15 : (.selects RX6 yX6_beginWith yX6_beginWith : Cond) ∈ wsA := mem_A (List.mem_of_getElem? (i := 15) (by decide +kernel)) rfl
theorem mw_16 : (.selects RX1 yX1_becomeAs yX1_becomeAs : Cond) ∈ wsA := mem_A (List.mem_of_getElem? (i := 16) (by decide +kernel)) rfl
theorem mw_17 : (.selects RX3 yX3_beginOver yX3_beginOver : Cond) ∈ wsA := mem_A (List.mem_of_getElem? (i := 17) (by decide +kernel)) rfl
theorem mw_18 : (.selects RX0 yX0_drop yX0_drop : Cond) ∈ wsA := mem_A (List.mem_of_getElem? (i := 18) (by decide +kernel)) rfl
theorem mw_19 : (.selects RX7 yX7_isCock yX7_isCock : Cond) ∈ wsA := mem_A (List.mem_of_getElem? (i := 19) (by decide +kernel)) rfl
theorem mw_20 : (.selects RX6 yX6_eyeOf yX6_eyeOf : Cond) ∈ wsA := mem_A (List.mem_of_getElem? (i := 20) (by decide +kernel)) rfl
theorem mw_21 : (.selects RX1 yX1_sideOf yX1_sideOf : Cond) ∈ wsA := mem_A (List.mem_of_getElem? (i := 21) (by decide +kernel)) rfl
theorem mw_22 : (.selects RX3 yX3_isAsked yX3_isAsked : Cond) ∈ wsA := mem_A (List.mem_of_getElem? (i := 22) (by decide +kernel)) rfl
theorem mw_23 : (.selects RX3 yX3_tellingOf yX3_tellingOf : Cond) ∈ wsA := mem_A (List.mem_of_getElem? (i := 23) (by decide +kernel)) rfl
theorem mw_24 : (.selects RX7 yX7_isOne yX7_isOne : Cond) ∈ wsA := mem_A (List.mem_of_getElem? (i := 24) (by decide +kernel)) rfl
theorem mw_25 : (.selects RX1 yX1_cellOf yX1_cellOf : Cond) ∈ wsA := mem_A (List.mem_of_getElem? (i := 25) (by decide +kernel)) rfl
theorem mw_26 : (.selects RX3 yX3_seenByAnyOf yX3_seenByAnyOf : Cond) ∈ wsA := mem_A (List.mem_of_getElem? (i := 26) (by decide +kernel)) rfl
theorem mw_27 : (.selects RX6 yX6_goBy yX6_goBy : Cond) ∈ wsA := mem_A (List.mem_of_getElem? (i := 27) (by decide +kernel)) rfl
theorem mw_28 : (.selects RX3 yX3_rememberHour yX3_rememberHour : Cond) ∈ wsA := mem_A (List.mem_of_getElem? (i := 28) (by decide +kernel)) rfl
theorem mw_29 : (.selects RX3 yX3_remember yX3_remember : Cond) ∈ wsA := mem_A (List.mem_of_getElem? (i := 29) (by decide +kernel)) rfl
theorem mw_30 : (.selects RX3 yX3_loseOldest yX3_loseOldest : Cond) ∈ wsA := mem_A (List.mem_of_getElem? (i := 30) (by decide +kernel)) rfl
theorem mw_31 : (.selects RX6 yX6_seeAllIn yX6_seeAllIn : Cond) ∈ wsA := mem_A (List.mem_of_getElem? (i := 31) (by decide +kernel)) rfl
theorem mw_32 : (.selects RX1 yX1_isSmoky yX1_isSmoky : Cond) ∈ wsA := mem_A (List.mem_of_getElem? (i := 32) (by decide +kernel)) rfl
theorem mw_33 : (.selects RX6 yX6_seeOne yX6_seeOne : Cond) ∈ wsA := mem_A (List.mem_of_getElem? (i := 33) (by decide +kernel)) rfl
theorem mw_34 : (.selects RX6 yX6_canSee yX6_canSee : Cond) ∈ wsA := mem_A (List.mem_of_getElem? (i := 34) (by decide +kernel)) rfl
theorem mw_35 : (.selects RX6 yX6_isLineFree yX6_isLineFree : Cond) ∈ wsA := mem_A (List.mem_of_getElem? (i := 35) (by decide +kernel)) rfl
theorem mw_36 : (.selects RX3 yX3_build yX3_build : Cond) ∈ wsA := mem_A (List.mem_of_getElem? (i := 36) (by decide +kernel)) rfl
theorem mw_37 : (.selects RX3 yX3_amountKnownWith yX3_amountKnownWith : Cond) ∈ wsA := mem_A (List.mem_of_getElem? (i := 37) (by decide +kernel)) rfl
theorem mw_38 : (.selects RX3 yX3_amountSeenBy yX3_amountSeenBy : Cond) ∈ wsA := mem_A (List.mem_of_getElem? (i := 38) (by decide +kernel)) rfl
theorem mw_39 : (.selects RX3 yX3_bringDown yX3_bringDown : Cond) ∈ wsA := mem_A (List.mem_of_getElem? (i := 39) (by decide +kernel)) rfl
theorem mw_40 : (.selects RX3 yX3_undoLatest yX3_undoLatest : Cond) ∈ wsA := mem_A (List.mem_of_getElem? (i := 40) (by decide +kernel)) rfl
theorem mw_41 : (.selects RX3 yX3_returnTo yX3_returnTo : Cond) ∈ wsA := mem_A (List.mem_of_getElem? (i := 41) (by decide +kernel)) rfl
theorem mw_42 : (.selects RX1 yX1_allCocks yX1_allCocks : Cond) ∈ wsA := mem_A (List.mem_of_getElem? (i := 42) (by decide +kernel)) rfl
theorem mw_43 : (.selects RX6 yX6_bestToAsk yX6_bestToAsk : Cond) ∈ wsA := mem_A (List.mem_of_getElem? (i := 43) (by decide +kernel)) rfl
theorem mw_44 : (.selects RX3 yX3_hoursToAsk yX3_hoursToAsk : Cond) ∈ wsA := mem_A (List.mem_of_getElem? (i := 44) (by decide +kernel)) rfl
theorem mw_45 : (.selects RX6 yX6_isBetter yX6_isBetter : Cond) ∈ wsA := mem_A (List.mem_of_getElem? (i := 45) (by decide +kernel)) rfl
theorem mw_46 : (.selects RX6 yX6_viewOf yX6_viewOf : Cond) ∈ wsA := mem_A (List.mem_of_getElem? (i := 46) (by decide +kernel)) rfl
theorem mw_47 : (.selects RX6 yX6_unseenIn yX6_unseenIn : Cond) ∈ wsA := mem_A (List.mem_of_getElem? (i := 47) (by decide +kernel)) rfl
theorem mw_48 : (.selects RX6 yX6_hoursInView yX6_hoursInView : Cond) ∈ wsA := mem_A (List.mem_of_getElem? (i := 48) (by decide +kernel)) rfl
theorem mw_49 : (.selects RX0 yX0_addFaced yX0_addFaced : Cond) ∈ wsA := mem_A (List.mem_of_getElem? (i := 49) (by decide +kernel)) rfl
theorem mw_50 : (.selects RX0 yX0_lawCount yX0_lawCount : Cond) ∈ wsA := mem_A (List.mem_of_getElem? (i := 50) (by decide +kernel)) rfl
theorem mw_51 : (.selects RX0 yX0_lawsFacing yX0_lawsFacing : Cond) ∈ wsA := mem_A (List.mem_of_getElem? (i := 51) (by decide +kernel)) rfl
theorem mw_52 : (.selects RX0 yX0_isLaw yX0_isLaw : Cond) ∈ wsA := mem_A (List.mem_of_getElem? (i := 52) (by decide +kernel)) rfl
theorem mw_53 : (.selects RX0 yX0_firstLaw yX0_firstLaw : Cond) ∈ wsA := mem_A (List.mem_of_getElem? (i := 53) (by decide +kernel)) rfl
theorem mw_54 : (.selects RX0 yX0_bestHourToTry yX0_bestHourToTry : Cond) ∈ wsA := mem_A (List.mem_of_getElem? (i := 54) (by decide +kernel)) rfl
theorem mw_55 : (.selects RX0 yX0_addMet yX0_addMet : Cond) ∈ wsA := mem_A (List.mem_of_getElem? (i := 55) (by decide +kernel)) rfl
theorem mw_56 : (.selects RX0 yX0_wayCount yX0_wayCount : Cond) ∈ wsA := mem_A (List.mem_of_getElem? (i := 56) (by decide +kernel)) rfl
theorem mw_57 : (.selects RX0 yX0_falsesOf yX0_falsesOf : Cond) ∈ wsA := mem_A (List.mem_of_getElem? (i := 57) (by decide +kernel)) rfl
theorem mw_58 : (.selects RX0 yX0_bestWay yX0_bestWay : Cond) ∈ wsA := mem_A (List.mem_of_getElem? (i := 58) (by decide +kernel)) rfl
theorem mw_59 : (.selects RX2 yX2_markAs yX2_markAs : Cond) ∈ wsA := mem_A (List.mem_of_getElem? (i := 59) (by decide +kernel)) rfl
theorem mw_60 : (.selects RX2 yX2_markAsCock yX2_markAsCock : Cond) ∈ wsA := mem_A (List.mem_of_getElem? (i := 60) (by decide +kernel)) rfl
theorem mw_61 : (.selects RX2 yX2_markAsGold yX2_markAsGold : Cond) ∈ wsA := mem_A (List.mem_of_getElem? (i := 61) (by decide +kernel)) rfl
theorem mw_62 : (.selects RX2 yX2_markAsIron yX2_markAsIron : Cond) ∈ wsA := mem_A (List.mem_of_getElem? (i := 62) (by decide +kernel)) rfl
theorem mw_63 : (.selects RX2 yX2_markAsDean yX2_markAsDean : Cond) ∈ wsA := mem_A (List.mem_of_getElem? (i := 63) (by decide +kernel)) rfl
theorem mw_64 : (.selects RX2 yX2_markAsBarn yX2_markAsBarn : Cond) ∈ wsA := mem_A (List.mem_of_getElem? (i := 64) (by decide +kernel)) rfl
theorem mw_65 : (.selects RX2 yX2_markAsZinc yX2_markAsZinc : Cond) ∈ wsA := mem_A (List.mem_of_getElem? (i := 65) (by decide +kernel)) rfl
theorem mw_66 : (.selects RX3 yX3_becomeAs yX3_becomeAs : Cond) ∈ wsA := mem_A (List.mem_of_getElem? (i := 66) (by decide +kernel)) rfl
theorem mw_67 : (.selects RX8 yX8_next yX8_next : Cond) ∈ wsA := mem_A (List.mem_of_getElem? (i := 67) (by decide +kernel)) rfl
theorem mw_68 : (.selects RX8 yX8_letterAt yX8_letterAt : Cond) ∈ wsA := mem_A (List.mem_of_getElem? (i := 68) (by decide +kernel)) rfl
theorem mw_69 : (.selects RX8 yX8_readItem yX8_readItem : Cond) ∈ wsA := mem_A (List.mem_of_getElem? (i := 69) (by decide +kernel)) rfl
theorem mw_70 : (.selects RX8 yX8_mayBegin yX8_mayBegin : Cond) ∈ wsA := mem_A (List.mem_of_getElem? (i := 70) (by decide +kernel)) rfl
theorem mw_71 : (.selects RX8 yX8_readBody yX8_readBody : Cond) ∈ wsA := mem_A (List.mem_of_getElem? (i := 71) (by decide +kernel)) rfl
theorem mw_72 : (.selects RX8 yX8_readRoof yX8_readRoof : Cond) ∈ wsA := mem_A (List.mem_of_getElem? (i := 72) (by decide +kernel)) rfl
theorem mw_73 : (.selects RX8 yX8_takesNumber yX8_takesNumber : Cond) ∈ wsA := mem_A (List.mem_of_getElem? (i := 73) (by decide +kernel)) rfl
theorem mw_74 : (.selects RX8 yX8_readCock yX8_readCock : Cond) ∈ wsA := mem_A (List.mem_of_getElem? (i := 74) (by decide +kernel)) rfl
theorem mw_75 : (.selects RX8 yX8_readOne yX8_readOne : Cond) ∈ wsA := mem_A (List.mem_of_getElem? (i := 75) (by decide +kernel)) rfl
theorem mw_76 : (.selects RX8 yX8_readSmoke yX8_readSmoke : Cond) ∈ wsA := mem_A (List.mem_of_getElem? (i := 76) (by decide +kernel)) rfl
theorem mw_77 : (.selects RX8 yX8_settles yX8_settles : Cond) ∈ wsA := mem_A (List.mem_of_getElem? (i := 77) (by decide +kernel)) rfl
theorem mw_78 : (.selects RX8 yX8_isCock yX8_isCock : Cond) ∈ wsA := mem_A (List.mem_of_getElem? (i := 78) (by decide +kernel)) rfl
theorem mw_79 : (.selects RX8 yX8_eye yX8_eye : Cond) ∈ wsA := mem_A (List.mem_of_getElem? (i := 79) (by decide +kernel)) rfl
theorem mw_80 : (.selects RX8 yX8_isAsked yX8_isAsked : Cond) ∈ wsA := mem_A (List.mem_of_getElem? (i := 80) (by decide +kernel)) rfl
theorem mw_81 : (.selects RX8 yX8_sawBy yX8_sawBy : Cond) ∈ wsA := mem_A (List.mem_of_getElem? (i := 81) (by decide +kernel)) rfl
theorem mw_82 : (.selects RX8 yX8_sawOf yX8_sawOf : Cond) ∈ wsA := mem_A (List.mem_of_getElem? (i := 82) (by decide +kernel)) rfl
theorem mw_83 : (.selects RX8 yX8_isOne yX8_isOne : Cond) ∈ wsA := mem_A (List.mem_of_getElem? (i := 83) (by decide +kernel)) rfl
theorem mw_84 : (.selects RX8 yX8_walks yX8_walks : Cond) ∈ wsA := mem_A (List.mem_of_getElem? (i := 84) (by decide +kernel)) rfl
theorem mw_85 : (.selects RX8 yX8_remembers yX8_remembers : Cond) ∈ wsA := mem_A (List.mem_of_getElem? (i := 85) (by decide +kernel)) rfl
theorem mw_86 : (.selects RX8 yX8_hourGoes yX8_hourGoes : Cond) ∈ wsA := mem_A (List.mem_of_getElem? (i := 86) (by decide +kernel)) rfl
theorem mw_87 : (.selects RX8 yX8_sees yX8_sees : Cond) ∈ wsA := mem_A (List.mem_of_getElem? (i := 87) (by decide +kernel)) rfl
theorem mw_88 : (.selects RX8 yX8_isClear yX8_isClear : Cond) ∈ wsA := mem_A (List.mem_of_getElem? (i := 88) (by decide +kernel)) rfl
theorem mw_89 : (.selects RX8 yX8_isSmoke yX8_isSmoke : Cond) ∈ wsA := mem_A (List.mem_of_getElem? (i := 89) (by decide +kernel)) rfl
theorem mw_90 : (.selects RX8 yX8_knownMuch yX8_knownMuch : Cond) ∈ wsA := mem_A (List.mem_of_getElem? (i := 90) (by decide +kernel)) rfl
theorem mw_91 : (.selects RX8 yX8_all yX8_all : Cond) ∈ wsA := mem_A (List.mem_of_getElem? (i := 91) (by decide +kernel)) rfl
theorem mw_92 : (.selects RX8 yX8_cover yX8_cover : Cond) ∈ wsA := mem_A (List.mem_of_getElem? (i := 92) (by decide +kernel)) rfl
theorem mw_93 : (.selects RX8 yX8_viewOf yX8_viewOf : Cond) ∈ wsA := mem_A (List.mem_of_getElem? (i := 93) (by decide +kernel)) rfl
theorem mw_94 : (.selects RX8 yX8_takes yX8_takes : Cond) ∈ wsA := mem_A (List.mem_of_getElem? (i := 94) (by decide +kernel)) rfl
theorem mw_95 : (.selects RX8 yX8_isLaw yX8_isLaw : Cond) ∈ wsA := mem_A (List.mem_of_getElem? (i := 95) (by decide +kernel)) rfl
theorem mw_96 : (.selects RX8 yX8_wrong yX8_wrong : Cond) ∈ wsA := mem_A (List.mem_of_getElem? (i := 96) (by decide +kernel)) rfl
theorem mw_98 : (.initialized RX7 : Cond) ∈ wsA := mem_A (List.mem_of_getElem? (i := 98) (by decide +kernel)) rfl
theorem mw_99 : (.initialized RX5 : Cond) ∈ wsA := mem_A (List.mem_of_getElem? (i := 99) (by decide +kernel)) rfl
theorem mw_100 : (.initialized RX4 : Cond) ∈ wsA := mem_A (List.mem_of_getElem? (i := 100) (by decide +kernel)) rfl
theorem mw_101 : (.initialized RX1 : Cond) ∈ wsA := mem_A (List.mem_of_getElem? (i := 101) (by decide +kernel)) rfl
theorem mw_102 : (.initialized RX6 : Cond) ∈ wsA := mem_A (List.mem_of_getElem? (i := 102) (by decide +kernel)) rfl
theorem mw_103 : (.initialized RX3 : Cond) ∈ wsA := mem_A (List.mem_of_getElem? (i := 103) (by decide +kernel)) rfl
theorem mw_104 : (.initialized RX0 : Cond) ∈ wsA := mem_A (List.mem_of_getElem? (i := 104) (by decide +kernel)) rfl
theorem mw_105 : (.initialized RX2 : Cond) ∈ wsA := mem_A (List.mem_of_getElem? (i := 105) (by decide +kernel)) rfl
theorem mw_106 : (.initialized RX8 : Cond) ∈ wsA := mem_A (List.mem_of_getElem? (i := 106) (by decide +kernel)) rfl
theorem mw_107 : (.initialized RJ7 : Cond) ∈ wsA := mem_A (List.mem_of_getElem? (i := 107) (by decide +kernel)) rfl
theorem mw_108 : (.initialized "java/lang/System" : Cond) ∈ wsA := mem_A (List.mem_of_getElem? (i := 108) (by decide +kernel)) rfl
theorem mw_109 : (.initialized "java/lang/Math" : Cond) ∈ wsA := mem_A (List.mem_of_getElem? (i := 109) (by decide +kernel)) rfl
theorem mw_110 : (.initialized RJ6 : Cond) ∈ wsA := mem_A (List.mem_of_getElem? (i := 110) (by decide +kernel)) rfl
theorem mw_111 : (.classLink RL 7 RX7 : Cond) ∈ wsA := mem_A (List.mem_of_getElem? (i := 111) (by decide +kernel)) rfl
theorem mw_112 : (.instantiable RX7 7 : Cond) ∈ wsA := mem_A (List.mem_of_getElem? (i := 112) (by decide +kernel)) rfl
theorem mw_113 : (.methodLink RL 9 yX7_init : Cond) ∈ wsA := mem_A (List.mem_of_getElem? (i := 113) (by decide +kernel)) rfl
theorem mw_114 : (.instanceMethod yX7_init : Cond) ∈ wsA := mem_A (List.mem_of_getElem? (i := 114) (by decide +kernel)) rfl
theorem mw_115 : (.code yX7_init cX7_init 1 none : Cond) ∈ wsA := mem_A (List.mem_of_getElem? (i := 115) (by decide +kernel)) rfl
theorem mw_116 : (.methodLink RX7 1 objectInit : Cond) ∈ wsA := mem_A (List.mem_of_getElem? (i := 116) (by decide +kernel)) rfl
theorem mw_117 : (.instanceMethod objectInit : Cond) ∈ wsA := mem_A (List.mem_of_getElem? (i := 117) (by decide +kernel)) rfl
theorem mw_118 : (.code objectInit ⟨#[0xb1]⟩ 1 none : Cond) ∈ wsA := mem_A (List.mem_of_getElem? (i := 118) (by decide +kernel)) rfl
theorem mw_119 : (.classLink RX7 7 RX5 : Cond) ∈ wsA := mem_A (List.mem_of_getElem? (i := 119) (by decide +kernel)) rfl
theorem mw_120 : (.instantiable RX5 5 : Cond) ∈ wsA := mem_A (List.mem_of_getElem? (i := 120) (by decide +kernel)) rfl
theorem mw_122 : (.instanceMethod yX5_init : Cond) ∈ wsA := mem_A (List.mem_of_getElem? (i := 122) (by decide +kernel)) rfl
theorem mw_123 : (.code yX5_init cX5_init 1 none : Cond) ∈ wsA := mem_A (List.mem_of_getElem? (i := 123) (by decide +kernel)) rfl
theorem mw_124 : (.methodLink RX5 1 objectInit : Cond) ∈ wsA := mem_A (List.mem_of_getElem? (i := 124) (by decide +kernel)) rfl
theorem mw_125 : (.fieldLink RX5 9 "AskedCocks$Script" "bytes" "[I" : Cond) ∈ wsA := mem_A (List.mem_of_getElem? (i := 125) (by decide +kernel)) rfl
theorem mw_126 : (.fieldLink RX5 13 "AskedCocks$Script" "length" "I" : Cond) ∈ wsA := mem_A (List.mem_of_getElem? (i := 126) (by decide +kernel)) rfl
theorem mw_128 : (.fieldLink RX5 17 "AskedCocks$Script" "at" "I" : Cond) ∈ wsA := mem_A (List.mem_of_getElem? (i := 128) (by decide +kernel)) rfl
theorem mw_130 : (.fieldLink RX5 20 "AskedCocks$Script" "tokenStart" "I" : Cond) ∈ wsA := mem_A (List.mem_of_getElem? (i := 130) (by decide +kernel)) rfl
theorem mw_132 : (.fieldLink RX5 23 "AskedCocks$Script" "tokenValue" "I" : Cond) ∈ wsA := mem_A (List.mem_of_getElem? (i := 132) (by decide +kernel)) rfl
theorem mw_144 : (.arrayClass .int : Cond) ∈ wsA := mem_A (List.mem_of_getElem? (i := 144) (by decide +kernel)) rfl
theorem mw_145 : (.classLink RX7 16 RX4 : Cond) ∈ wsA := mem_A (List.mem_of_getElem? (i := 145) (by decide +kernel)) rfl
theorem mw_146 : (.instantiable RX4 2 : Cond) ∈ wsA := mem_A (List.mem_of_getElem? (i := 146) (by decide +kernel)) rfl
theorem mw_148 : (.instanceMethod yX4_init : Cond) ∈ wsA := mem_A (List.mem_of_getElem? (i := 148) (by decide +kernel)) rfl
theorem mw_149 : (.code yX4_init cX4_init 1 none : Cond) ∈ wsA := mem_A (List.mem_of_getElem? (i := 149) (by decide +kernel)) rfl
theorem mw_150 : (.methodLink RX4 3 objectInit : Cond) ∈ wsA := mem_A (List.mem_of_getElem? (i := 150) (by decide +kernel)) rfl
theorem mw_151 : (.classLink RX4 9 RX1 : Cond) ∈ wsA := mem_A (List.mem_of_getElem? (i := 151) (by decide +kernel)) rfl
theorem mw_152 : (.instantiable RX1 7 : Cond) ∈ wsA := mem_A (List.mem_of_getElem? (i := 152) (by decide +kernel)) rfl
theorem mw_154 : (.instanceMethod yX1_init : Cond) ∈ wsA := mem_A (List.mem_of_getElem? (i := 154) (by decide +kernel)) rfl
theorem mw_155 : (.code yX1_init cX1_init 1 none : Cond) ∈ wsA := mem_A (List.mem_of_getElem? (i := 155) (by decide +kernel)) rfl
theorem mw_156 : (.methodLink RX1 3 objectInit : Cond) ∈ wsA := mem_A (List.mem_of_getElem? (i := 156) (by decide +kernel)) rfl
theorem mw_157 : (.classLink RX1 15 "[[I" : Cond) ∈ wsA := mem_A (List.mem_of_getElem? (i := 157) (by decide +kernel)) rfl
theorem mw_159 : (.fieldLink RX1 9 "AskedCocks$Diocese" "roofs" "[I" : Cond) ∈ wsA := mem_A (List.mem_of_getElem? (i := 159) (by decide +kernel)) rfl
theorem mw_162 : (.fieldLink RX1 17 "AskedCocks$Diocese" "cocks" "[[I" : Cond) ∈ wsA := mem_A (List.mem_of_getElem? (i := 162) (by decide +kernel)) rfl
theorem mw_166 : (.fieldLink RX1 20 "AskedCocks$Diocese" "people" "[[I" : Cond) ∈ wsA := mem_A (List.mem_of_getElem? (i := 166) (by decide +kernel)) rfl
theorem mw_168 : (.fieldLink RX1 23 "AskedCocks$Diocese" "smokes" "[[I" : Cond) ∈ wsA := mem_A (List.mem_of_getElem? (i := 168) (by decide +kernel)) rfl
theorem mw_169 : (.fieldLink RX1 32 "AskedCocks$Diocese" "cockCount" "I" : Cond) ∈ wsA := mem_A (List.mem_of_getElem? (i := 169) (by decide +kernel)) rfl
theorem mw_173 : (.fieldLink RX1 36 "AskedCocks$Diocese" "peopleCount" "I" : Cond) ∈ wsA := mem_A (List.mem_of_getElem? (i := 173) (by decide +kernel)) rfl
theorem mw_177 : (.fieldLink RX1 39 "AskedCocks$Diocese" "smokeCount" "I" : Cond) ∈ wsA := mem_A (List.mem_of_getElem? (i := 177) (by decide +kernel)) rfl
theorem mw_195 : (.fieldLink RX4 12 "AskedCocks$Reader" "draft" "LAskedCocks$Diocese;" : Cond) ∈ wsA := mem_A (List.mem_of_getElem? (i := 195) (by decide +kernel)) rfl
theorem mw_197 : (.fieldLink RX4 18 "AskedCocks$Reader" "numbers" "[I" : Cond) ∈ wsA := mem_A (List.mem_of_getElem? (i := 197) (by decide +kernel)) rfl
theorem mw_203 : (.classLink RX7 23 RX6 : Cond) ∈ wsA := mem_A (List.mem_of_getElem? (i := 203) (by decide +kernel)) rfl
theorem mw_204 : (.instantiable RX6 2 : Cond) ∈ wsA := mem_A (List.mem_of_getElem? (i := 204) (by decide +kernel)) rfl
theorem mw_206 : (.instanceMethod yX6_init : Cond) ∈ wsA := mem_A (List.mem_of_getElem? (i := 206) (by decide +kernel)) rfl
theorem mw_207 : (.code yX6_init cX6_init 1 none : Cond) ∈ wsA := mem_A (List.mem_of_getElem? (i := 207) (by decide +kernel)) rfl
theorem mw_208 : (.methodLink RX6 3 objectInit : Cond) ∈ wsA := mem_A (List.mem_of_getElem? (i := 208) (by decide +kernel)) rfl
theorem mw_209 : (.classLink RX6 9 RX1 : Cond) ∈ wsA := mem_A (List.mem_of_getElem? (i := 209) (by decide +kernel)) rfl
theorem mw_211 : (.classLink RX6 18 RX3 : Cond) ∈ wsA := mem_A (List.mem_of_getElem? (i := 211) (by decide +kernel)) rfl
theorem mw_212 : (.instantiable RX3 8 : Cond) ∈ wsA := mem_A (List.mem_of_getElem? (i := 212) (by decide +kernel)) rfl
theorem mw_214 : (.instanceMethod yX3_init : Cond) ∈ wsA := mem_A (List.mem_of_getElem? (i := 214) (by decide +kernel)) rfl
theorem mw_215 : (.code yX3_init cX3_init 1 none : Cond) ∈ wsA := mem_A (List.mem_of_getElem? (i := 215) (by decide +kernel)) rfl
theorem mw_216 : (.methodLink RX3 3 objectInit : Cond) ∈ wsA := mem_A (List.mem_of_getElem? (i := 216) (by decide +kernel)) rfl
theorem mw_217 : (.classLink RX3 15 "[[I" : Cond) ∈ wsA := mem_A (List.mem_of_getElem? (i := 217) (by decide +kernel)) rfl
theorem mw_218 : (.fieldLink RX3 29 "AskedCocks$Present" "hour" "I" : Cond) ∈ wsA := mem_A (List.mem_of_getElem? (i := 218) (by decide +kernel)) rfl
theorem mw_222 : (.fieldLink RX3 33 "AskedCocks$Present" "asked" "I" : Cond) ∈ wsA := mem_A (List.mem_of_getElem? (i := 222) (by decide +kernel)) rfl
theorem mw_225 : (.fieldLink RX3 9 "AskedCocks$Present" "roofs" "[I" : Cond) ∈ wsA := mem_A (List.mem_of_getElem? (i := 225) (by decide +kernel)) rfl
theorem mw_228 : (.fieldLink RX3 17 "AskedCocks$Present" "seen" "[[I" : Cond) ∈ wsA := mem_A (List.mem_of_getElem? (i := 228) (by decide +kernel)) rfl
theorem mw_231 : (.fieldLink RX3 20 "AskedCocks$Present" "deedSorts" "[I" : Cond) ∈ wsA := mem_A (List.mem_of_getElem? (i := 231) (by decide +kernel)) rfl
theorem mw_232 : (.fieldLink RX3 23 "AskedCocks$Present" "deedNumbers" "[I" : Cond) ∈ wsA := mem_A (List.mem_of_getElem? (i := 232) (by decide +kernel)) rfl
theorem mw_233 : (.fieldLink RX3 26 "AskedCocks$Present" "deedRoofs" "[I" : Cond) ∈ wsA := mem_A (List.mem_of_getElem? (i := 233) (by decide +kernel)) rfl
theorem mw_234 : (.fieldLink RX3 36 "AskedCocks$Present" "deeds" "I" : Cond) ∈ wsA := mem_A (List.mem_of_getElem? (i := 234) (by decide +kernel)) rfl
theorem mw_253 : (.fieldLink RX6 12 "AskedCocks$Watch" "told" "LAskedCocks$Diocese;" : Cond) ∈ wsA := mem_A (List.mem_of_getElem? (i := 253) (by decide +kernel)) rfl
theorem mw_256 : (.fieldLink RX6 21 "AskedCocks$Watch" "present" "LAskedCocks$Present;" : Cond) ∈ wsA := mem_A (List.mem_of_getElem? (i := 256) (by decide +kernel)) rfl
theorem mw_264 : (.classLink RX7 30 RX0 : Cond) ∈ wsA := mem_A (List.mem_of_getElem? (i := 264) (by decide +kernel)) rfl
theorem mw_265 : (.instantiable RX0 6 : Cond) ∈ wsA := mem_A (List.mem_of_getElem? (i := 265) (by decide +kernel)) rfl
theorem mw_267 : (.instanceMethod yX0_init : Cond) ∈ wsA := mem_A (List.mem_of_getElem? (i := 267) (by decide +kernel)) rfl
theorem mw_268 : (.code yX0_init cX0_init 1 none : Cond) ∈ wsA := mem_A (List.mem_of_getElem? (i := 268) (by decide +kernel)) rfl
theorem mw_269 : (.methodLink RX0 3 objectInit : Cond) ∈ wsA := mem_A (List.mem_of_getElem? (i := 269) (by decide +kernel)) rfl
theorem mw_270 : (.fieldLink RX0 11 "AskedCocks$Clues" "facedHours" "[I" : Cond) ∈ wsA := mem_A (List.mem_of_getElem? (i := 270) (by decide +kernel)) rfl
theorem mw_271 : (.fieldLink RX0 15 "AskedCocks$Clues" "facedSides" "[I" : Cond) ∈ wsA := mem_A (List.mem_of_getElem? (i := 271) (by decide +kernel)) rfl
theorem mw_272 : (.fieldLink RX0 24 "AskedCocks$Clues" "facedCount" "I" : Cond) ∈ wsA := mem_A (List.mem_of_getElem? (i := 272) (by decide +kernel)) rfl
theorem mw_274 : (.fieldLink RX0 18 "AskedCocks$Clues" "metCells" "[I" : Cond) ∈ wsA := mem_A (List.mem_of_getElem? (i := 274) (by decide +kernel)) rfl
theorem mw_275 : (.fieldLink RX0 21 "AskedCocks$Clues" "metHours" "[I" : Cond) ∈ wsA := mem_A (List.mem_of_getElem? (i := 275) (by decide +kernel)) rfl
theorem mw_276 : (.fieldLink RX0 28 "AskedCocks$Clues" "metCount" "I" : Cond) ∈ wsA := mem_A (List.mem_of_getElem? (i := 276) (by decide +kernel)) rfl
theorem mw_291 : (.classLink RX7 37 RX2 : Cond) ∈ wsA := mem_A (List.mem_of_getElem? (i := 291) (by decide +kernel)) rfl
theorem mw_292 : (.instantiable RX2 1 : Cond) ∈ wsA := mem_A (List.mem_of_getElem? (i := 292) (by decide +kernel)) rfl
theorem mw_294 : (.instanceMethod yX2_init : Cond) ∈ wsA := mem_A (List.mem_of_getElem? (i := 294) (by decide +kernel)) rfl
theorem mw_295 : (.code yX2_init cX2_init 1 none : Cond) ∈ wsA := mem_A (List.mem_of_getElem? (i := 295) (by decide +kernel)) rfl
theorem mw_296 : (.methodLink RX2 3 objectInit : Cond) ∈ wsA := mem_A (List.mem_of_getElem? (i := 296) (by decide +kernel)) rfl
theorem mw_297 : (.fieldLink RX2 31 "AskedCocks$Kinds" "trace" "J" : Cond) ∈ wsA := mem_A (List.mem_of_getElem? (i := 297) (by decide +kernel)) rfl
theorem mw_302 : (.classLink RX7 44 RX3 : Cond) ∈ wsA := mem_A (List.mem_of_getElem? (i := 302) (by decide +kernel)) rfl
theorem mw_305 : (.fieldLink RX7 10 "AskedCocks" "script" "LAskedCocks$Script;" : Cond) ∈ wsA := mem_A (List.mem_of_getElem? (i := 305) (by decide +kernel)) rfl
theorem mw_306 : (.fieldLink RX7 19 "AskedCocks" "reader" "LAskedCocks$Reader;" : Cond) ∈ wsA := mem_A (List.mem_of_getElem? (i := 306) (by decide +kernel)) rfl
theorem mw_307 : (.fieldLink RX7 26 "AskedCocks" "watch" "LAskedCocks$Watch;" : Cond) ∈ wsA := mem_A (List.mem_of_getElem? (i := 307) (by decide +kernel)) rfl
theorem mw_308 : (.fieldLink RX7 33 "AskedCocks" "clues" "LAskedCocks$Clues;" : Cond) ∈ wsA := mem_A (List.mem_of_getElem? (i := 308) (by decide +kernel)) rfl
theorem mw_309 : (.fieldLink RX7 40 "AskedCocks" "kinds" "LAskedCocks$Kinds;" : Cond) ∈ wsA := mem_A (List.mem_of_getElem? (i := 309) (by decide +kernel)) rfl
theorem mw_310 : (.fieldLink RX7 47 "AskedCocks" "images" "[LAskedCocks$Present;" : Cond) ∈ wsA := mem_A (List.mem_of_getElem? (i := 310) (by decide +kernel)) rfl
theorem mw_311 : (.fieldLink RX7 81 "AskedCocks" "imagesKept" "I" : Cond) ∈ wsA := mem_A (List.mem_of_getElem? (i := 311) (by decide +kernel)) rfl
theorem mw_327 : (.methodLink RL 13 yX7_type : Cond) ∈ wsA := mem_A (List.mem_of_getElem? (i := 327) (by decide +kernel)) rfl
theorem mw_328 : (.instanceMethod yX7_type : Cond) ∈ wsA := mem_A (List.mem_of_getElem? (i := 328) (by decide +kernel)) rfl
theorem mw_329 : (.selects RX7 yX7_type yX7_type : Cond) ∈ wsA := mem_A (List.mem_of_getElem? (i := 329) (by decide +kernel)) rfl
theorem mw_330 : (.code yX7_type cX7_type 2 (some .int) : Cond) ∈ wsA := mem_A (List.mem_of_getElem? (i := 330) (by decide +kernel)) rfl
theorem mw_331 : (.methodLink RX7 51 yX7_isWithin : Cond) ∈ wsA := mem_A (List.mem_of_getElem? (i := 331) (by decide +kernel)) rfl
theorem mw_332 : (.static yX7_isWithin : Cond) ∈ wsA := mem_A (List.mem_of_getElem? (i := 332) (by decide +kernel)) rfl
theorem mw_333 : (.code yX7_isWithin cX7_isWithin 3 (some .boolean) : Cond) ∈ wsA := mem_A (List.mem_of_getElem? (i := 333) (by decide +kernel)) rfl
theorem mw_336 : (.instanceMethod yX5_append : Cond) ∈ wsA := mem_A (List.mem_of_getElem? (i := 336) (by decide +kernel)) rfl
theorem mw_337 : (.code yX5_append cX5_append 2 (some .boolean) : Cond) ∈ wsA := mem_A (List.mem_of_getElem? (i := 337) (by decide +kernel)) rfl
theorem mw_338 : (.methodLink RL 18 yX7_clear : Cond) ∈ wsA := mem_A (List.mem_of_getElem? (i := 338) (by decide +kernel)) rfl
theorem mw_339 : (.instanceMethod yX7_clear : Cond) ∈ wsA := mem_A (List.mem_of_getElem? (i := 339) (by decide +kernel)) rfl
theorem mw_340 : (.selects RX7 yX7_clear yX7_clear : Cond) ∈ wsA := mem_A (List.mem_of_getElem? (i := 340) (by decide +kernel)) rfl
theorem mw_341 : (.code yX7_clear cX7_clear 2 (some .int) : Cond) ∈ wsA := mem_A (List.mem_of_getElem? (i := 341) (by decide +kernel)) rfl
theorem mw_344 : (.instanceMethod yX5_empty : Cond) ∈ wsA := mem_A (List.mem_of_getElem? (i := 344) (by decide +kernel)) rfl
theorem mw_345 : (.code yX5_empty cX5_empty 1 none : Cond) ∈ wsA := mem_A (List.mem_of_getElem? (i := 345) (by decide +kernel)) rfl
theorem mw_346 : (.methodLink RL 23 yX7_diocese : Cond) ∈ wsA := mem_A (List.mem_of_getElem? (i := 346) (by decide +kernel)) rfl
theorem mw_347 : (.instanceMethod yX7_diocese : Cond) ∈ wsA := mem_A (List.mem_of_getElem? (i := 347) (by decide +kernel)) rfl
theorem mw_348 : (.selects RX7 yX7_diocese yX7_diocese : Cond) ∈ wsA := mem_A (List.mem_of_getElem? (i := 348) (by decide +kernel)) rfl
theorem mw_349 : (.code yX7_diocese cX7_diocese 2 (some .int) : Cond) ∈ wsA := mem_A (List.mem_of_getElem? (i := 349) (by decide +kernel)) rfl
theorem mw_352 : (.instanceMethod yX4_readAll : Cond) ∈ wsA := mem_A (List.mem_of_getElem? (i := 352) (by decide +kernel)) rfl
theorem mw_353 : (.code yX4_readAll cX4_readAll 4 (some .int) : Cond) ∈ wsA := mem_A (List.mem_of_getElem? (i := 353) (by decide +kernel)) rfl
theorem mw_356 : (.instanceMethod yX1_empty : Cond) ∈ wsA := mem_A (List.mem_of_getElem? (i := 356) (by decide +kernel)) rfl
theorem mw_357 : (.code yX1_empty cX1_empty 1 none : Cond) ∈ wsA := mem_A (List.mem_of_getElem? (i := 357) (by decide +kernel)) rfl
theorem mw_358 : (.methodLink RX1 26 yJ7_fill_53178 : Cond) ∈ wsA := mem_A (List.mem_of_getElem? (i := 358) (by decide +kernel)) rfl
theorem mw_359 : (.static yJ7_fill_53178 : Cond) ∈ wsA := mem_A (List.mem_of_getElem? (i := 359) (by decide +kernel)) rfl
theorem mw_360 : (.code yJ7_fill_53178 cJ7_fill_53178 4 none : Cond) ∈ wsA := mem_A (List.mem_of_getElem? (i := 360) (by decide +kernel)) rfl
theorem mw_363 : (.instanceMethod yX5_rewind : Cond) ∈ wsA := mem_A (List.mem_of_getElem? (i := 363) (by decide +kernel)) rfl
theorem mw_364 : (.code yX5_rewind cX5_rewind 1 none : Cond) ∈ wsA := mem_A (List.mem_of_getElem? (i := 364) (by decide +kernel)) rfl
theorem mw_367 : (.instanceMethod yX5_nextToken : Cond) ∈ wsA := mem_A (List.mem_of_getElem? (i := 367) (by decide +kernel)) rfl
theorem mw_368 : (.code yX5_nextToken cX5_nextToken 2 (some .int) : Cond) ∈ wsA := mem_A (List.mem_of_getElem? (i := 368) (by decide +kernel)) rfl
theorem mw_369 : (.methodLink RX5 26 yX5_isLetter : Cond) ∈ wsA := mem_A (List.mem_of_getElem? (i := 369) (by decide +kernel)) rfl
theorem mw_370 : (.static yX5_isLetter : Cond) ∈ wsA := mem_A (List.mem_of_getElem? (i := 370) (by decide +kernel)) rfl
theorem mw_371 : (.code yX5_isLetter cX5_isLetter 1 (some .boolean) : Cond) ∈ wsA := mem_A (List.mem_of_getElem? (i := 371) (by decide +kernel)) rfl
theorem mw_372 : (.methodLink RX5 30 yX5_readWord : Cond) ∈ wsA := mem_A (List.mem_of_getElem? (i := 372) (by decide +kernel)) rfl
theorem mw_374 : (.instanceMethod yX5_readWord : Cond) ∈ wsA := mem_A (List.mem_of_getElem? (i := 374) (by decide +kernel)) rfl
theorem mw_375 : (.code yX5_readWord cX5_readWord 2 (some .int) : Cond) ∈ wsA := mem_A (List.mem_of_getElem? (i := 375) (by decide +kernel)) rfl
theorem mw_376 : (.methodLink RX5 34 yX5_isDigit : Cond) ∈ wsA := mem_A (List.mem_of_getElem? (i := 376) (by decide +kernel)) rfl
theorem mw_377 : (.static yX5_isDigit : Cond) ∈ wsA := mem_A (List.mem_of_getElem? (i := 377) (by decide +kernel)) rfl
theorem mw_378 : (.code yX5_isDigit cX5_isDigit 1 (some .boolean) : Cond) ∈ wsA := mem_A (List.mem_of_getElem? (i := 378) (by decide +kernel)) rfl
theorem mw_379 : (.methodLink RX5 37 yX5_readNumber : Cond) ∈ wsA := mem_A (List.mem_of_getElem? (i := 379) (by decide +kernel)) rfl
theorem mw_381 : (.instanceMethod yX5_readNumber : Cond) ∈ wsA := mem_A (List.mem_of_getElem? (i := 381) (by decide +kernel)) rfl
theorem mw_382 : (.code yX5_readNumber cX5_readNumber 2 (some .int) : Cond) ∈ wsA := mem_A (List.mem_of_getElem? (i := 382) (by decide +kernel)) rfl
theorem mw_383 : (.methodLink RX4 34 yX4_readItem : Cond) ∈ wsA := mem_A (List.mem_of_getElem? (i := 383) (by decide +kernel)) rfl
theorem mw_385 : (.instanceMethod yX4_readItem : Cond) ∈ wsA := mem_A (List.mem_of_getElem? (i := 385) (by decide +kernel)) rfl
theorem mw_386 : (.code yX4_readItem cX4_readItem 4 (some .boolean) : Cond) ∈ wsA := mem_A (List.mem_of_getElem? (i := 386) (by decide +kernel)) rfl
theorem mw_387 : (.methodLink RX4 45 yX4_itemOf : Cond) ∈ wsA := mem_A (List.mem_of_getElem? (i := 387) (by decide +kernel)) rfl
theorem mw_388 : (.static yX4_itemOf : Cond) ∈ wsA := mem_A (List.mem_of_getElem? (i := 388) (by decide +kernel)) rfl
theorem mw_389 : (.code yX4_itemOf cX4_itemOf 2 (some .int) : Cond) ∈ wsA := mem_A (List.mem_of_getElem? (i := 389) (by decide +kernel)) rfl
theorem mw_390 : (.fieldLink RX4 64 "AskedCocks$Reader" "LETTERS" "[C" : Cond) ∈ wsA := mem_A (List.mem_of_getElem? (i := 390) (by decide +kernel)) rfl
theorem mw_392 : (.methodLink RX4 49 yX4_hasRoomFor : Cond) ∈ wsA := mem_A (List.mem_of_getElem? (i := 392) (by decide +kernel)) rfl
theorem mw_394 : (.instanceMethod yX4_hasRoomFor : Cond) ∈ wsA := mem_A (List.mem_of_getElem? (i := 394) (by decide +kernel)) rfl
theorem mw_395 : (.code yX4_hasRoomFor cX4_hasRoomFor 2 (some .boolean) : Cond) ∈ wsA := mem_A (List.mem_of_getElem? (i := 395) (by decide +kernel)) rfl
theorem mw_396 : (.fieldLink RX4 53 "AskedCocks$Reader" "NUMBERS" "[I" : Cond) ∈ wsA := mem_A (List.mem_of_getElem? (i := 396) (by decide +kernel)) rfl
theorem mw_398 : (.methodLink RX4 56 yX4_mayBe : Cond) ∈ wsA := mem_A (List.mem_of_getElem? (i := 398) (by decide +kernel)) rfl
theorem mw_400 : (.instanceMethod yX4_mayBe : Cond) ∈ wsA := mem_A (List.mem_of_getElem? (i := 400) (by decide +kernel)) rfl
theorem mw_401 : (.code yX4_mayBe cX4_mayBe 4 (some .boolean) : Cond) ∈ wsA := mem_A (List.mem_of_getElem? (i := 401) (by decide +kernel)) rfl
theorem mw_402 : (.fieldLink RX4 77 "AskedCocks$Reader" "LOWEST" "[I" : Cond) ∈ wsA := mem_A (List.mem_of_getElem? (i := 402) (by decide +kernel)) rfl
theorem mw_404 : (.fieldLink RX4 80 "AskedCocks$Reader" "HIGHEST" "[I" : Cond) ∈ wsA := mem_A (List.mem_of_getElem? (i := 404) (by decide +kernel)) rfl
theorem mw_407 : (.methodLink RX4 60 yX4_tell : Cond) ∈ wsA := mem_A (List.mem_of_getElem? (i := 407) (by decide +kernel)) rfl
theorem mw_409 : (.instanceMethod yX4_tell : Cond) ∈ wsA := mem_A (List.mem_of_getElem? (i := 409) (by decide +kernel)) rfl
theorem mw_410 : (.code yX4_tell cX4_tell 2 none : Cond) ∈ wsA := mem_A (List.mem_of_getElem? (i := 410) (by decide +kernel)) rfl
theorem mw_413 : (.instanceMethod yX1_addCock : Cond) ∈ wsA := mem_A (List.mem_of_getElem? (i := 413) (by decide +kernel)) rfl
theorem mw_414 : (.code yX1_addCock cX1_addCock 2 none : Cond) ∈ wsA := mem_A (List.mem_of_getElem? (i := 414) (by decide +kernel)) rfl
theorem mw_415 : (.methodLink RX1 42 arraycopyName : Cond) ∈ wsA := mem_A (List.mem_of_getElem? (i := 415) (by decide +kernel)) rfl
theorem mw_416 : (.static arraycopyName : Cond) ∈ wsA := mem_A (List.mem_of_getElem? (i := 416) (by decide +kernel)) rfl
theorem mw_417 : (.native arraycopyName : Cond) ∈ wsA := mem_A (List.mem_of_getElem? (i := 417) (by decide +kernel)) rfl
theorem mw_420 : (.instanceMethod yX1_addOne : Cond) ∈ wsA := mem_A (List.mem_of_getElem? (i := 420) (by decide +kernel)) rfl
theorem mw_421 : (.code yX1_addOne cX1_addOne 2 none : Cond) ∈ wsA := mem_A (List.mem_of_getElem? (i := 421) (by decide +kernel)) rfl
theorem mw_424 : (.instanceMethod yX1_addSmoke : Cond) ∈ wsA := mem_A (List.mem_of_getElem? (i := 424) (by decide +kernel)) rfl
theorem mw_425 : (.code yX1_addSmoke cX1_addSmoke 2 none : Cond) ∈ wsA := mem_A (List.mem_of_getElem? (i := 425) (by decide +kernel)) rfl
theorem mw_428 : (.instanceMethod yX6_beginWith : Cond) ∈ wsA := mem_A (List.mem_of_getElem? (i := 428) (by decide +kernel)) rfl
theorem mw_429 : (.code yX6_beginWith cX6_beginWith 2 none : Cond) ∈ wsA := mem_A (List.mem_of_getElem? (i := 429) (by decide +kernel)) rfl
theorem mw_432 : (.instanceMethod yX1_becomeAs : Cond) ∈ wsA := mem_A (List.mem_of_getElem? (i := 432) (by decide +kernel)) rfl
theorem mw_433 : (.code yX1_becomeAs cX1_becomeAs 2 none : Cond) ∈ wsA := mem_A (List.mem_of_getElem? (i := 433) (by decide +kernel)) rfl
theorem mw_435 : (.static yX7_copyRows : Cond) ∈ wsA := mem_A (List.mem_of_getElem? (i := 435) (by decide +kernel)) rfl
theorem mw_436 : (.code yX7_copyRows cX7_copyRows 3 none : Cond) ∈ wsA := mem_A (List.mem_of_getElem? (i := 436) (by decide +kernel)) rfl
theorem mw_437 : (.methodLink RX7 248 Lib.Math.min.name : Cond) ∈ wsA := mem_A (List.mem_of_getElem? (i := 437) (by decide +kernel)) rfl
theorem mw_438 : (.static Lib.Math.min.name : Cond) ∈ wsA := mem_A (List.mem_of_getElem? (i := 438) (by decide +kernel)) rfl
theorem mw_439 : (.code Lib.Math.min.name Lib.Math.min.code 2 (some .int) : Cond) ∈ wsA := mem_A (List.mem_of_getElem? (i := 439) (by decide +kernel)) rfl
theorem mw_440 : (.methodLink RX7 253 arraycopyName : Cond) ∈ wsA := mem_A (List.mem_of_getElem? (i := 440) (by decide +kernel)) rfl
theorem mw_443 : (.instanceMethod yX3_beginOver : Cond) ∈ wsA := mem_A (List.mem_of_getElem? (i := 443) (by decide +kernel)) rfl
theorem mw_444 : (.code yX3_beginOver cX3_beginOver 3 none : Cond) ∈ wsA := mem_A (List.mem_of_getElem? (i := 444) (by decide +kernel)) rfl
theorem mw_445 : (.methodLink RX3 39 arraycopyName : Cond) ∈ wsA := mem_A (List.mem_of_getElem? (i := 445) (by decide +kernel)) rfl
theorem mw_446 : (.methodLink RX3 45 yJ7_fill_53178 : Cond) ∈ wsA := mem_A (List.mem_of_getElem? (i := 446) (by decide +kernel)) rfl
theorem mw_449 : (.instanceMethod yX0_drop : Cond) ∈ wsA := mem_A (List.mem_of_getElem? (i := 449) (by decide +kernel)) rfl
theorem mw_450 : (.code yX0_drop cX0_drop 1 none : Cond) ∈ wsA := mem_A (List.mem_of_getElem? (i := 450) (by decide +kernel)) rfl
theorem mw_451 : (.methodLink RL 27 yX7_roof : Cond) ∈ wsA := mem_A (List.mem_of_getElem? (i := 451) (by decide +kernel)) rfl
theorem mw_452 : (.instanceMethod yX7_roof : Cond) ∈ wsA := mem_A (List.mem_of_getElem? (i := 452) (by decide +kernel)) rfl
theorem mw_453 : (.selects RX7 yX7_roof yX7_roof : Cond) ∈ wsA := mem_A (List.mem_of_getElem? (i := 453) (by decide +kernel)) rfl
theorem mw_454 : (.code yX7_roof cX7_roof 2 (some .int) : Cond) ∈ wsA := mem_A (List.mem_of_getElem? (i := 454) (by decide +kernel)) rfl
theorem mw_455 : (.methodLink RX7 84 yX7_isCell : Cond) ∈ wsA := mem_A (List.mem_of_getElem? (i := 455) (by decide +kernel)) rfl
theorem mw_456 : (.static yX7_isCell : Cond) ∈ wsA := mem_A (List.mem_of_getElem? (i := 456) (by decide +kernel)) rfl
theorem mw_457 : (.code yX7_isCell cX7_isCell 1 (some .boolean) : Cond) ∈ wsA := mem_A (List.mem_of_getElem? (i := 457) (by decide +kernel)) rfl
theorem mw_458 : (.methodLink RL 31 yX7_cock : Cond) ∈ wsA := mem_A (List.mem_of_getElem? (i := 458) (by decide +kernel)) rfl
theorem mw_459 : (.instanceMethod yX7_cock : Cond) ∈ wsA := mem_A (List.mem_of_getElem? (i := 459) (by decide +kernel)) rfl
theorem mw_460 : (.selects RX7 yX7_cock yX7_cock : Cond) ∈ wsA := mem_A (List.mem_of_getElem? (i := 460) (by decide +kernel)) rfl
theorem mw_461 : (.code yX7_cock cX7_cock 3 (some .int) : Cond) ∈ wsA := mem_A (List.mem_of_getElem? (i := 461) (by decide +kernel)) rfl
theorem mw_462 : (.methodLink RX7 95 yX7_isCock : Cond) ∈ wsA := mem_A (List.mem_of_getElem? (i := 462) (by decide +kernel)) rfl
theorem mw_464 : (.instanceMethod yX7_isCock : Cond) ∈ wsA := mem_A (List.mem_of_getElem? (i := 464) (by decide +kernel)) rfl
theorem mw_465 : (.code yX7_isCock cX7_isCock 2 (some .boolean) : Cond) ∈ wsA := mem_A (List.mem_of_getElem? (i := 465) (by decide +kernel)) rfl
theorem mw_468 : (.instanceMethod yX6_eyeOf : Cond) ∈ wsA := mem_A (List.mem_of_getElem? (i := 468) (by decide +kernel)) rfl
theorem mw_469 : (.code yX6_eyeOf cX6_eyeOf 2 (some .int) : Cond) ∈ wsA := mem_A (List.mem_of_getElem? (i := 469) (by decide +kernel)) rfl
theorem mw_472 : (.instanceMethod yX1_sideOf : Cond) ∈ wsA := mem_A (List.mem_of_getElem? (i := 472) (by decide +kernel)) rfl
theorem mw_473 : (.code yX1_sideOf cX1_sideOf 3 (some .int) : Cond) ∈ wsA := mem_A (List.mem_of_getElem? (i := 473) (by decide +kernel)) rfl
theorem mw_475 : (.static yX7_sideBy : Cond) ∈ wsA := mem_A (List.mem_of_getElem? (i := 475) (by decide +kernel)) rfl
theorem mw_476 : (.code yX7_sideBy cX7_sideBy 4 (some .int) : Cond) ∈ wsA := mem_A (List.mem_of_getElem? (i := 476) (by decide +kernel)) rfl
theorem mw_479 : (.instanceMethod yX3_isAsked : Cond) ∈ wsA := mem_A (List.mem_of_getElem? (i := 479) (by decide +kernel)) rfl
theorem mw_480 : (.code yX3_isAsked cX3_isAsked 2 (some .boolean) : Cond) ∈ wsA := mem_A (List.mem_of_getElem? (i := 480) (by decide +kernel)) rfl
theorem mw_482 : (.static yX7_isIn : Cond) ∈ wsA := mem_A (List.mem_of_getElem? (i := 482) (by decide +kernel)) rfl
theorem mw_483 : (.code yX7_isIn cX7_isIn 2 (some .boolean) : Cond) ∈ wsA := mem_A (List.mem_of_getElem? (i := 483) (by decide +kernel)) rfl
theorem mw_486 : (.instanceMethod yX3_tellingOf : Cond) ∈ wsA := mem_A (List.mem_of_getElem? (i := 486) (by decide +kernel)) rfl
theorem mw_487 : (.code yX3_tellingOf cX3_tellingOf 4 (some .int) : Cond) ∈ wsA := mem_A (List.mem_of_getElem? (i := 487) (by decide +kernel)) rfl
theorem mw_488 : (.methodLink RX3 74 yJ6_bitCount_0f7a4 : Cond) ∈ wsA := mem_A (List.mem_of_getElem? (i := 488) (by decide +kernel)) rfl
theorem mw_489 : (.static yJ6_bitCount_0f7a4 : Cond) ∈ wsA := mem_A (List.mem_of_getElem? (i := 489) (by decide +kernel)) rfl
theorem mw_490 : (.code yJ6_bitCount_0f7a4 cJ6_bitCount_0f7a4 1 (some .int) : Cond) ∈ wsA := mem_A (List.mem_of_getElem? (i := 490) (by decide +kernel)) rfl
theorem mw_491 : (.constant RJ6 265 (1431655765) : Cond) ∈ wsA := mem_A (List.mem_of_getElem? (i := 491) (by decide +kernel)) rfl
theorem mw_492 : (.constant RJ6 266 (858993459) : Cond) ∈ wsA := mem_A (List.mem_of_getElem? (i := 492) (by decide +kernel)) rfl
theorem mw_493 : (.constant RJ6 267 (252645135) : Cond) ∈ wsA := mem_A (List.mem_of_getElem? (i := 493) (by decide +kernel)) rfl
theorem mw_494 : (.methodLink RL 36 yX7_one : Cond) ∈ wsA := mem_A (List.mem_of_getElem? (i := 494) (by decide +kernel)) rfl
theorem mw_495 : (.instanceMethod yX7_one : Cond) ∈ wsA := mem_A (List.mem_of_getElem? (i := 495) (by decide +kernel)) rfl
theorem mw_496 : (.selects RX7 yX7_one yX7_one : Cond) ∈ wsA := mem_A (List.mem_of_getElem? (i := 496) (by decide +kernel)) rfl
theorem mw_497 : (.code yX7_one cX7_one 3 (some .int) : Cond) ∈ wsA := mem_A (List.mem_of_getElem? (i := 497) (by decide +kernel)) rfl
theorem mw_498 : (.methodLink RX7 124 yX7_isOne : Cond) ∈ wsA := mem_A (List.mem_of_getElem? (i := 498) (by decide +kernel)) rfl
theorem mw_500 : (.instanceMethod yX7_isOne : Cond) ∈ wsA := mem_A (List.mem_of_getElem? (i := 500) (by decide +kernel)) rfl
theorem mw_501 : (.code yX7_isOne cX7_isOne 2 (some .boolean) : Cond) ∈ wsA := mem_A (List.mem_of_getElem? (i := 501) (by decide +kernel)) rfl
theorem mw_502 : (.constant RX7 127 (-1000000) : Cond) ∈ wsA := mem_A (List.mem_of_getElem? (i := 502) (by decide +kernel)) rfl
theorem mw_505 : (.instanceMethod yX1_cellOf : Cond) ∈ wsA := mem_A (List.mem_of_getElem? (i := 505) (by decide +kernel)) rfl
theorem mw_506 : (.code yX1_cellOf cX1_cellOf 4 (some .int) : Cond) ∈ wsA := mem_A (List.mem_of_getElem? (i := 506) (by decide +kernel)) rfl
theorem mw_508 : (.static yX7_placeBy : Cond) ∈ wsA := mem_A (List.mem_of_getElem? (i := 508) (by decide +kernel)) rfl
theorem mw_509 : (.code yX7_placeBy cX7_placeBy 3 (some .int) : Cond) ∈ wsA := mem_A (List.mem_of_getElem? (i := 509) (by decide +kernel)) rfl
theorem mw_511 : (.methodLink RL 40 yX7_saw : Cond) ∈ wsA := mem_A (List.mem_of_getElem? (i := 511) (by decide +kernel)) rfl
theorem mw_512 : (.instanceMethod yX7_saw : Cond) ∈ wsA := mem_A (List.mem_of_getElem? (i := 512) (by decide +kernel)) rfl
theorem mw_513 : (.selects RX7 yX7_saw yX7_saw : Cond) ∈ wsA := mem_A (List.mem_of_getElem? (i := 513) (by decide +kernel)) rfl
theorem mw_514 : (.code yX7_saw cX7_saw 3 (some .int) : Cond) ∈ wsA := mem_A (List.mem_of_getElem? (i := 514) (by decide +kernel)) rfl
theorem mw_515 : (.methodLink RL 44 yX7_known : Cond) ∈ wsA := mem_A (List.mem_of_getElem? (i := 515) (by decide +kernel)) rfl
theorem mw_516 : (.instanceMethod yX7_known : Cond) ∈ wsA := mem_A (List.mem_of_getElem? (i := 516) (by decide +kernel)) rfl
theorem mw_517 : (.selects RX7 yX7_known yX7_known : Cond) ∈ wsA := mem_A (List.mem_of_getElem? (i := 517) (by decide +kernel)) rfl
theorem mw_518 : (.code yX7_known cX7_known 2 (some .int) : Cond) ∈ wsA := mem_A (List.mem_of_getElem? (i := 518) (by decide +kernel)) rfl
theorem mw_521 : (.instanceMethod yX3_seenByAnyOf : Cond) ∈ wsA := mem_A (List.mem_of_getElem? (i := 521) (by decide +kernel)) rfl
theorem mw_522 : (.code yX3_seenByAnyOf cX3_seenByAnyOf 5 (some .int) : Cond) ∈ wsA := mem_A (List.mem_of_getElem? (i := 522) (by decide +kernel)) rfl
theorem mw_523 : (.methodLink RL 48 yX7_hours : Cond) ∈ wsA := mem_A (List.mem_of_getElem? (i := 523) (by decide +kernel)) rfl
theorem mw_524 : (.instanceMethod yX7_hours : Cond) ∈ wsA := mem_A (List.mem_of_getElem? (i := 524) (by decide +kernel)) rfl
theorem mw_525 : (.selects RX7 yX7_hours yX7_hours : Cond) ∈ wsA := mem_A (List.mem_of_getElem? (i := 525) (by decide +kernel)) rfl
theorem mw_526 : (.code yX7_hours cX7_hours 2 (some .int) : Cond) ∈ wsA := mem_A (List.mem_of_getElem? (i := 526) (by decide +kernel)) rfl
theorem mw_529 : (.instanceMethod yX6_goBy : Cond) ∈ wsA := mem_A (List.mem_of_getElem? (i := 529) (by decide +kernel)) rfl
theorem mw_530 : (.code yX6_goBy cX6_goBy 4 none : Cond) ∈ wsA := mem_A (List.mem_of_getElem? (i := 530) (by decide +kernel)) rfl
theorem mw_533 : (.instanceMethod yX3_rememberHour : Cond) ∈ wsA := mem_A (List.mem_of_getElem? (i := 533) (by decide +kernel)) rfl
theorem mw_534 : (.code yX3_rememberHour cX3_rememberHour 1 none : Cond) ∈ wsA := mem_A (List.mem_of_getElem? (i := 534) (by decide +kernel)) rfl
theorem mw_535 : (.methodLink RX3 59 yX3_remember : Cond) ∈ wsA := mem_A (List.mem_of_getElem? (i := 535) (by decide +kernel)) rfl
theorem mw_537 : (.instanceMethod yX3_remember : Cond) ∈ wsA := mem_A (List.mem_of_getElem? (i := 537) (by decide +kernel)) rfl
theorem mw_538 : (.code yX3_remember cX3_remember 4 none : Cond) ∈ wsA := mem_A (List.mem_of_getElem? (i := 538) (by decide +kernel)) rfl
theorem mw_539 : (.methodLink RX3 63 yX3_loseOldest : Cond) ∈ wsA := mem_A (List.mem_of_getElem? (i := 539) (by decide +kernel)) rfl
theorem mw_541 : (.instanceMethod yX3_loseOldest : Cond) ∈ wsA := mem_A (List.mem_of_getElem? (i := 541) (by decide +kernel)) rfl
theorem mw_542 : (.code yX3_loseOldest cX3_loseOldest 1 none : Cond) ∈ wsA := mem_A (List.mem_of_getElem? (i := 542) (by decide +kernel)) rfl
theorem mw_543 : (.methodLink RX6 80 Lib.Math.min.name : Cond) ∈ wsA := mem_A (List.mem_of_getElem? (i := 543) (by decide +kernel)) rfl
theorem mw_544 : (.methodLink RX6 83 yX6_seeAllIn : Cond) ∈ wsA := mem_A (List.mem_of_getElem? (i := 544) (by decide +kernel)) rfl
theorem mw_546 : (.instanceMethod yX6_seeAllIn : Cond) ∈ wsA := mem_A (List.mem_of_getElem? (i := 546) (by decide +kernel)) rfl
theorem mw_547 : (.code yX6_seeAllIn cX6_seeAllIn 4 none : Cond) ∈ wsA := mem_A (List.mem_of_getElem? (i := 547) (by decide +kernel)) rfl
theorem mw_551 : (.instanceMethod yX1_isSmoky : Cond) ∈ wsA := mem_A (List.mem_of_getElem? (i := 551) (by decide +kernel)) rfl
theorem mw_552 : (.code yX1_isSmoky cX1_isSmoky 4 (some .boolean) : Cond) ∈ wsA := mem_A (List.mem_of_getElem? (i := 552) (by decide +kernel)) rfl
theorem mw_554 : (.methodLink RX6 97 yX6_seeOne : Cond) ∈ wsA := mem_A (List.mem_of_getElem? (i := 554) (by decide +kernel)) rfl
theorem mw_556 : (.instanceMethod yX6_seeOne : Cond) ∈ wsA := mem_A (List.mem_of_getElem? (i := 556) (by decide +kernel)) rfl
theorem mw_557 : (.code yX6_seeOne cX6_seeOne 5 none : Cond) ∈ wsA := mem_A (List.mem_of_getElem? (i := 557) (by decide +kernel)) rfl
theorem mw_559 : (.methodLink RX6 59 yX6_canSee : Cond) ∈ wsA := mem_A (List.mem_of_getElem? (i := 559) (by decide +kernel)) rfl
theorem mw_561 : (.instanceMethod yX6_canSee : Cond) ∈ wsA := mem_A (List.mem_of_getElem? (i := 561) (by decide +kernel)) rfl
theorem mw_562 : (.code yX6_canSee cX6_canSee 6 (some .boolean) : Cond) ∈ wsA := mem_A (List.mem_of_getElem? (i := 562) (by decide +kernel)) rfl
theorem mw_564 : (.methodLink RX6 46 yX6_eyeOf : Cond) ∈ wsA := mem_A (List.mem_of_getElem? (i := 564) (by decide +kernel)) rfl
theorem mw_565 : (.methodLink RX6 50 yX6_isLineFree : Cond) ∈ wsA := mem_A (List.mem_of_getElem? (i := 565) (by decide +kernel)) rfl
theorem mw_567 : (.instanceMethod yX6_isLineFree : Cond) ∈ wsA := mem_A (List.mem_of_getElem? (i := 567) (by decide +kernel)) rfl
theorem mw_568 : (.code yX6_isLineFree cX6_isLineFree 9 (some .boolean) : Cond) ∈ wsA := mem_A (List.mem_of_getElem? (i := 568) (by decide +kernel)) rfl
theorem mw_569 : (.methodLink RX6 54 Lib.Math.abs.name : Cond) ∈ wsA := mem_A (List.mem_of_getElem? (i := 569) (by decide +kernel)) rfl
theorem mw_570 : (.static Lib.Math.abs.name : Cond) ∈ wsA := mem_A (List.mem_of_getElem? (i := 570) (by decide +kernel)) rfl
theorem mw_571 : (.code Lib.Math.abs.name Lib.Math.abs.code 1 (some .int) : Cond) ∈ wsA := mem_A (List.mem_of_getElem? (i := 571) (by decide +kernel)) rfl
theorem mw_572 : (.methodLink RL 52 yX7_builds : Cond) ∈ wsA := mem_A (List.mem_of_getElem? (i := 572) (by decide +kernel)) rfl
theorem mw_573 : (.instanceMethod yX7_builds : Cond) ∈ wsA := mem_A (List.mem_of_getElem? (i := 573) (by decide +kernel)) rfl
theorem mw_574 : (.selects RX7 yX7_builds yX7_builds : Cond) ∈ wsA := mem_A (List.mem_of_getElem? (i := 574) (by decide +kernel)) rfl
theorem mw_575 : (.code yX7_builds cX7_builds 4 (some .int) : Cond) ∈ wsA := mem_A (List.mem_of_getElem? (i := 575) (by decide +kernel)) rfl
theorem mw_578 : (.instanceMethod yX3_build : Cond) ∈ wsA := mem_A (List.mem_of_getElem? (i := 578) (by decide +kernel)) rfl
theorem mw_579 : (.code yX3_build cX3_build 3 none : Cond) ∈ wsA := mem_A (List.mem_of_getElem? (i := 579) (by decide +kernel)) rfl
theorem mw_580 : (.methodLink RL 56 yX7_asks : Cond) ∈ wsA := mem_A (List.mem_of_getElem? (i := 580) (by decide +kernel)) rfl
theorem mw_581 : (.instanceMethod yX7_asks : Cond) ∈ wsA := mem_A (List.mem_of_getElem? (i := 581) (by decide +kernel)) rfl
theorem mw_582 : (.selects RX7 yX7_asks yX7_asks : Cond) ∈ wsA := mem_A (List.mem_of_getElem? (i := 582) (by decide +kernel)) rfl
theorem mw_583 : (.code yX7_asks cX7_asks 3 (some .int) : Cond) ∈ wsA := mem_A (List.mem_of_getElem? (i := 583) (by decide +kernel)) rfl
theorem mw_586 : (.instanceMethod yX3_amountKnownWith : Cond) ∈ wsA := mem_A (List.mem_of_getElem? (i := 586) (by decide +kernel)) rfl
theorem mw_587 : (.code yX3_amountKnownWith cX3_amountKnownWith 2 (some .int) : Cond) ∈ wsA := mem_A (List.mem_of_getElem? (i := 587) (by decide +kernel)) rfl
theorem mw_588 : (.methodLink RX3 80 yX3_amountSeenBy : Cond) ∈ wsA := mem_A (List.mem_of_getElem? (i := 588) (by decide +kernel)) rfl
theorem mw_590 : (.instanceMethod yX3_amountSeenBy : Cond) ∈ wsA := mem_A (List.mem_of_getElem? (i := 590) (by decide +kernel)) rfl
theorem mw_591 : (.code yX3_amountSeenBy cX3_amountSeenBy 4 (some .int) : Cond) ∈ wsA := mem_A (List.mem_of_getElem? (i := 591) (by decide +kernel)) rfl
theorem mw_592 : (.methodLink RX3 70 yX3_seenByAnyOf : Cond) ∈ wsA := mem_A (List.mem_of_getElem? (i := 592) (by decide +kernel)) rfl
theorem mw_595 : (.instanceMethod yX3_bringDown : Cond) ∈ wsA := mem_A (List.mem_of_getElem? (i := 595) (by decide +kernel)) rfl
theorem mw_596 : (.code yX3_bringDown cX3_bringDown 2 none : Cond) ∈ wsA := mem_A (List.mem_of_getElem? (i := 596) (by decide +kernel)) rfl
theorem mw_597 : (.methodLink RL 60 yX7_undo : Cond) ∈ wsA := mem_A (List.mem_of_getElem? (i := 597) (by decide +kernel)) rfl
theorem mw_598 : (.instanceMethod yX7_undo : Cond) ∈ wsA := mem_A (List.mem_of_getElem? (i := 598) (by decide +kernel)) rfl
theorem mw_599 : (.selects RX7 yX7_undo yX7_undo : Cond) ∈ wsA := mem_A (List.mem_of_getElem? (i := 599) (by decide +kernel)) rfl
theorem mw_600 : (.code yX7_undo cX7_undo 1 (some .int) : Cond) ∈ wsA := mem_A (List.mem_of_getElem? (i := 600) (by decide +kernel)) rfl
theorem mw_603 : (.instanceMethod yX3_undoLatest : Cond) ∈ wsA := mem_A (List.mem_of_getElem? (i := 603) (by decide +kernel)) rfl
theorem mw_604 : (.code yX3_undoLatest cX3_undoLatest 2 none : Cond) ∈ wsA := mem_A (List.mem_of_getElem? (i := 604) (by decide +kernel)) rfl
theorem mw_605 : (.methodLink RX3 66 yX3_returnTo : Cond) ∈ wsA := mem_A (List.mem_of_getElem? (i := 605) (by decide +kernel)) rfl
theorem mw_607 : (.instanceMethod yX3_returnTo : Cond) ∈ wsA := mem_A (List.mem_of_getElem? (i := 607) (by decide +kernel)) rfl
theorem mw_608 : (.code yX3_returnTo cX3_returnTo 5 none : Cond) ∈ wsA := mem_A (List.mem_of_getElem? (i := 608) (by decide +kernel)) rfl
theorem mw_609 : (.methodLink RL 64 yX7_now : Cond) ∈ wsA := mem_A (List.mem_of_getElem? (i := 609) (by decide +kernel)) rfl
theorem mw_610 : (.instanceMethod yX7_now : Cond) ∈ wsA := mem_A (List.mem_of_getElem? (i := 610) (by decide +kernel)) rfl
theorem mw_611 : (.selects RX7 yX7_now yX7_now : Cond) ∈ wsA := mem_A (List.mem_of_getElem? (i := 611) (by decide +kernel)) rfl
theorem mw_612 : (.code yX7_now cX7_now 2 (some .int) : Cond) ∈ wsA := mem_A (List.mem_of_getElem? (i := 612) (by decide +kernel)) rfl
theorem mw_615 : (.instanceMethod yX1_allCocks : Cond) ∈ wsA := mem_A (List.mem_of_getElem? (i := 615) (by decide +kernel)) rfl
theorem mw_616 : (.code yX1_allCocks cX1_allCocks 1 (some .int) : Cond) ∈ wsA := mem_A (List.mem_of_getElem? (i := 616) (by decide +kernel)) rfl
theorem mw_618 : (.constant RX7 170 (1000000) : Cond) ∈ wsA := mem_A (List.mem_of_getElem? (i := 618) (by decide +kernel)) rfl
theorem mw_621 : (.instanceMethod yX6_bestToAsk : Cond) ∈ wsA := mem_A (List.mem_of_getElem? (i := 621) (by decide +kernel)) rfl
theorem mw_622 : (.code yX6_bestToAsk cX6_bestToAsk 5 (some .int) : Cond) ∈ wsA := mem_A (List.mem_of_getElem? (i := 622) (by decide +kernel)) rfl
theorem mw_626 : (.instanceMethod yX3_hoursToAsk : Cond) ∈ wsA := mem_A (List.mem_of_getElem? (i := 626) (by decide +kernel)) rfl
theorem mw_627 : (.code yX3_hoursToAsk cX3_hoursToAsk 4 (some .int) : Cond) ∈ wsA := mem_A (List.mem_of_getElem? (i := 627) (by decide +kernel)) rfl
theorem mw_628 : (.methodLink RX3 83 yX3_tellingOf : Cond) ∈ wsA := mem_A (List.mem_of_getElem? (i := 628) (by decide +kernel)) rfl
theorem mw_629 : (.methodLink RX6 114 yX6_isBetter : Cond) ∈ wsA := mem_A (List.mem_of_getElem? (i := 629) (by decide +kernel)) rfl
theorem mw_631 : (.instanceMethod yX6_isBetter : Cond) ∈ wsA := mem_A (List.mem_of_getElem? (i := 631) (by decide +kernel)) rfl
theorem mw_632 : (.code yX6_isBetter cX6_isBetter 4 (some .boolean) : Cond) ∈ wsA := mem_A (List.mem_of_getElem? (i := 632) (by decide +kernel)) rfl
theorem mw_634 : (.methodLink RX6 120 yJ6_bitCount_0f7a4 : Cond) ∈ wsA := mem_A (List.mem_of_getElem? (i := 634) (by decide +kernel)) rfl
theorem mw_635 : (.methodLink RL 68 yX7_view : Cond) ∈ wsA := mem_A (List.mem_of_getElem? (i := 635) (by decide +kernel)) rfl
theorem mw_636 : (.instanceMethod yX7_view : Cond) ∈ wsA := mem_A (List.mem_of_getElem? (i := 636) (by decide +kernel)) rfl
theorem mw_637 : (.selects RX7 yX7_view yX7_view : Cond) ∈ wsA := mem_A (List.mem_of_getElem? (i := 637) (by decide +kernel)) rfl
theorem mw_638 : (.code yX7_view cX7_view 3 (some .int) : Cond) ∈ wsA := mem_A (List.mem_of_getElem? (i := 638) (by decide +kernel)) rfl
theorem mw_639 : (.methodLink RX7 174 yX7_isHour : Cond) ∈ wsA := mem_A (List.mem_of_getElem? (i := 639) (by decide +kernel)) rfl
theorem mw_640 : (.static yX7_isHour : Cond) ∈ wsA := mem_A (List.mem_of_getElem? (i := 640) (by decide +kernel)) rfl
theorem mw_641 : (.code yX7_isHour cX7_isHour 1 (some .boolean) : Cond) ∈ wsA := mem_A (List.mem_of_getElem? (i := 641) (by decide +kernel)) rfl
theorem mw_644 : (.instanceMethod yX6_viewOf : Cond) ∈ wsA := mem_A (List.mem_of_getElem? (i := 644) (by decide +kernel)) rfl
theorem mw_645 : (.code yX6_viewOf cX6_viewOf 5 (some .int) : Cond) ∈ wsA := mem_A (List.mem_of_getElem? (i := 645) (by decide +kernel)) rfl
theorem mw_646 : (.methodLink RL 72 yX7_blind : Cond) ∈ wsA := mem_A (List.mem_of_getElem? (i := 646) (by decide +kernel)) rfl
theorem mw_647 : (.instanceMethod yX7_blind : Cond) ∈ wsA := mem_A (List.mem_of_getElem? (i := 647) (by decide +kernel)) rfl
theorem mw_648 : (.selects RX7 yX7_blind yX7_blind : Cond) ∈ wsA := mem_A (List.mem_of_getElem? (i := 648) (by decide +kernel)) rfl
theorem mw_649 : (.code yX7_blind cX7_blind 2 (some .int) : Cond) ∈ wsA := mem_A (List.mem_of_getElem? (i := 649) (by decide +kernel)) rfl
theorem mw_652 : (.instanceMethod yX6_unseenIn : Cond) ∈ wsA := mem_A (List.mem_of_getElem? (i := 652) (by decide +kernel)) rfl
theorem mw_653 : (.code yX6_unseenIn cX6_unseenIn 4 (some .int) : Cond) ∈ wsA := mem_A (List.mem_of_getElem? (i := 653) (by decide +kernel)) rfl
theorem mw_654 : (.methodLink RX6 70 yX6_viewOf : Cond) ∈ wsA := mem_A (List.mem_of_getElem? (i := 654) (by decide +kernel)) rfl
theorem mw_655 : (.constant RX6 73 (16777215) : Cond) ∈ wsA := mem_A (List.mem_of_getElem? (i := 655) (by decide +kernel)) rfl
theorem mw_656 : (.methodLink RL 76 yX7_most : Cond) ∈ wsA := mem_A (List.mem_of_getElem? (i := 656) (by decide +kernel)) rfl
theorem mw_657 : (.instanceMethod yX7_most : Cond) ∈ wsA := mem_A (List.mem_of_getElem? (i := 657) (by decide +kernel)) rfl
theorem mw_658 : (.selects RX7 yX7_most yX7_most : Cond) ∈ wsA := mem_A (List.mem_of_getElem? (i := 658) (by decide +kernel)) rfl
theorem mw_659 : (.code yX7_most cX7_most 4 (some .int) : Cond) ∈ wsA := mem_A (List.mem_of_getElem? (i := 659) (by decide +kernel)) rfl
theorem mw_660 : (.methodLink RL 80 yX7_odds : Cond) ∈ wsA := mem_A (List.mem_of_getElem? (i := 660) (by decide +kernel)) rfl
theorem mw_661 : (.instanceMethod yX7_odds : Cond) ∈ wsA := mem_A (List.mem_of_getElem? (i := 661) (by decide +kernel)) rfl
theorem mw_662 : (.selects RX7 yX7_odds yX7_odds : Cond) ∈ wsA := mem_A (List.mem_of_getElem? (i := 662) (by decide +kernel)) rfl
theorem mw_663 : (.code yX7_odds cX7_odds 10 (some .int) : Cond) ∈ wsA := mem_A (List.mem_of_getElem? (i := 663) (by decide +kernel)) rfl
theorem mw_666 : (.instanceMethod yX6_hoursInView : Cond) ∈ wsA := mem_A (List.mem_of_getElem? (i := 666) (by decide +kernel)) rfl
theorem mw_667 : (.code yX6_hoursInView cX6_hoursInView 7 (some .int) : Cond) ∈ wsA := mem_A (List.mem_of_getElem? (i := 667) (by decide +kernel)) rfl
theorem mw_668 : (.methodLink RX7 187 yX7_sharedWithTen : Cond) ∈ wsA := mem_A (List.mem_of_getElem? (i := 668) (by decide +kernel)) rfl
theorem mw_669 : (.static yX7_sharedWithTen : Cond) ∈ wsA := mem_A (List.mem_of_getElem? (i := 669) (by decide +kernel)) rfl
theorem mw_670 : (.code yX7_sharedWithTen cX7_sharedWithTen 2 (some .int) : Cond) ∈ wsA := mem_A (List.mem_of_getElem? (i := 670) (by decide +kernel)) rfl
theorem mw_671 : (.methodLink RX7 190 yX7_power : Cond) ∈ wsA := mem_A (List.mem_of_getElem? (i := 671) (by decide +kernel)) rfl
theorem mw_672 : (.static yX7_power : Cond) ∈ wsA := mem_A (List.mem_of_getElem? (i := 672) (by decide +kernel)) rfl
theorem mw_673 : (.code yX7_power cX7_power 4 (some .int) : Cond) ∈ wsA := mem_A (List.mem_of_getElem? (i := 673) (by decide +kernel)) rfl
theorem mw_674 : (.methodLink RL 85 yX7_faced : Cond) ∈ wsA := mem_A (List.mem_of_getElem? (i := 674) (by decide +kernel)) rfl
theorem mw_675 : (.instanceMethod yX7_faced : Cond) ∈ wsA := mem_A (List.mem_of_getElem? (i := 675) (by decide +kernel)) rfl
theorem mw_676 : (.selects RX7 yX7_faced yX7_faced : Cond) ∈ wsA := mem_A (List.mem_of_getElem? (i := 676) (by decide +kernel)) rfl
theorem mw_677 : (.code yX7_faced cX7_faced 3 (some .int) : Cond) ∈ wsA := mem_A (List.mem_of_getElem? (i := 677) (by decide +kernel)) rfl
theorem mw_680 : (.instanceMethod yX0_addFaced : Cond) ∈ wsA := mem_A (List.mem_of_getElem? (i := 680) (by decide +kernel)) rfl
theorem mw_681 : (.code yX0_addFaced cX0_addFaced 3 (some .boolean) : Cond) ∈ wsA := mem_A (List.mem_of_getElem? (i := 681) (by decide +kernel)) rfl
theorem mw_682 : (.methodLink RL 89 yX7_laws : Cond) ∈ wsA := mem_A (List.mem_of_getElem? (i := 682) (by decide +kernel)) rfl
theorem mw_683 : (.instanceMethod yX7_laws : Cond) ∈ wsA := mem_A (List.mem_of_getElem? (i := 683) (by decide +kernel)) rfl
theorem mw_684 : (.selects RX7 yX7_laws yX7_laws : Cond) ∈ wsA := mem_A (List.mem_of_getElem? (i := 684) (by decide +kernel)) rfl
theorem mw_685 : (.code yX7_laws cX7_laws 2 (some .int) : Cond) ∈ wsA := mem_A (List.mem_of_getElem? (i := 685) (by decide +kernel)) rfl
theorem mw_688 : (.instanceMethod yX0_lawCount : Cond) ∈ wsA := mem_A (List.mem_of_getElem? (i := 688) (by decide +kernel)) rfl
theorem mw_689 : (.code yX0_lawCount cX0_lawCount 1 (some .int) : Cond) ∈ wsA := mem_A (List.mem_of_getElem? (i := 689) (by decide +kernel)) rfl
theorem mw_690 : (.methodLink RX0 35 yX0_lawsFacing : Cond) ∈ wsA := mem_A (List.mem_of_getElem? (i := 690) (by decide +kernel)) rfl
theorem mw_692 : (.instanceMethod yX0_lawsFacing : Cond) ∈ wsA := mem_A (List.mem_of_getElem? (i := 692) (by decide +kernel)) rfl
theorem mw_693 : (.code yX0_lawsFacing cX0_lawsFacing 6 (some .int) : Cond) ∈ wsA := mem_A (List.mem_of_getElem? (i := 693) (by decide +kernel)) rfl
theorem mw_694 : (.methodLink RX0 39 yX0_isLaw : Cond) ∈ wsA := mem_A (List.mem_of_getElem? (i := 694) (by decide +kernel)) rfl
theorem mw_696 : (.instanceMethod yX0_isLaw : Cond) ∈ wsA := mem_A (List.mem_of_getElem? (i := 696) (by decide +kernel)) rfl
theorem mw_697 : (.code yX0_isLaw cX0_isLaw 4 (some .boolean) : Cond) ∈ wsA := mem_A (List.mem_of_getElem? (i := 697) (by decide +kernel)) rfl
theorem mw_701 : (.instanceMethod yX0_firstLaw : Cond) ∈ wsA := mem_A (List.mem_of_getElem? (i := 701) (by decide +kernel)) rfl
theorem mw_702 : (.code yX0_firstLaw cX0_firstLaw 3 (some .int) : Cond) ∈ wsA := mem_A (List.mem_of_getElem? (i := 702) (by decide +kernel)) rfl
theorem mw_703 : (.methodLink RL 93 yX7_tryNext : Cond) ∈ wsA := mem_A (List.mem_of_getElem? (i := 703) (by decide +kernel)) rfl
theorem mw_704 : (.instanceMethod yX7_tryNext : Cond) ∈ wsA := mem_A (List.mem_of_getElem? (i := 704) (by decide +kernel)) rfl
theorem mw_705 : (.selects RX7 yX7_tryNext yX7_tryNext : Cond) ∈ wsA := mem_A (List.mem_of_getElem? (i := 705) (by decide +kernel)) rfl
theorem mw_706 : (.code yX7_tryNext cX7_tryNext 1 (some .int) : Cond) ∈ wsA := mem_A (List.mem_of_getElem? (i := 706) (by decide +kernel)) rfl
theorem mw_709 : (.instanceMethod yX0_bestHourToTry : Cond) ∈ wsA := mem_A (List.mem_of_getElem? (i := 709) (by decide +kernel)) rfl
theorem mw_710 : (.code yX0_bestHourToTry cX0_bestHourToTry 5 (some .int) : Cond) ∈ wsA := mem_A (List.mem_of_getElem? (i := 710) (by decide +kernel)) rfl
theorem mw_711 : (.methodLink RX0 43 yX0_lawCount : Cond) ∈ wsA := mem_A (List.mem_of_getElem? (i := 711) (by decide +kernel)) rfl
theorem mw_712 : (.methodLink RX0 47 Lib.Math.max.name : Cond) ∈ wsA := mem_A (List.mem_of_getElem? (i := 712) (by decide +kernel)) rfl
theorem mw_713 : (.static Lib.Math.max.name : Cond) ∈ wsA := mem_A (List.mem_of_getElem? (i := 713) (by decide +kernel)) rfl
theorem mw_714 : (.code Lib.Math.max.name Lib.Math.max.code 2 (some .int) : Cond) ∈ wsA := mem_A (List.mem_of_getElem? (i := 714) (by decide +kernel)) rfl
theorem mw_715 : (.methodLink RL 97 yX7_met : Cond) ∈ wsA := mem_A (List.mem_of_getElem? (i := 715) (by decide +kernel)) rfl
theorem mw_716 : (.instanceMethod yX7_met : Cond) ∈ wsA := mem_A (List.mem_of_getElem? (i := 716) (by decide +kernel)) rfl
theorem mw_717 : (.selects RX7 yX7_met yX7_met : Cond) ∈ wsA := mem_A (List.mem_of_getElem? (i := 717) (by decide +kernel)) rfl
theorem mw_718 : (.code yX7_met cX7_met 3 (some .int) : Cond) ∈ wsA := mem_A (List.mem_of_getElem? (i := 718) (by decide +kernel)) rfl
theorem mw_721 : (.instanceMethod yX0_addMet : Cond) ∈ wsA := mem_A (List.mem_of_getElem? (i := 721) (by decide +kernel)) rfl
theorem mw_722 : (.code yX0_addMet cX0_addMet 3 (some .boolean) : Cond) ∈ wsA := mem_A (List.mem_of_getElem? (i := 722) (by decide +kernel)) rfl
theorem mw_723 : (.methodLink RL 101 yX7_ways : Cond) ∈ wsA := mem_A (List.mem_of_getElem? (i := 723) (by decide +kernel)) rfl
theorem mw_724 : (.instanceMethod yX7_ways : Cond) ∈ wsA := mem_A (List.mem_of_getElem? (i := 724) (by decide +kernel)) rfl
theorem mw_725 : (.selects RX7 yX7_ways yX7_ways : Cond) ∈ wsA := mem_A (List.mem_of_getElem? (i := 725) (by decide +kernel)) rfl
theorem mw_726 : (.code yX7_ways cX7_ways 2 (some .int) : Cond) ∈ wsA := mem_A (List.mem_of_getElem? (i := 726) (by decide +kernel)) rfl
theorem mw_729 : (.instanceMethod yX0_wayCount : Cond) ∈ wsA := mem_A (List.mem_of_getElem? (i := 729) (by decide +kernel)) rfl
theorem mw_730 : (.code yX0_wayCount cX0_wayCount 4 (some .int) : Cond) ∈ wsA := mem_A (List.mem_of_getElem? (i := 730) (by decide +kernel)) rfl
theorem mw_731 : (.methodLink RX0 55 yX0_falsesOf : Cond) ∈ wsA := mem_A (List.mem_of_getElem? (i := 731) (by decide +kernel)) rfl
theorem mw_733 : (.instanceMethod yX0_falsesOf : Cond) ∈ wsA := mem_A (List.mem_of_getElem? (i := 733) (by decide +kernel)) rfl
theorem mw_734 : (.code yX0_falsesOf cX0_falsesOf 6 (some .int) : Cond) ∈ wsA := mem_A (List.mem_of_getElem? (i := 734) (by decide +kernel)) rfl
theorem mw_738 : (.instanceMethod yX0_bestWay : Cond) ∈ wsA := mem_A (List.mem_of_getElem? (i := 738) (by decide +kernel)) rfl
theorem mw_739 : (.code yX0_bestWay cX0_bestWay 5 (some .int) : Cond) ∈ wsA := mem_A (List.mem_of_getElem? (i := 739) (by decide +kernel)) rfl
theorem mw_741 : (.methodLink RL 105 yX7_falses : Cond) ∈ wsA := mem_A (List.mem_of_getElem? (i := 741) (by decide +kernel)) rfl
theorem mw_742 : (.instanceMethod yX7_falses : Cond) ∈ wsA := mem_A (List.mem_of_getElem? (i := 742) (by decide +kernel)) rfl
theorem mw_743 : (.selects RX7 yX7_falses yX7_falses : Cond) ∈ wsA := mem_A (List.mem_of_getElem? (i := 743) (by decide +kernel)) rfl
theorem mw_744 : (.code yX7_falses cX7_falses 2 (some .int) : Cond) ∈ wsA := mem_A (List.mem_of_getElem? (i := 744) (by decide +kernel)) rfl
theorem mw_745 : (.methodLink RL 109 yX7_forget : Cond) ∈ wsA := mem_A (List.mem_of_getElem? (i := 745) (by decide +kernel)) rfl
theorem mw_746 : (.instanceMethod yX7_forget : Cond) ∈ wsA := mem_A (List.mem_of_getElem? (i := 746) (by decide +kernel)) rfl
theorem mw_747 : (.selects RX7 yX7_forget yX7_forget : Cond) ∈ wsA := mem_A (List.mem_of_getElem? (i := 747) (by decide +kernel)) rfl
theorem mw_748 : (.code yX7_forget cX7_forget 2 (some .int) : Cond) ∈ wsA := mem_A (List.mem_of_getElem? (i := 748) (by decide +kernel)) rfl
theorem mw_749 : (.methodLink RL 113 yX7_mark : Cond) ∈ wsA := mem_A (List.mem_of_getElem? (i := 749) (by decide +kernel)) rfl
theorem mw_750 : (.instanceMethod yX7_mark : Cond) ∈ wsA := mem_A (List.mem_of_getElem? (i := 750) (by decide +kernel)) rfl
theorem mw_751 : (.selects RX7 yX7_mark yX7_mark : Cond) ∈ wsA := mem_A (List.mem_of_getElem? (i := 751) (by decide +kernel)) rfl
theorem mw_752 : (.code yX7_mark cX7_mark 3 (some .int) : Cond) ∈ wsA := mem_A (List.mem_of_getElem? (i := 752) (by decide +kernel)) rfl
theorem mw_755 : (.instanceMethod yX2_markAs : Cond) ∈ wsA := mem_A (List.mem_of_getElem? (i := 755) (by decide +kernel)) rfl
theorem mw_756 : (.code yX2_markAs cX2_markAs 4 (some .int) : Cond) ∈ wsA := mem_A (List.mem_of_getElem? (i := 756) (by decide +kernel)) rfl
theorem mw_757 : (.methodLink RX2 9 yX2_markAsCock : Cond) ∈ wsA := mem_A (List.mem_of_getElem? (i := 757) (by decide +kernel)) rfl
theorem mw_759 : (.instanceMethod yX2_markAsCock : Cond) ∈ wsA := mem_A (List.mem_of_getElem? (i := 759) (by decide +kernel)) rfl
theorem mw_760 : (.code yX2_markAsCock cX2_markAsCock 3 (some .int) : Cond) ∈ wsA := mem_A (List.mem_of_getElem? (i := 760) (by decide +kernel)) rfl
theorem mw_762 : (.methodLink RX2 15 yX2_markAsGold : Cond) ∈ wsA := mem_A (List.mem_of_getElem? (i := 762) (by decide +kernel)) rfl
theorem mw_764 : (.instanceMethod yX2_markAsGold : Cond) ∈ wsA := mem_A (List.mem_of_getElem? (i := 764) (by decide +kernel)) rfl
theorem mw_765 : (.code yX2_markAsGold cX2_markAsGold 3 (some .int) : Cond) ∈ wsA := mem_A (List.mem_of_getElem? (i := 765) (by decide +kernel)) rfl
theorem mw_766 : (.constantLong RX2 41 (10) : Cond) ∈ wsA := mem_A (List.mem_of_getElem? (i := 766) (by decide +kernel)) rfl
theorem mw_768 : (.methodLink RX2 18 yX2_markAsIron : Cond) ∈ wsA := mem_A (List.mem_of_getElem? (i := 768) (by decide +kernel)) rfl
theorem mw_770 : (.instanceMethod yX2_markAsIron : Cond) ∈ wsA := mem_A (List.mem_of_getElem? (i := 770) (by decide +kernel)) rfl
theorem mw_771 : (.code yX2_markAsIron cX2_markAsIron 3 (some .int) : Cond) ∈ wsA := mem_A (List.mem_of_getElem? (i := 771) (by decide +kernel)) rfl
theorem mw_772 : (.constantLong RX2 52 (100) : Cond) ∈ wsA := mem_A (List.mem_of_getElem? (i := 772) (by decide +kernel)) rfl
theorem mw_773 : (.methodLink RX2 21 yX2_markAsDean : Cond) ∈ wsA := mem_A (List.mem_of_getElem? (i := 773) (by decide +kernel)) rfl
theorem mw_775 : (.instanceMethod yX2_markAsDean : Cond) ∈ wsA := mem_A (List.mem_of_getElem? (i := 775) (by decide +kernel)) rfl
theorem mw_776 : (.code yX2_markAsDean cX2_markAsDean 3 (some .int) : Cond) ∈ wsA := mem_A (List.mem_of_getElem? (i := 776) (by decide +kernel)) rfl
theorem mw_777 : (.constantLong RX2 64 (1000) : Cond) ∈ wsA := mem_A (List.mem_of_getElem? (i := 777) (by decide +kernel)) rfl
theorem mw_778 : (.methodLink RX2 24 yX2_markAsBarn : Cond) ∈ wsA := mem_A (List.mem_of_getElem? (i := 778) (by decide +kernel)) rfl
theorem mw_780 : (.instanceMethod yX2_markAsBarn : Cond) ∈ wsA := mem_A (List.mem_of_getElem? (i := 780) (by decide +kernel)) rfl
theorem mw_781 : (.code yX2_markAsBarn cX2_markAsBarn 3 (some .int) : Cond) ∈ wsA := mem_A (List.mem_of_getElem? (i := 781) (by decide +kernel)) rfl
theorem mw_782 : (.constantLong RX2 66 (10000) : Cond) ∈ wsA := mem_A (List.mem_of_getElem? (i := 782) (by decide +kernel)) rfl
theorem mw_783 : (.methodLink RX2 27 yX2_markAsZinc : Cond) ∈ wsA := mem_A (List.mem_of_getElem? (i := 783) (by decide +kernel)) rfl
theorem mw_785 : (.instanceMethod yX2_markAsZinc : Cond) ∈ wsA := mem_A (List.mem_of_getElem? (i := 785) (by decide +kernel)) rfl
theorem mw_786 : (.code yX2_markAsZinc cX2_markAsZinc 3 (some .int) : Cond) ∈ wsA := mem_A (List.mem_of_getElem? (i := 786) (by decide +kernel)) rfl
theorem mw_787 : (.constantLong RX2 68 (100000) : Cond) ∈ wsA := mem_A (List.mem_of_getElem? (i := 787) (by decide +kernel)) rfl
theorem mw_788 : (.constant RX2 30 (-1000000) : Cond) ∈ wsA := mem_A (List.mem_of_getElem? (i := 788) (by decide +kernel)) rfl
theorem mw_789 : (.methodLink RL 117 yX7_keep : Cond) ∈ wsA := mem_A (List.mem_of_getElem? (i := 789) (by decide +kernel)) rfl
theorem mw_790 : (.instanceMethod yX7_keep : Cond) ∈ wsA := mem_A (List.mem_of_getElem? (i := 790) (by decide +kernel)) rfl
theorem mw_791 : (.selects RX7 yX7_keep yX7_keep : Cond) ∈ wsA := mem_A (List.mem_of_getElem? (i := 791) (by decide +kernel)) rfl
theorem mw_792 : (.code yX7_keep cX7_keep 2 (some .int) : Cond) ∈ wsA := mem_A (List.mem_of_getElem? (i := 792) (by decide +kernel)) rfl
theorem mw_795 : (.instanceMethod yX3_becomeAs : Cond) ∈ wsA := mem_A (List.mem_of_getElem? (i := 795) (by decide +kernel)) rfl
theorem mw_796 : (.code yX3_becomeAs cX3_becomeAs 2 none : Cond) ∈ wsA := mem_A (List.mem_of_getElem? (i := 796) (by decide +kernel)) rfl
theorem mw_798 : (.methodLink RL 121 yX7_back : Cond) ∈ wsA := mem_A (List.mem_of_getElem? (i := 798) (by decide +kernel)) rfl
theorem mw_799 : (.instanceMethod yX7_back : Cond) ∈ wsA := mem_A (List.mem_of_getElem? (i := 799) (by decide +kernel)) rfl
theorem mw_800 : (.selects RX7 yX7_back yX7_back : Cond) ∈ wsA := mem_A (List.mem_of_getElem? (i := 800) (by decide +kernel)) rfl
theorem mw_801 : (.code yX7_back cX7_back 2 (some .int) : Cond) ∈ wsA := mem_A (List.mem_of_getElem? (i := 801) (by decide +kernel)) rfl
theorem mw_802 : (.methodLink RX7 232 yX7_isIn : Cond) ∈ wsA := mem_A (List.mem_of_getElem? (i := 802) (by decide +kernel)) rfl
theorem mw_803 : (.methodLink RL 125 yX7_count : Cond) ∈ wsA := mem_A (List.mem_of_getElem? (i := 803) (by decide +kernel)) rfl
theorem mw_804 : (.instanceMethod yX7_count : Cond) ∈ wsA := mem_A (List.mem_of_getElem? (i := 804) (by decide +kernel)) rfl
theorem mw_805 : (.selects RX7 yX7_count yX7_count : Cond) ∈ wsA := mem_A (List.mem_of_getElem? (i := 805) (by decide +kernel)) rfl
theorem mw_806 : (.code yX7_count cX7_count 2 (some .int) : Cond) ∈ wsA := mem_A (List.mem_of_getElem? (i := 806) (by decide +kernel)) rfl
theorem mw_807 : (.methodLink RL 129 yX7_trace : Cond) ∈ wsA := mem_A (List.mem_of_getElem? (i := 807) (by decide +kernel)) rfl
theorem mw_808 : (.instanceMethod yX7_trace : Cond) ∈ wsA := mem_A (List.mem_of_getElem? (i := 808) (by decide +kernel)) rfl
theorem mw_809 : (.selects RX7 yX7_trace yX7_trace : Cond) ∈ wsA := mem_A (List.mem_of_getElem? (i := 809) (by decide +kernel)) rfl
theorem mw_810 : (.code yX7_trace cX7_trace 1 (some .long) : Cond) ∈ wsA := mem_A (List.mem_of_getElem? (i := 810) (by decide +kernel)) rfl
theorem mw_811 : (.classLink RL 10 RX8 : Cond) ∈ wsA := mem_A (List.mem_of_getElem? (i := 811) (by decide +kernel)) rfl
theorem mw_812 : (.instantiable RX8 37 : Cond) ∈ wsA := mem_A (List.mem_of_getElem? (i := 812) (by decide +kernel)) rfl
theorem mw_813 : (.methodLink RL 12 yX8_init : Cond) ∈ wsA := mem_A (List.mem_of_getElem? (i := 813) (by decide +kernel)) rfl
theorem mw_814 : (.instanceMethod yX8_init : Cond) ∈ wsA := mem_A (List.mem_of_getElem? (i := 814) (by decide +kernel)) rfl
theorem mw_815 : (.code yX8_init cX8_init 1 none : Cond) ∈ wsA := mem_A (List.mem_of_getElem? (i := 815) (by decide +kernel)) rfl
theorem mw_816 : (.methodLink RX8 1 objectInit : Cond) ∈ wsA := mem_A (List.mem_of_getElem? (i := 816) (by decide +kernel)) rfl
theorem mw_817 : (.fieldLink RX8 74 "AskedCocksModel" "cocks" "I" : Cond) ∈ wsA := mem_A (List.mem_of_getElem? (i := 817) (by decide +kernel)) rfl
theorem mw_818 : (.fieldLink RX8 7 "AskedCocksModel" "places" "[I" : Cond) ∈ wsA := mem_A (List.mem_of_getElem? (i := 818) (by decide +kernel)) rfl
theorem mw_819 : (.fieldLink RX8 13 "AskedCocksModel" "rises" "[I" : Cond) ∈ wsA := mem_A (List.mem_of_getElem? (i := 819) (by decide +kernel)) rfl
theorem mw_820 : (.fieldLink RX8 16 "AskedCocksModel" "sides" "[I" : Cond) ∈ wsA := mem_A (List.mem_of_getElem? (i := 820) (by decide +kernel)) rfl
theorem mw_821 : (.fieldLink RX8 19 "AskedCocksModel" "turns" "[I" : Cond) ∈ wsA := mem_A (List.mem_of_getElem? (i := 821) (by decide +kernel)) rfl
theorem mw_822 : (.fieldLink RX8 82 "AskedCocksModel" "people" "I" : Cond) ∈ wsA := mem_A (List.mem_of_getElem? (i := 822) (by decide +kernel)) rfl
theorem mw_823 : (.fieldLink RX8 22 "AskedCocksModel" "starts" "[I" : Cond) ∈ wsA := mem_A (List.mem_of_getElem? (i := 823) (by decide +kernel)) rfl
theorem mw_824 : (.fieldLink RX8 25 "AskedCocksModel" "speeds" "[I" : Cond) ∈ wsA := mem_A (List.mem_of_getElem? (i := 824) (by decide +kernel)) rfl
theorem mw_825 : (.fieldLink RX8 159 "AskedCocksModel" "smokes" "I" : Cond) ∈ wsA := mem_A (List.mem_of_getElem? (i := 825) (by decide +kernel)) rfl
theorem mw_826 : (.fieldLink RX8 28 "AskedCocksModel" "smoke" "[I" : Cond) ∈ wsA := mem_A (List.mem_of_getElem? (i := 826) (by decide +kernel)) rfl
theorem mw_827 : (.fieldLink RX8 31 "AskedCocksModel" "st" "[I" : Cond) ∈ wsA := mem_A (List.mem_of_getElem? (i := 827) (by decide +kernel)) rfl
theorem mw_828 : (.fieldLink RX8 34 "AskedCocksModel" "images" "[I" : Cond) ∈ wsA := mem_A (List.mem_of_getElem? (i := 828) (by decide +kernel)) rfl
theorem mw_829 : (.fieldLink RX8 37 "AskedCocksModel" "isKept" "[Z" : Cond) ∈ wsA := mem_A (List.mem_of_getElem? (i := 829) (by decide +kernel)) rfl
theorem mw_830 : (.fieldLink RX8 162 "AskedCocksModel" "facedMany" "I" : Cond) ∈ wsA := mem_A (List.mem_of_getElem? (i := 830) (by decide +kernel)) rfl
theorem mw_831 : (.fieldLink RX8 41 "AskedCocksModel" "facing" "[I" : Cond) ∈ wsA := mem_A (List.mem_of_getElem? (i := 831) (by decide +kernel)) rfl
theorem mw_832 : (.fieldLink RX8 165 "AskedCocksModel" "metMany" "I" : Cond) ∈ wsA := mem_A (List.mem_of_getElem? (i := 832) (by decide +kernel)) rfl
theorem mw_833 : (.fieldLink RX8 44 "AskedCocksModel" "meets" "[I" : Cond) ∈ wsA := mem_A (List.mem_of_getElem? (i := 833) (by decide +kernel)) rfl
theorem mw_834 : (.fieldLink RX8 257 "AskedCocksModel" "trace" "J" : Cond) ∈ wsA := mem_A (List.mem_of_getElem? (i := 834) (by decide +kernel)) rfl
theorem mw_835 : (.fieldLink RX8 47 "AskedCocksModel" "text" "[I" : Cond) ∈ wsA := mem_A (List.mem_of_getElem? (i := 835) (by decide +kernel)) rfl
theorem mw_836 : (.fieldLink RX8 85 "AskedCocksModel" "texted" "I" : Cond) ∈ wsA := mem_A (List.mem_of_getElem? (i := 836) (by decide +kernel)) rfl
theorem mw_837 : (.fieldLink RX8 88 "AskedCocksModel" "cursor" "I" : Cond) ∈ wsA := mem_A (List.mem_of_getElem? (i := 837) (by decide +kernel)) rfl
theorem mw_838 : (.fieldLink RX8 95 "AskedCocksModel" "start" "I" : Cond) ∈ wsA := mem_A (List.mem_of_getElem? (i := 838) (by decide +kernel)) rfl
theorem mw_839 : (.fieldLink RX8 101 "AskedCocksModel" "token" "I" : Cond) ∈ wsA := mem_A (List.mem_of_getElem? (i := 839) (by decide +kernel)) rfl
theorem mw_840 : (.fieldLink RX8 98 "AskedCocksModel" "number" "I" : Cond) ∈ wsA := mem_A (List.mem_of_getElem? (i := 840) (by decide +kernel)) rfl
theorem mw_841 : (.fieldLink RX8 111 "AskedCocksModel" "isWrong" "Z" : Cond) ∈ wsA := mem_A (List.mem_of_getElem? (i := 841) (by decide +kernel)) rfl
theorem mw_842 : (.fieldLink RX8 150 "AskedCocksModel" "items" "I" : Cond) ∈ wsA := mem_A (List.mem_of_getElem? (i := 842) (by decide +kernel)) rfl
theorem mw_843 : (.fieldLink RX8 50 "AskedCocksModel" "saidRoof" "[I" : Cond) ∈ wsA := mem_A (List.mem_of_getElem? (i := 843) (by decide +kernel)) rfl
theorem mw_844 : (.fieldLink RX8 122 "AskedCocksModel" "saidCocks" "I" : Cond) ∈ wsA := mem_A (List.mem_of_getElem? (i := 844) (by decide +kernel)) rfl
theorem mw_845 : (.fieldLink RX8 53 "AskedCocksModel" "saidPlace" "[I" : Cond) ∈ wsA := mem_A (List.mem_of_getElem? (i := 845) (by decide +kernel)) rfl
theorem mw_846 : (.fieldLink RX8 56 "AskedCocksModel" "saidRise" "[I" : Cond) ∈ wsA := mem_A (List.mem_of_getElem? (i := 846) (by decide +kernel)) rfl
theorem mw_847 : (.fieldLink RX8 59 "AskedCocksModel" "saidSide" "[I" : Cond) ∈ wsA := mem_A (List.mem_of_getElem? (i := 847) (by decide +kernel)) rfl
theorem mw_848 : (.fieldLink RX8 62 "AskedCocksModel" "saidTurn" "[I" : Cond) ∈ wsA := mem_A (List.mem_of_getElem? (i := 848) (by decide +kernel)) rfl
theorem mw_849 : (.fieldLink RX8 125 "AskedCocksModel" "saidPeople" "I" : Cond) ∈ wsA := mem_A (List.mem_of_getElem? (i := 849) (by decide +kernel)) rfl
theorem mw_850 : (.fieldLink RX8 65 "AskedCocksModel" "saidStart" "[I" : Cond) ∈ wsA := mem_A (List.mem_of_getElem? (i := 850) (by decide +kernel)) rfl
theorem mw_851 : (.fieldLink RX8 68 "AskedCocksModel" "saidSpeed" "[I" : Cond) ∈ wsA := mem_A (List.mem_of_getElem? (i := 851) (by decide +kernel)) rfl
theorem mw_852 : (.fieldLink RX8 128 "AskedCocksModel" "saidSmokes" "I" : Cond) ∈ wsA := mem_A (List.mem_of_getElem? (i := 852) (by decide +kernel)) rfl
theorem mw_853 : (.fieldLink RX8 71 "AskedCocksModel" "saidSmoke" "[I" : Cond) ∈ wsA := mem_A (List.mem_of_getElem? (i := 853) (by decide +kernel)) rfl
theorem mw_929 : (.arrayClass .boolean : Cond) ∈ wsA := mem_A (List.mem_of_getElem? (i := 929) (by decide +kernel)) rfl
theorem mw_930 : (.methodLink RL 17 yX8_type : Cond) ∈ wsA := mem_A (List.mem_of_getElem? (i := 930) (by decide +kernel)) rfl
theorem mw_931 : (.instanceMethod yX8_type : Cond) ∈ wsA := mem_A (List.mem_of_getElem? (i := 931) (by decide +kernel)) rfl
theorem mw_932 : (.selects RX8 yX8_type yX8_type : Cond) ∈ wsA := mem_A (List.mem_of_getElem? (i := 932) (by decide +kernel)) rfl
theorem mw_933 : (.code yX8_type cX8_type 2 (some .int) : Cond) ∈ wsA := mem_A (List.mem_of_getElem? (i := 933) (by decide +kernel)) rfl
theorem mw_934 : (.methodLink RX8 78 yX8_in : Cond) ∈ wsA := mem_A (List.mem_of_getElem? (i := 934) (by decide +kernel)) rfl
theorem mw_935 : (.static yX8_in : Cond) ∈ wsA := mem_A (List.mem_of_getElem? (i := 935) (by decide +kernel)) rfl
theorem mw_936 : (.code yX8_in cX8_in 3 (some .boolean) : Cond) ∈ wsA := mem_A (List.mem_of_getElem? (i := 936) (by decide +kernel)) rfl
theorem mw_937 : (.methodLink RL 22 yX8_clear : Cond) ∈ wsA := mem_A (List.mem_of_getElem? (i := 937) (by decide +kernel)) rfl
theorem mw_938 : (.instanceMethod yX8_clear : Cond) ∈ wsA := mem_A (List.mem_of_getElem? (i := 938) (by decide +kernel)) rfl
theorem mw_939 : (.selects RX8 yX8_clear yX8_clear : Cond) ∈ wsA := mem_A (List.mem_of_getElem? (i := 939) (by decide +kernel)) rfl
theorem mw_940 : (.code yX8_clear cX8_clear 2 (some .int) : Cond) ∈ wsA := mem_A (List.mem_of_getElem? (i := 940) (by decide +kernel)) rfl
theorem mw_941 : (.methodLink RL 26 yX8_diocese : Cond) ∈ wsA := mem_A (List.mem_of_getElem? (i := 941) (by decide +kernel)) rfl
theorem mw_942 : (.instanceMethod yX8_diocese : Cond) ∈ wsA := mem_A (List.mem_of_getElem? (i := 942) (by decide +kernel)) rfl
theorem mw_943 : (.selects RX8 yX8_diocese yX8_diocese : Cond) ∈ wsA := mem_A (List.mem_of_getElem? (i := 943) (by decide +kernel)) rfl
theorem mw_944 : (.code yX8_diocese cX8_diocese 2 (some .int) : Cond) ∈ wsA := mem_A (List.mem_of_getElem? (i := 944) (by decide +kernel)) rfl
theorem mw_945 : (.methodLink RX8 115 yX8_next : Cond) ∈ wsA := mem_A (List.mem_of_getElem? (i := 945) (by decide +kernel)) rfl
theorem mw_947 : (.instanceMethod yX8_next : Cond) ∈ wsA := mem_A (List.mem_of_getElem? (i := 947) (by decide +kernel)) rfl
theorem mw_948 : (.code yX8_next cX8_next 2 none : Cond) ∈ wsA := mem_A (List.mem_of_getElem? (i := 948) (by decide +kernel)) rfl
theorem mw_949 : (.methodLink RX8 91 yX8_letterAt : Cond) ∈ wsA := mem_A (List.mem_of_getElem? (i := 949) (by decide +kernel)) rfl
theorem mw_951 : (.instanceMethod yX8_letterAt : Cond) ∈ wsA := mem_A (List.mem_of_getElem? (i := 951) (by decide +kernel)) rfl
theorem mw_952 : (.code yX8_letterAt cX8_letterAt 2 (some .int) : Cond) ∈ wsA := mem_A (List.mem_of_getElem? (i := 952) (by decide +kernel)) rfl
theorem mw_953 : (.methodLink RX8 104 yX8_isFigure : Cond) ∈ wsA := mem_A (List.mem_of_getElem? (i := 953) (by decide +kernel)) rfl
theorem mw_954 : (.static yX8_isFigure : Cond) ∈ wsA := mem_A (List.mem_of_getElem? (i := 954) (by decide +kernel)) rfl
theorem mw_955 : (.code yX8_isFigure cX8_isFigure 1 (some .boolean) : Cond) ∈ wsA := mem_A (List.mem_of_getElem? (i := 955) (by decide +kernel)) rfl
theorem mw_956 : (.methodLink RX8 108 yX8_isLetter : Cond) ∈ wsA := mem_A (List.mem_of_getElem? (i := 956) (by decide +kernel)) rfl
theorem mw_957 : (.static yX8_isLetter : Cond) ∈ wsA := mem_A (List.mem_of_getElem? (i := 957) (by decide +kernel)) rfl
theorem mw_958 : (.code yX8_isLetter cX8_isLetter 1 (some .boolean) : Cond) ∈ wsA := mem_A (List.mem_of_getElem? (i := 958) (by decide +kernel)) rfl
theorem mw_959 : (.methodLink RX8 153 yX8_readItem : Cond) ∈ wsA := mem_A (List.mem_of_getElem? (i := 959) (by decide +kernel)) rfl
theorem mw_961 : (.instanceMethod yX8_readItem : Cond) ∈ wsA := mem_A (List.mem_of_getElem? (i := 961) (by decide +kernel)) rfl
theorem mw_962 : (.code yX8_readItem cX8_readItem 2 none : Cond) ∈ wsA := mem_A (List.mem_of_getElem? (i := 962) (by decide +kernel)) rfl
theorem mw_963 : (.methodLink RX8 143 yX8_mayBegin : Cond) ∈ wsA := mem_A (List.mem_of_getElem? (i := 963) (by decide +kernel)) rfl
theorem mw_965 : (.instanceMethod yX8_mayBegin : Cond) ∈ wsA := mem_A (List.mem_of_getElem? (i := 965) (by decide +kernel)) rfl
theorem mw_966 : (.code yX8_mayBegin cX8_mayBegin 2 (some .boolean) : Cond) ∈ wsA := mem_A (List.mem_of_getElem? (i := 966) (by decide +kernel)) rfl
theorem mw_967 : (.methodLink RX8 146 yX8_readBody : Cond) ∈ wsA := mem_A (List.mem_of_getElem? (i := 967) (by decide +kernel)) rfl
theorem mw_969 : (.instanceMethod yX8_readBody : Cond) ∈ wsA := mem_A (List.mem_of_getElem? (i := 969) (by decide +kernel)) rfl
theorem mw_970 : (.code yX8_readBody cX8_readBody 2 none : Cond) ∈ wsA := mem_A (List.mem_of_getElem? (i := 970) (by decide +kernel)) rfl
theorem mw_971 : (.methodLink RX8 131 yX8_readRoof : Cond) ∈ wsA := mem_A (List.mem_of_getElem? (i := 971) (by decide +kernel)) rfl
theorem mw_973 : (.instanceMethod yX8_readRoof : Cond) ∈ wsA := mem_A (List.mem_of_getElem? (i := 973) (by decide +kernel)) rfl
theorem mw_974 : (.code yX8_readRoof cX8_readRoof 2 none : Cond) ∈ wsA := mem_A (List.mem_of_getElem? (i := 974) (by decide +kernel)) rfl
theorem mw_975 : (.methodLink RX8 118 yX8_takesNumber : Cond) ∈ wsA := mem_A (List.mem_of_getElem? (i := 975) (by decide +kernel)) rfl
theorem mw_977 : (.instanceMethod yX8_takesNumber : Cond) ∈ wsA := mem_A (List.mem_of_getElem? (i := 977) (by decide +kernel)) rfl
theorem mw_978 : (.code yX8_takesNumber cX8_takesNumber 5 (some .int) : Cond) ∈ wsA := mem_A (List.mem_of_getElem? (i := 978) (by decide +kernel)) rfl
theorem mw_979 : (.methodLink RX8 134 yX8_readCock : Cond) ∈ wsA := mem_A (List.mem_of_getElem? (i := 979) (by decide +kernel)) rfl
theorem mw_981 : (.instanceMethod yX8_readCock : Cond) ∈ wsA := mem_A (List.mem_of_getElem? (i := 981) (by decide +kernel)) rfl
theorem mw_982 : (.code yX8_readCock cX8_readCock 1 none : Cond) ∈ wsA := mem_A (List.mem_of_getElem? (i := 982) (by decide +kernel)) rfl
theorem mw_983 : (.methodLink RX8 137 yX8_readOne : Cond) ∈ wsA := mem_A (List.mem_of_getElem? (i := 983) (by decide +kernel)) rfl
theorem mw_985 : (.instanceMethod yX8_readOne : Cond) ∈ wsA := mem_A (List.mem_of_getElem? (i := 985) (by decide +kernel)) rfl
theorem mw_986 : (.code yX8_readOne cX8_readOne 1 none : Cond) ∈ wsA := mem_A (List.mem_of_getElem? (i := 986) (by decide +kernel)) rfl
theorem mw_987 : (.methodLink RX8 140 yX8_readSmoke : Cond) ∈ wsA := mem_A (List.mem_of_getElem? (i := 987) (by decide +kernel)) rfl
theorem mw_989 : (.instanceMethod yX8_readSmoke : Cond) ∈ wsA := mem_A (List.mem_of_getElem? (i := 989) (by decide +kernel)) rfl
theorem mw_990 : (.code yX8_readSmoke cX8_readSmoke 2 none : Cond) ∈ wsA := mem_A (List.mem_of_getElem? (i := 990) (by decide +kernel)) rfl
theorem mw_991 : (.methodLink RX8 156 yX8_settles : Cond) ∈ wsA := mem_A (List.mem_of_getElem? (i := 991) (by decide +kernel)) rfl
theorem mw_993 : (.instanceMethod yX8_settles : Cond) ∈ wsA := mem_A (List.mem_of_getElem? (i := 993) (by decide +kernel)) rfl
theorem mw_994 : (.code yX8_settles cX8_settles 2 none : Cond) ∈ wsA := mem_A (List.mem_of_getElem? (i := 994) (by decide +kernel)) rfl
theorem mw_995 : (.methodLink RL 30 yX8_roof : Cond) ∈ wsA := mem_A (List.mem_of_getElem? (i := 995) (by decide +kernel)) rfl
theorem mw_996 : (.instanceMethod yX8_roof : Cond) ∈ wsA := mem_A (List.mem_of_getElem? (i := 996) (by decide +kernel)) rfl
theorem mw_997 : (.selects RX8 yX8_roof yX8_roof : Cond) ∈ wsA := mem_A (List.mem_of_getElem? (i := 997) (by decide +kernel)) rfl
theorem mw_998 : (.code yX8_roof cX8_roof 2 (some .int) : Cond) ∈ wsA := mem_A (List.mem_of_getElem? (i := 998) (by decide +kernel)) rfl
theorem mw_999 : (.methodLink RX8 182 yX8_isCell : Cond) ∈ wsA := mem_A (List.mem_of_getElem? (i := 999) (by decide +kernel)) rfl
theorem mw_1000 : (.static yX8_isCell : Cond) ∈ wsA := mem_A (List.mem_of_getElem? (i := 1000) (by decide +kernel)) rfl
theorem mw_1001 : (.code yX8_isCell cX8_isCell 1 (some .boolean) : Cond) ∈ wsA := mem_A (List.mem_of_getElem? (i := 1001) (by decide +kernel)) rfl
theorem mw_1002 : (.methodLink RL 35 yX8_cock : Cond) ∈ wsA := mem_A (List.mem_of_getElem? (i := 1002) (by decide +kernel)) rfl
theorem mw_1003 : (.instanceMethod yX8_cock : Cond) ∈ wsA := mem_A (List.mem_of_getElem? (i := 1003) (by decide +kernel)) rfl
theorem mw_1004 : (.selects RX8 yX8_cock yX8_cock : Cond) ∈ wsA := mem_A (List.mem_of_getElem? (i := 1004) (by decide +kernel)) rfl
theorem mw_1005 : (.code yX8_cock cX8_cock 3 (some .int) : Cond) ∈ wsA := mem_A (List.mem_of_getElem? (i := 1005) (by decide +kernel)) rfl
theorem mw_1006 : (.methodLink RX8 201 yX8_isCock : Cond) ∈ wsA := mem_A (List.mem_of_getElem? (i := 1006) (by decide +kernel)) rfl
theorem mw_1008 : (.instanceMethod yX8_isCock : Cond) ∈ wsA := mem_A (List.mem_of_getElem? (i := 1008) (by decide +kernel)) rfl
theorem mw_1009 : (.code yX8_isCock cX8_isCock 2 (some .boolean) : Cond) ∈ wsA := mem_A (List.mem_of_getElem? (i := 1009) (by decide +kernel)) rfl
theorem mw_1010 : (.methodLink RX8 172 yX8_eye : Cond) ∈ wsA := mem_A (List.mem_of_getElem? (i := 1010) (by decide +kernel)) rfl
theorem mw_1012 : (.instanceMethod yX8_eye : Cond) ∈ wsA := mem_A (List.mem_of_getElem? (i := 1012) (by decide +kernel)) rfl
theorem mw_1013 : (.code yX8_eye cX8_eye 2 (some .int) : Cond) ∈ wsA := mem_A (List.mem_of_getElem? (i := 1013) (by decide +kernel)) rfl
theorem mw_1014 : (.methodLink RX8 175 yX8_sideBy : Cond) ∈ wsA := mem_A (List.mem_of_getElem? (i := 1014) (by decide +kernel)) rfl
theorem mw_1015 : (.static yX8_sideBy : Cond) ∈ wsA := mem_A (List.mem_of_getElem? (i := 1015) (by decide +kernel)) rfl
theorem mw_1016 : (.code yX8_sideBy cX8_sideBy 3 (some .int) : Cond) ∈ wsA := mem_A (List.mem_of_getElem? (i := 1016) (by decide +kernel)) rfl
theorem mw_1017 : (.methodLink RX8 204 yX8_isAsked : Cond) ∈ wsA := mem_A (List.mem_of_getElem? (i := 1017) (by decide +kernel)) rfl
theorem mw_1019 : (.instanceMethod yX8_isAsked : Cond) ∈ wsA := mem_A (List.mem_of_getElem? (i := 1019) (by decide +kernel)) rfl
theorem mw_1020 : (.code yX8_isAsked cX8_isAsked 2 (some .boolean) : Cond) ∈ wsA := mem_A (List.mem_of_getElem? (i := 1020) (by decide +kernel)) rfl
theorem mw_1021 : (.methodLink RX8 168 yX8_has : Cond) ∈ wsA := mem_A (List.mem_of_getElem? (i := 1021) (by decide +kernel)) rfl
theorem mw_1022 : (.static yX8_has : Cond) ∈ wsA := mem_A (List.mem_of_getElem? (i := 1022) (by decide +kernel)) rfl
theorem mw_1023 : (.code yX8_has cX8_has 2 (some .boolean) : Cond) ∈ wsA := mem_A (List.mem_of_getElem? (i := 1023) (by decide +kernel)) rfl
theorem mw_1024 : (.methodLink RX8 191 yX8_sawBy : Cond) ∈ wsA := mem_A (List.mem_of_getElem? (i := 1024) (by decide +kernel)) rfl
theorem mw_1026 : (.instanceMethod yX8_sawBy : Cond) ∈ wsA := mem_A (List.mem_of_getElem? (i := 1026) (by decide +kernel)) rfl
theorem mw_1027 : (.code yX8_sawBy cX8_sawBy 6 (some .int) : Cond) ∈ wsA := mem_A (List.mem_of_getElem? (i := 1027) (by decide +kernel)) rfl
theorem mw_1028 : (.methodLink RX8 185 yX8_sawOf : Cond) ∈ wsA := mem_A (List.mem_of_getElem? (i := 1028) (by decide +kernel)) rfl
theorem mw_1030 : (.instanceMethod yX8_sawOf : Cond) ∈ wsA := mem_A (List.mem_of_getElem? (i := 1030) (by decide +kernel)) rfl
theorem mw_1031 : (.code yX8_sawOf cX8_sawOf 3 (some .int) : Cond) ∈ wsA := mem_A (List.mem_of_getElem? (i := 1031) (by decide +kernel)) rfl
theorem mw_1032 : (.methodLink RX8 188 yX8_bits : Cond) ∈ wsA := mem_A (List.mem_of_getElem? (i := 1032) (by decide +kernel)) rfl
theorem mw_1033 : (.static yX8_bits : Cond) ∈ wsA := mem_A (List.mem_of_getElem? (i := 1033) (by decide +kernel)) rfl
theorem mw_1034 : (.code yX8_bits cX8_bits 3 (some .int) : Cond) ∈ wsA := mem_A (List.mem_of_getElem? (i := 1034) (by decide +kernel)) rfl
theorem mw_1035 : (.methodLink RL 39 yX8_one : Cond) ∈ wsA := mem_A (List.mem_of_getElem? (i := 1035) (by decide +kernel)) rfl
theorem mw_1036 : (.instanceMethod yX8_one : Cond) ∈ wsA := mem_A (List.mem_of_getElem? (i := 1036) (by decide +kernel)) rfl
theorem mw_1037 : (.selects RX8 yX8_one yX8_one : Cond) ∈ wsA := mem_A (List.mem_of_getElem? (i := 1037) (by decide +kernel)) rfl
theorem mw_1038 : (.code yX8_one cX8_one 3 (some .int) : Cond) ∈ wsA := mem_A (List.mem_of_getElem? (i := 1038) (by decide +kernel)) rfl
theorem mw_1039 : (.methodLink RX8 207 yX8_isOne : Cond) ∈ wsA := mem_A (List.mem_of_getElem? (i := 1039) (by decide +kernel)) rfl
theorem mw_1041 : (.instanceMethod yX8_isOne : Cond) ∈ wsA := mem_A (List.mem_of_getElem? (i := 1041) (by decide +kernel)) rfl
theorem mw_1042 : (.code yX8_isOne cX8_isOne 2 (some .boolean) : Cond) ∈ wsA := mem_A (List.mem_of_getElem? (i := 1042) (by decide +kernel)) rfl
theorem mw_1043 : (.constant RX8 210 (-1000000) : Cond) ∈ wsA := mem_A (List.mem_of_getElem? (i := 1043) (by decide +kernel)) rfl
theorem mw_1044 : (.methodLink RX8 211 yX8_walks : Cond) ∈ wsA := mem_A (List.mem_of_getElem? (i := 1044) (by decide +kernel)) rfl
theorem mw_1046 : (.instanceMethod yX8_walks : Cond) ∈ wsA := mem_A (List.mem_of_getElem? (i := 1046) (by decide +kernel)) rfl
theorem mw_1047 : (.code yX8_walks cX8_walks 4 (some .int) : Cond) ∈ wsA := mem_A (List.mem_of_getElem? (i := 1047) (by decide +kernel)) rfl
theorem mw_1048 : (.methodLink RL 43 yX8_saw : Cond) ∈ wsA := mem_A (List.mem_of_getElem? (i := 1048) (by decide +kernel)) rfl
theorem mw_1049 : (.instanceMethod yX8_saw : Cond) ∈ wsA := mem_A (List.mem_of_getElem? (i := 1049) (by decide +kernel)) rfl
theorem mw_1050 : (.selects RX8 yX8_saw yX8_saw : Cond) ∈ wsA := mem_A (List.mem_of_getElem? (i := 1050) (by decide +kernel)) rfl
theorem mw_1051 : (.code yX8_saw cX8_saw 3 (some .int) : Cond) ∈ wsA := mem_A (List.mem_of_getElem? (i := 1051) (by decide +kernel)) rfl
theorem mw_1052 : (.methodLink RL 47 yX8_known : Cond) ∈ wsA := mem_A (List.mem_of_getElem? (i := 1052) (by decide +kernel)) rfl
theorem mw_1053 : (.instanceMethod yX8_known : Cond) ∈ wsA := mem_A (List.mem_of_getElem? (i := 1053) (by decide +kernel)) rfl
theorem mw_1054 : (.selects RX8 yX8_known yX8_known : Cond) ∈ wsA := mem_A (List.mem_of_getElem? (i := 1054) (by decide +kernel)) rfl
theorem mw_1055 : (.code yX8_known cX8_known 4 (some .int) : Cond) ∈ wsA := mem_A (List.mem_of_getElem? (i := 1055) (by decide +kernel)) rfl
theorem mw_1056 : (.methodLink RL 51 yX8_hours : Cond) ∈ wsA := mem_A (List.mem_of_getElem? (i := 1056) (by decide +kernel)) rfl
theorem mw_1057 : (.instanceMethod yX8_hours : Cond) ∈ wsA := mem_A (List.mem_of_getElem? (i := 1057) (by decide +kernel)) rfl
theorem mw_1058 : (.selects RX8 yX8_hours yX8_hours : Cond) ∈ wsA := mem_A (List.mem_of_getElem? (i := 1058) (by decide +kernel)) rfl
theorem mw_1059 : (.code yX8_hours cX8_hours 3 (some .int) : Cond) ∈ wsA := mem_A (List.mem_of_getElem? (i := 1059) (by decide +kernel)) rfl
theorem mw_1060 : (.methodLink RX8 220 yX8_remembers : Cond) ∈ wsA := mem_A (List.mem_of_getElem? (i := 1060) (by decide +kernel)) rfl
theorem mw_1062 : (.instanceMethod yX8_remembers : Cond) ∈ wsA := mem_A (List.mem_of_getElem? (i := 1062) (by decide +kernel)) rfl
theorem mw_1063 : (.code yX8_remembers cX8_remembers 3 none : Cond) ∈ wsA := mem_A (List.mem_of_getElem? (i := 1063) (by decide +kernel)) rfl
theorem mw_1064 : (.methodLink RX8 223 yX8_hourGoes : Cond) ∈ wsA := mem_A (List.mem_of_getElem? (i := 1064) (by decide +kernel)) rfl
theorem mw_1066 : (.instanceMethod yX8_hourGoes : Cond) ∈ wsA := mem_A (List.mem_of_getElem? (i := 1066) (by decide +kernel)) rfl
theorem mw_1067 : (.code yX8_hourGoes cX8_hourGoes 6 none : Cond) ∈ wsA := mem_A (List.mem_of_getElem? (i := 1067) (by decide +kernel)) rfl
theorem mw_1068 : (.methodLink RX8 214 yX8_sees : Cond) ∈ wsA := mem_A (List.mem_of_getElem? (i := 1068) (by decide +kernel)) rfl
theorem mw_1070 : (.instanceMethod yX8_sees : Cond) ∈ wsA := mem_A (List.mem_of_getElem? (i := 1070) (by decide +kernel)) rfl
theorem mw_1071 : (.code yX8_sees cX8_sees 5 (some .boolean) : Cond) ∈ wsA := mem_A (List.mem_of_getElem? (i := 1071) (by decide +kernel)) rfl
theorem mw_1072 : (.methodLink RX8 179 yX8_isClear : Cond) ∈ wsA := mem_A (List.mem_of_getElem? (i := 1072) (by decide +kernel)) rfl
theorem mw_1074 : (.instanceMethod yX8_isClear : Cond) ∈ wsA := mem_A (List.mem_of_getElem? (i := 1074) (by decide +kernel)) rfl
theorem mw_1075 : (.code yX8_isClear cX8_isClear 8 (some .boolean) : Cond) ∈ wsA := mem_A (List.mem_of_getElem? (i := 1075) (by decide +kernel)) rfl
theorem mw_1076 : (.methodLink RX8 217 yX8_isSmoke : Cond) ∈ wsA := mem_A (List.mem_of_getElem? (i := 1076) (by decide +kernel)) rfl
theorem mw_1078 : (.instanceMethod yX8_isSmoke : Cond) ∈ wsA := mem_A (List.mem_of_getElem? (i := 1078) (by decide +kernel)) rfl
theorem mw_1079 : (.code yX8_isSmoke cX8_isSmoke 5 (some .boolean) : Cond) ∈ wsA := mem_A (List.mem_of_getElem? (i := 1079) (by decide +kernel)) rfl
theorem mw_1080 : (.methodLink RL 55 yX8_builds : Cond) ∈ wsA := mem_A (List.mem_of_getElem? (i := 1080) (by decide +kernel)) rfl
theorem mw_1081 : (.instanceMethod yX8_builds : Cond) ∈ wsA := mem_A (List.mem_of_getElem? (i := 1081) (by decide +kernel)) rfl
theorem mw_1082 : (.selects RX8 yX8_builds yX8_builds : Cond) ∈ wsA := mem_A (List.mem_of_getElem? (i := 1082) (by decide +kernel)) rfl
theorem mw_1083 : (.code yX8_builds cX8_builds 4 (some .int) : Cond) ∈ wsA := mem_A (List.mem_of_getElem? (i := 1083) (by decide +kernel)) rfl
theorem mw_1084 : (.methodLink RL 59 yX8_asks : Cond) ∈ wsA := mem_A (List.mem_of_getElem? (i := 1084) (by decide +kernel)) rfl
theorem mw_1085 : (.instanceMethod yX8_asks : Cond) ∈ wsA := mem_A (List.mem_of_getElem? (i := 1085) (by decide +kernel)) rfl
theorem mw_1086 : (.selects RX8 yX8_asks yX8_asks : Cond) ∈ wsA := mem_A (List.mem_of_getElem? (i := 1086) (by decide +kernel)) rfl
theorem mw_1087 : (.code yX8_asks cX8_asks 3 (some .int) : Cond) ∈ wsA := mem_A (List.mem_of_getElem? (i := 1087) (by decide +kernel)) rfl
theorem mw_1088 : (.methodLink RX8 226 yX8_knownMuch : Cond) ∈ wsA := mem_A (List.mem_of_getElem? (i := 1088) (by decide +kernel)) rfl
theorem mw_1090 : (.instanceMethod yX8_knownMuch : Cond) ∈ wsA := mem_A (List.mem_of_getElem? (i := 1090) (by decide +kernel)) rfl
theorem mw_1091 : (.code yX8_knownMuch cX8_knownMuch 1 (some .int) : Cond) ∈ wsA := mem_A (List.mem_of_getElem? (i := 1091) (by decide +kernel)) rfl
theorem mw_1092 : (.methodLink RL 63 yX8_undo : Cond) ∈ wsA := mem_A (List.mem_of_getElem? (i := 1092) (by decide +kernel)) rfl
theorem mw_1093 : (.instanceMethod yX8_undo : Cond) ∈ wsA := mem_A (List.mem_of_getElem? (i := 1093) (by decide +kernel)) rfl
theorem mw_1094 : (.selects RX8 yX8_undo yX8_undo : Cond) ∈ wsA := mem_A (List.mem_of_getElem? (i := 1094) (by decide +kernel)) rfl
theorem mw_1095 : (.code yX8_undo cX8_undo 3 (some .int) : Cond) ∈ wsA := mem_A (List.mem_of_getElem? (i := 1095) (by decide +kernel)) rfl
theorem mw_1096 : (.methodLink RL 67 yX8_now : Cond) ∈ wsA := mem_A (List.mem_of_getElem? (i := 1096) (by decide +kernel)) rfl
theorem mw_1097 : (.instanceMethod yX8_now : Cond) ∈ wsA := mem_A (List.mem_of_getElem? (i := 1097) (by decide +kernel)) rfl
theorem mw_1098 : (.selects RX8 yX8_now yX8_now : Cond) ∈ wsA := mem_A (List.mem_of_getElem? (i := 1098) (by decide +kernel)) rfl
theorem mw_1099 : (.code yX8_now cX8_now 2 (some .int) : Cond) ∈ wsA := mem_A (List.mem_of_getElem? (i := 1099) (by decide +kernel)) rfl
theorem mw_1100 : (.methodLink RX8 194 yX8_all : Cond) ∈ wsA := mem_A (List.mem_of_getElem? (i := 1100) (by decide +kernel)) rfl
theorem mw_1102 : (.instanceMethod yX8_all : Cond) ∈ wsA := mem_A (List.mem_of_getElem? (i := 1102) (by decide +kernel)) rfl
theorem mw_1103 : (.code yX8_all cX8_all 1 (some .int) : Cond) ∈ wsA := mem_A (List.mem_of_getElem? (i := 1103) (by decide +kernel)) rfl
theorem mw_1104 : (.methodLink RX8 229 yX8_cover : Cond) ∈ wsA := mem_A (List.mem_of_getElem? (i := 1104) (by decide +kernel)) rfl
theorem mw_1106 : (.instanceMethod yX8_cover : Cond) ∈ wsA := mem_A (List.mem_of_getElem? (i := 1106) (by decide +kernel)) rfl
theorem mw_1107 : (.code yX8_cover cX8_cover 4 (some .int) : Cond) ∈ wsA := mem_A (List.mem_of_getElem? (i := 1107) (by decide +kernel)) rfl
theorem mw_1108 : (.methodLink RX8 198 yX8_isLess : Cond) ∈ wsA := mem_A (List.mem_of_getElem? (i := 1108) (by decide +kernel)) rfl
theorem mw_1109 : (.static yX8_isLess : Cond) ∈ wsA := mem_A (List.mem_of_getElem? (i := 1109) (by decide +kernel)) rfl
theorem mw_1110 : (.code yX8_isLess cX8_isLess 2 (some .boolean) : Cond) ∈ wsA := mem_A (List.mem_of_getElem? (i := 1110) (by decide +kernel)) rfl
theorem mw_1111 : (.methodLink RL 71 yX8_view : Cond) ∈ wsA := mem_A (List.mem_of_getElem? (i := 1111) (by decide +kernel)) rfl
theorem mw_1112 : (.instanceMethod yX8_view : Cond) ∈ wsA := mem_A (List.mem_of_getElem? (i := 1112) (by decide +kernel)) rfl
theorem mw_1113 : (.selects RX8 yX8_view yX8_view : Cond) ∈ wsA := mem_A (List.mem_of_getElem? (i := 1113) (by decide +kernel)) rfl
theorem mw_1114 : (.code yX8_view cX8_view 3 (some .int) : Cond) ∈ wsA := mem_A (List.mem_of_getElem? (i := 1114) (by decide +kernel)) rfl
theorem mw_1115 : (.methodLink RX8 232 yX8_isHour : Cond) ∈ wsA := mem_A (List.mem_of_getElem? (i := 1115) (by decide +kernel)) rfl
theorem mw_1116 : (.static yX8_isHour : Cond) ∈ wsA := mem_A (List.mem_of_getElem? (i := 1116) (by decide +kernel)) rfl
theorem mw_1117 : (.code yX8_isHour cX8_isHour 1 (some .boolean) : Cond) ∈ wsA := mem_A (List.mem_of_getElem? (i := 1117) (by decide +kernel)) rfl
theorem mw_1118 : (.methodLink RX8 235 yX8_viewOf : Cond) ∈ wsA := mem_A (List.mem_of_getElem? (i := 1118) (by decide +kernel)) rfl
theorem mw_1120 : (.instanceMethod yX8_viewOf : Cond) ∈ wsA := mem_A (List.mem_of_getElem? (i := 1120) (by decide +kernel)) rfl
theorem mw_1121 : (.code yX8_viewOf cX8_viewOf 5 (some .int) : Cond) ∈ wsA := mem_A (List.mem_of_getElem? (i := 1121) (by decide +kernel)) rfl
theorem mw_1122 : (.methodLink RL 75 yX8_blind : Cond) ∈ wsA := mem_A (List.mem_of_getElem? (i := 1122) (by decide +kernel)) rfl
theorem mw_1123 : (.instanceMethod yX8_blind : Cond) ∈ wsA := mem_A (List.mem_of_getElem? (i := 1123) (by decide +kernel)) rfl
theorem mw_1124 : (.selects RX8 yX8_blind yX8_blind : Cond) ∈ wsA := mem_A (List.mem_of_getElem? (i := 1124) (by decide +kernel)) rfl
theorem mw_1125 : (.code yX8_blind cX8_blind 4 (some .int) : Cond) ∈ wsA := mem_A (List.mem_of_getElem? (i := 1125) (by decide +kernel)) rfl
theorem mw_1126 : (.constant RX8 238 (16777215) : Cond) ∈ wsA := mem_A (List.mem_of_getElem? (i := 1126) (by decide +kernel)) rfl
theorem mw_1127 : (.methodLink RL 79 yX8_most : Cond) ∈ wsA := mem_A (List.mem_of_getElem? (i := 1127) (by decide +kernel)) rfl
theorem mw_1128 : (.instanceMethod yX8_most : Cond) ∈ wsA := mem_A (List.mem_of_getElem? (i := 1128) (by decide +kernel)) rfl
theorem mw_1129 : (.selects RX8 yX8_most yX8_most : Cond) ∈ wsA := mem_A (List.mem_of_getElem? (i := 1129) (by decide +kernel)) rfl
theorem mw_1130 : (.code yX8_most cX8_most 8 (some .int) : Cond) ∈ wsA := mem_A (List.mem_of_getElem? (i := 1130) (by decide +kernel)) rfl
theorem mw_1131 : (.methodLink RX8 239 yX8_takes : Cond) ∈ wsA := mem_A (List.mem_of_getElem? (i := 1131) (by decide +kernel)) rfl
theorem mw_1133 : (.instanceMethod yX8_takes : Cond) ∈ wsA := mem_A (List.mem_of_getElem? (i := 1133) (by decide +kernel)) rfl
theorem mw_1134 : (.code yX8_takes cX8_takes 4 (some .int) : Cond) ∈ wsA := mem_A (List.mem_of_getElem? (i := 1134) (by decide +kernel)) rfl
theorem mw_1135 : (.methodLink RL 84 yX8_odds : Cond) ∈ wsA := mem_A (List.mem_of_getElem? (i := 1135) (by decide +kernel)) rfl
theorem mw_1136 : (.instanceMethod yX8_odds : Cond) ∈ wsA := mem_A (List.mem_of_getElem? (i := 1136) (by decide +kernel)) rfl
theorem mw_1137 : (.selects RX8 yX8_odds yX8_odds : Cond) ∈ wsA := mem_A (List.mem_of_getElem? (i := 1137) (by decide +kernel)) rfl
theorem mw_1138 : (.code yX8_odds cX8_odds 11 (some .int) : Cond) ∈ wsA := mem_A (List.mem_of_getElem? (i := 1138) (by decide +kernel)) rfl
theorem mw_1139 : (.methodLink RX8 242 yX8_lowest : Cond) ∈ wsA := mem_A (List.mem_of_getElem? (i := 1139) (by decide +kernel)) rfl
theorem mw_1140 : (.static yX8_lowest : Cond) ∈ wsA := mem_A (List.mem_of_getElem? (i := 1140) (by decide +kernel)) rfl
theorem mw_1141 : (.code yX8_lowest cX8_lowest 6 (some .int) : Cond) ∈ wsA := mem_A (List.mem_of_getElem? (i := 1141) (by decide +kernel)) rfl
theorem mw_1142 : (.methodLink RL 88 yX8_faced : Cond) ∈ wsA := mem_A (List.mem_of_getElem? (i := 1142) (by decide +kernel)) rfl
theorem mw_1143 : (.instanceMethod yX8_faced : Cond) ∈ wsA := mem_A (List.mem_of_getElem? (i := 1143) (by decide +kernel)) rfl
theorem mw_1144 : (.selects RX8 yX8_faced yX8_faced : Cond) ∈ wsA := mem_A (List.mem_of_getElem? (i := 1144) (by decide +kernel)) rfl
theorem mw_1145 : (.code yX8_faced cX8_faced 3 (some .int) : Cond) ∈ wsA := mem_A (List.mem_of_getElem? (i := 1145) (by decide +kernel)) rfl
theorem mw_1146 : (.methodLink RL 92 yX8_laws : Cond) ∈ wsA := mem_A (List.mem_of_getElem? (i := 1146) (by decide +kernel)) rfl
theorem mw_1147 : (.instanceMethod yX8_laws : Cond) ∈ wsA := mem_A (List.mem_of_getElem? (i := 1147) (by decide +kernel)) rfl
theorem mw_1148 : (.selects RX8 yX8_laws yX8_laws : Cond) ∈ wsA := mem_A (List.mem_of_getElem? (i := 1148) (by decide +kernel)) rfl
theorem mw_1149 : (.code yX8_laws cX8_laws 5 (some .int) : Cond) ∈ wsA := mem_A (List.mem_of_getElem? (i := 1149) (by decide +kernel)) rfl
theorem mw_1150 : (.methodLink RX8 245 yX8_isLaw : Cond) ∈ wsA := mem_A (List.mem_of_getElem? (i := 1150) (by decide +kernel)) rfl
theorem mw_1152 : (.instanceMethod yX8_isLaw : Cond) ∈ wsA := mem_A (List.mem_of_getElem? (i := 1152) (by decide +kernel)) rfl
theorem mw_1153 : (.code yX8_isLaw cX8_isLaw 4 (some .boolean) : Cond) ∈ wsA := mem_A (List.mem_of_getElem? (i := 1153) (by decide +kernel)) rfl
theorem mw_1154 : (.methodLink RL 96 yX8_tryNext : Cond) ∈ wsA := mem_A (List.mem_of_getElem? (i := 1154) (by decide +kernel)) rfl
theorem mw_1155 : (.instanceMethod yX8_tryNext : Cond) ∈ wsA := mem_A (List.mem_of_getElem? (i := 1155) (by decide +kernel)) rfl
theorem mw_1156 : (.selects RX8 yX8_tryNext yX8_tryNext : Cond) ∈ wsA := mem_A (List.mem_of_getElem? (i := 1156) (by decide +kernel)) rfl
theorem mw_1157 : (.code yX8_tryNext cX8_tryNext 7 (some .int) : Cond) ∈ wsA := mem_A (List.mem_of_getElem? (i := 1157) (by decide +kernel)) rfl
theorem mw_1158 : (.methodLink RX8 248 yX8_laws : Cond) ∈ wsA := mem_A (List.mem_of_getElem? (i := 1158) (by decide +kernel)) rfl
theorem mw_1159 : (.methodLink RL 100 yX8_met : Cond) ∈ wsA := mem_A (List.mem_of_getElem? (i := 1159) (by decide +kernel)) rfl
theorem mw_1160 : (.instanceMethod yX8_met : Cond) ∈ wsA := mem_A (List.mem_of_getElem? (i := 1160) (by decide +kernel)) rfl
theorem mw_1161 : (.selects RX8 yX8_met yX8_met : Cond) ∈ wsA := mem_A (List.mem_of_getElem? (i := 1161) (by decide +kernel)) rfl
theorem mw_1162 : (.code yX8_met cX8_met 3 (some .int) : Cond) ∈ wsA := mem_A (List.mem_of_getElem? (i := 1162) (by decide +kernel)) rfl
theorem mw_1163 : (.methodLink RL 104 yX8_ways : Cond) ∈ wsA := mem_A (List.mem_of_getElem? (i := 1163) (by decide +kernel)) rfl
theorem mw_1164 : (.instanceMethod yX8_ways : Cond) ∈ wsA := mem_A (List.mem_of_getElem? (i := 1164) (by decide +kernel)) rfl
theorem mw_1165 : (.selects RX8 yX8_ways yX8_ways : Cond) ∈ wsA := mem_A (List.mem_of_getElem? (i := 1165) (by decide +kernel)) rfl
theorem mw_1166 : (.code yX8_ways cX8_ways 5 (some .int) : Cond) ∈ wsA := mem_A (List.mem_of_getElem? (i := 1166) (by decide +kernel)) rfl
theorem mw_1167 : (.methodLink RX8 251 yX8_wrong : Cond) ∈ wsA := mem_A (List.mem_of_getElem? (i := 1167) (by decide +kernel)) rfl
theorem mw_1169 : (.instanceMethod yX8_wrong : Cond) ∈ wsA := mem_A (List.mem_of_getElem? (i := 1169) (by decide +kernel)) rfl
theorem mw_1170 : (.code yX8_wrong cX8_wrong 4 (some .int) : Cond) ∈ wsA := mem_A (List.mem_of_getElem? (i := 1170) (by decide +kernel)) rfl
theorem mw_1171 : (.methodLink RX8 254 yX8_told : Cond) ∈ wsA := mem_A (List.mem_of_getElem? (i := 1171) (by decide +kernel)) rfl
theorem mw_1172 : (.static yX8_told : Cond) ∈ wsA := mem_A (List.mem_of_getElem? (i := 1172) (by decide +kernel)) rfl
theorem mw_1173 : (.code yX8_told cX8_told 1 (some .int) : Cond) ∈ wsA := mem_A (List.mem_of_getElem? (i := 1173) (by decide +kernel)) rfl
theorem mw_1174 : (.methodLink RL 108 yX8_falses : Cond) ∈ wsA := mem_A (List.mem_of_getElem? (i := 1174) (by decide +kernel)) rfl
theorem mw_1175 : (.instanceMethod yX8_falses : Cond) ∈ wsA := mem_A (List.mem_of_getElem? (i := 1175) (by decide +kernel)) rfl
theorem mw_1176 : (.selects RX8 yX8_falses yX8_falses : Cond) ∈ wsA := mem_A (List.mem_of_getElem? (i := 1176) (by decide +kernel)) rfl
theorem mw_1177 : (.code yX8_falses cX8_falses 4 (some .int) : Cond) ∈ wsA := mem_A (List.mem_of_getElem? (i := 1177) (by decide +kernel)) rfl
theorem mw_1178 : (.methodLink RL 112 yX8_forget : Cond) ∈ wsA := mem_A (List.mem_of_getElem? (i := 1178) (by decide +kernel)) rfl
theorem mw_1179 : (.instanceMethod yX8_forget : Cond) ∈ wsA := mem_A (List.mem_of_getElem? (i := 1179) (by decide +kernel)) rfl
theorem mw_1180 : (.selects RX8 yX8_forget yX8_forget : Cond) ∈ wsA := mem_A (List.mem_of_getElem? (i := 1180) (by decide +kernel)) rfl
theorem mw_1181 : (.code yX8_forget cX8_forget 2 (some .int) : Cond) ∈ wsA := mem_A (List.mem_of_getElem? (i := 1181) (by decide +kernel)) rfl
theorem mw_1182 : (.methodLink RL 116 yX8_mark : Cond) ∈ wsA := mem_A (List.mem_of_getElem? (i := 1182) (by decide +kernel)) rfl
theorem mw_1183 : (.instanceMethod yX8_mark : Cond) ∈ wsA := mem_A (List.mem_of_getElem? (i := 1183) (by decide +kernel)) rfl
theorem mw_1184 : (.selects RX8 yX8_mark yX8_mark : Cond) ∈ wsA := mem_A (List.mem_of_getElem? (i := 1184) (by decide +kernel)) rfl
theorem mw_1185 : (.code yX8_mark cX8_mark 6 (some .int) : Cond) ∈ wsA := mem_A (List.mem_of_getElem? (i := 1185) (by decide +kernel)) rfl
theorem mw_1186 : (.constantLong RX8 261 (11) : Cond) ∈ wsA := mem_A (List.mem_of_getElem? (i := 1186) (by decide +kernel)) rfl
theorem mw_1187 : (.constantLong RX8 263 (101) : Cond) ∈ wsA := mem_A (List.mem_of_getElem? (i := 1187) (by decide +kernel)) rfl
theorem mw_1188 : (.constantLong RX8 265 (1011) : Cond) ∈ wsA := mem_A (List.mem_of_getElem? (i := 1188) (by decide +kernel)) rfl
theorem mw_1189 : (.constantLong RX8 267 (10101) : Cond) ∈ wsA := mem_A (List.mem_of_getElem? (i := 1189) (by decide +kernel)) rfl
theorem mw_1190 : (.constantLong RX8 269 (100001) : Cond) ∈ wsA := mem_A (List.mem_of_getElem? (i := 1190) (by decide +kernel)) rfl
theorem mw_1191 : (.methodLink RL 120 yX8_keep : Cond) ∈ wsA := mem_A (List.mem_of_getElem? (i := 1191) (by decide +kernel)) rfl
theorem mw_1192 : (.instanceMethod yX8_keep : Cond) ∈ wsA := mem_A (List.mem_of_getElem? (i := 1192) (by decide +kernel)) rfl
theorem mw_1193 : (.selects RX8 yX8_keep yX8_keep : Cond) ∈ wsA := mem_A (List.mem_of_getElem? (i := 1193) (by decide +kernel)) rfl
theorem mw_1194 : (.code yX8_keep cX8_keep 3 (some .int) : Cond) ∈ wsA := mem_A (List.mem_of_getElem? (i := 1194) (by decide +kernel)) rfl
theorem mw_1195 : (.methodLink RL 124 yX8_back : Cond) ∈ wsA := mem_A (List.mem_of_getElem? (i := 1195) (by decide +kernel)) rfl
theorem mw_1196 : (.instanceMethod yX8_back : Cond) ∈ wsA := mem_A (List.mem_of_getElem? (i := 1196) (by decide +kernel)) rfl
theorem mw_1197 : (.selects RX8 yX8_back yX8_back : Cond) ∈ wsA := mem_A (List.mem_of_getElem? (i := 1197) (by decide +kernel)) rfl
theorem mw_1198 : (.code yX8_back cX8_back 3 (some .int) : Cond) ∈ wsA := mem_A (List.mem_of_getElem? (i := 1198) (by decide +kernel)) rfl
theorem mw_1199 : (.methodLink RL 128 yX8_count : Cond) ∈ wsA := mem_A (List.mem_of_getElem? (i := 1199) (by decide +kernel)) rfl
theorem mw_1200 : (.instanceMethod yX8_count : Cond) ∈ wsA := mem_A (List.mem_of_getElem? (i := 1200) (by decide +kernel)) rfl
theorem mw_1201 : (.selects RX8 yX8_count yX8_count : Cond) ∈ wsA := mem_A (List.mem_of_getElem? (i := 1201) (by decide +kernel)) rfl
theorem mw_1202 : (.code yX8_count cX8_count 2 (some .int) : Cond) ∈ wsA := mem_A (List.mem_of_getElem? (i := 1202) (by decide +kernel)) rfl
theorem mw_1203 : (.methodLink RL 133 yX8_trace : Cond) ∈ wsA := mem_A (List.mem_of_getElem? (i := 1203) (by decide +kernel)) rfl
theorem mw_1204 : (.instanceMethod yX8_trace : Cond) ∈ wsA := mem_A (List.mem_of_getElem? (i := 1204) (by decide +kernel)) rfl
theorem mw_1205 : (.selects RX8 yX8_trace yX8_trace : Cond) ∈ wsA := mem_A (List.mem_of_getElem? (i := 1205) (by decide +kernel)) rfl
theorem mw_1206 : (.code yX8_trace cX8_trace 1 (some .long) : Cond) ∈ wsA := mem_A (List.mem_of_getElem? (i := 1206) (by decide +kernel)) rfl
theorem ilX0_0 : u_lay RX0 TX0 0 ∈ wsA := mem_A (List.mem_of_getElem? (i := 278) (by decide +kernel)) rfl
theorem ilX0_1 : u_lay RX0 TX0 1 ∈ wsA := mem_A (List.mem_of_getElem? (i := 280) (by decide +kernel)) rfl
theorem ilX0_2 : u_lay RX0 TX0 2 ∈ wsA := mem_A (List.mem_of_getElem? (i := 282) (by decide +kernel)) rfl
theorem ilX0_3 : u_lay RX0 TX0 3 ∈ wsA := mem_A (List.mem_of_getElem? (i := 284) (by decide +kernel)) rfl
theorem ilX0_4 : u_lay RX0 TX0 4 ∈ wsA := mem_A (List.mem_of_getElem? (i := 286) (by decide +kernel)) rfl
theorem ilX0_5 : u_lay RX0 TX0 5 ∈ wsA := mem_A (List.mem_of_getElem? (i := 288) (by decide +kernel)) rfl
theorem inlX0 : ∀ x ∈ u_ws RX0 TX0 6, x ∈ wsA := u_all (show ∀ k, k < 6 → u_lay RX0 TX0 k ∈ wsA from (lt_s (lt_s (lt_s (lt_s (lt_s (lt_s lt_0 ilX0_0) ilX0_1) ilX0_2) ilX0_3) ilX0_4) ilX0_5))
theorem ilX1_0 : u_lay RX1 TX1 0 ∈ wsA := mem_A (List.mem_of_getElem? (i := 180) (by decide +kernel)) rfl
theorem ilX1_1 : u_lay RX1 TX1 1 ∈ wsA := mem_A (List.mem_of_getElem? (i := 182) (by decide +kernel)) rfl
theorem ilX1_2 : u_lay RX1 TX1 2 ∈ wsA := mem_A (List.mem_of_getElem? (i := 184) (by decide +kernel)) rfl
theorem ilX1_3 : u_lay RX1 TX1 3 ∈ wsA := mem_A (List.mem_of_getElem? (i := 186) (by decide +kernel)) rfl
theorem ilX1_4 : u_lay RX1 TX1 4 ∈ wsA := mem_A (List.mem_of_getElem? (i := 188) (by decide +kernel)) rfl
theorem ilX1_5 : u_lay RX1 TX1 5 ∈ wsA := mem_A (List.mem_of_getElem? (i := 190) (by decide +kernel)) rfl
theorem ilX1_6 : u_lay RX1 TX1 6 ∈ wsA := mem_A (List.mem_of_getElem? (i := 192) (by decide +kernel)) rfl
theorem inlX1 : ∀ x ∈ u_ws RX1 TX1 7, x ∈ wsA := u_all (show ∀ k, k < 7 → u_lay RX1 TX1 k ∈ wsA from (lt_s (lt_s (lt_s (lt_s (lt_s (lt_s (lt_s lt_0 ilX1_0) ilX1_1) ilX1_2) ilX1_3) ilX1_4) ilX1_5) ilX1_6))
theorem ilX2_0 : u_lay RX2 TX2 0 ∈ wsA := mem_A (List.mem_of_getElem? (i := 299) (by decide +kernel)) rfl
theorem inlX2 : ∀ x ∈ u_ws RX2 TX2 1, x ∈ wsA := u_all (show ∀ k, k < 1 → u_lay RX2 TX2 k ∈ wsA from (lt_s lt_0 ilX2_0))
theorem ilX3_0 : u_lay RX3 TX3 0 ∈ wsA := mem_A (List.mem_of_getElem? (i := 236) (by decide +kernel)) rfl
theorem ilX3_1 : u_lay RX3 TX3 1 ∈ wsA := mem_A (List.mem_of_getElem? (i := 238) (by decide +kernel)) rfl
theorem ilX3_2 : u_lay RX3 TX3 2 ∈ wsA := mem_A (List.mem_of_getElem? (i := 240) (by decide +kernel)) rfl
theorem ilX3_3 : u_lay RX3 TX3 3 ∈ wsA := mem_A (List.mem_of_getElem? (i := 242) (by decide +kernel)) rfl
theorem ilX3_4 : u_lay RX3 TX3 4 ∈ wsA := mem_A (List.mem_of_getElem? (i := 244) (by decide +kernel)) rfl
theorem ilX3_5 : u_lay RX3 TX3 5 ∈ wsA := mem_A (List.mem_of_getElem? (i := 246) (by decide +kernel)) rfl
theorem ilX3_6 : u_lay RX3 TX3 6 ∈ wsA := mem_A (List.mem_of_getElem? (i := 248) (by decide +kernel)) rfl
theorem ilX3_7 : u_lay RX3 TX3 7 ∈ wsA := mem_A (List.mem_of_getElem? (i := 250) (by decide +kernel)) rfl
theorem inlX3 : ∀ x ∈ u_ws RX3 TX3 8, x ∈ wsA := u_all (show ∀ k, k < 8 → u_lay RX3 TX3 k ∈ wsA from (lt_s (lt_s (lt_s (lt_s (lt_s (lt_s (lt_s (lt_s lt_0 ilX3_0) ilX3_1) ilX3_2) ilX3_3) ilX3_4) ilX3_5) ilX3_6) ilX3_7))
theorem ilX4_0 : u_lay RX4 TX4 0 ∈ wsA := mem_A (List.mem_of_getElem? (i := 198) (by decide +kernel)) rfl
theorem ilX4_1 : u_lay RX4 TX4 1 ∈ wsA := mem_A (List.mem_of_getElem? (i := 200) (by decide +kernel)) rfl
theorem inlX4 : ∀ x ∈ u_ws RX4 TX4 2, x ∈ wsA := u_all (show ∀ k, k < 2 → u_lay RX4 TX4 k ∈ wsA from (lt_s (lt_s lt_0 ilX4_0) ilX4_1))
theorem ilX5_0 : u_lay RX5 TX5 0 ∈ wsA := mem_A (List.mem_of_getElem? (i := 133) (by decide +kernel)) rfl
theorem ilX5_1 : u_lay RX5 TX5 1 ∈ wsA := mem_A (List.mem_of_getElem? (i := 135) (by decide +kernel)) rfl
theorem ilX5_2 : u_lay RX5 TX5 2 ∈ wsA := mem_A (List.mem_of_getElem? (i := 137) (by decide +kernel)) rfl
theorem ilX5_3 : u_lay RX5 TX5 3 ∈ wsA := mem_A (List.mem_of_getElem? (i := 139) (by decide +kernel)) rfl
theorem ilX5_4 : u_lay RX5 TX5 4 ∈ wsA := mem_A (List.mem_of_getElem? (i := 141) (by decide +kernel)) rfl
theorem inlX5 : ∀ x ∈ u_ws RX5 TX5 5, x ∈ wsA := u_all (show ∀ k, k < 5 → u_lay RX5 TX5 k ∈ wsA from (lt_s (lt_s (lt_s (lt_s (lt_s lt_0 ilX5_0) ilX5_1) ilX5_2) ilX5_3) ilX5_4))
theorem ilX6_0 : u_lay RX6 TX6 0 ∈ wsA := mem_A (List.mem_of_getElem? (i := 259) (by decide +kernel)) rfl
theorem ilX6_1 : u_lay RX6 TX6 1 ∈ wsA := mem_A (List.mem_of_getElem? (i := 261) (by decide +kernel)) rfl
theorem inlX6 : ∀ x ∈ u_ws RX6 TX6 2, x ∈ wsA := u_all (show ∀ k, k < 2 → u_lay RX6 TX6 k ∈ wsA from (lt_s (lt_s lt_0 ilX6_0) ilX6_1))
theorem ilX7_0 : u_lay RX7 TX7 0 ∈ wsA := mem_A (List.mem_of_getElem? (i := 312) (by decide +kernel)) rfl
theorem ilX7_1 : u_lay RX7 TX7 1 ∈ wsA := mem_A (List.mem_of_getElem? (i := 314) (by decide +kernel)) rfl
theorem ilX7_2 : u_lay RX7 TX7 2 ∈ wsA := mem_A (List.mem_of_getElem? (i := 316) (by decide +kernel)) rfl
theorem ilX7_3 : u_lay RX7 TX7 3 ∈ wsA := mem_A (List.mem_of_getElem? (i := 318) (by decide +kernel)) rfl
theorem ilX7_4 : u_lay RX7 TX7 4 ∈ wsA := mem_A (List.mem_of_getElem? (i := 320) (by decide +kernel)) rfl
theorem ilX7_5 : u_lay RX7 TX7 5 ∈ wsA := mem_A (List.mem_of_getElem? (i := 322) (by decide +kernel)) rfl
theorem ilX7_6 : u_lay RX7 TX7 6 ∈ wsA := mem_A (List.mem_of_getElem? (i := 324) (by decide +kernel)) rfl
theorem inlX7 : ∀ x ∈ u_ws RX7 TX7 7, x ∈ wsA := u_all (show ∀ k, k < 7 → u_lay RX7 TX7 k ∈ wsA from (lt_s (lt_s (lt_s (lt_s (lt_s (lt_s (lt_s lt_0 ilX7_0) ilX7_1) ilX7_2) ilX7_3) ilX7_4) ilX7_5) ilX7_6))
theorem ilX8_0 : u_lay RX8 TX8 0 ∈ wsA := mem_A (List.mem_of_getElem? (i := 854) (by decide +kernel)) rfl
theorem ilX8_1 : u_lay RX8 TX8 1 ∈ wsA := mem_A (List.mem_of_getElem? (i := 856) (by decide +kernel)) rfl
theorem ilX8_2 : u_lay RX8 TX8 2 ∈ wsA := mem_A (List.mem_of_getElem? (i := 858) (by decide +kernel)) rfl
theorem ilX8_3 : u_lay RX8 TX8 3 ∈ wsA := mem_A (List.mem_of_getElem? (i := 860) (by decide +kernel)) rfl
theorem ilX8_4 : u_lay RX8 TX8 4 ∈ wsA := mem_A (List.mem_of_getElem? (i := 862) (by decide +kernel)) rfl
theorem ilX8_5 : u_lay RX8 TX8 5 ∈ wsA := mem_A (List.mem_of_getElem? (i := 864) (by decide +kernel)) rfl
theorem ilX8_6 : u_lay RX8 TX8 6 ∈ wsA := mem_A (List.mem_of_getElem? (i := 866) (by decide +kernel)) rfl
theorem ilX8_7 : u_lay RX8 TX8 7 ∈ wsA := mem_A (List.mem_of_getElem? (i := 868) (by decide +kernel)) rfl
theorem ilX8_8 : u_lay RX8 TX8 8 ∈ wsA := mem_A (List.mem_of_getElem? (i := 870) (by decide +kernel)) rfl
theorem ilX8_9 : u_lay RX8 TX8 9 ∈ wsA := mem_A (List.mem_of_getElem? (i := 872) (by decide +kernel)) rfl
theorem ilX8_10 : u_lay RX8 TX8 10 ∈ wsA := mem_A (List.mem_of_getElem? (i := 874) (by decide +kernel)) rfl
theorem ilX8_11 : u_lay RX8 TX8 11 ∈ wsA := mem_A (List.mem_of_getElem? (i := 876) (by decide +kernel)) rfl
theorem ilX8_12 : u_lay RX8 TX8 12 ∈ wsA := mem_A (List.mem_of_getElem? (i := 878) (by decide +kernel)) rfl
theorem ilX8_13 : u_lay RX8 TX8 13 ∈ wsA := mem_A (List.mem_of_getElem? (i := 880) (by decide +kernel)) rfl
theorem ilX8_14 : u_lay RX8 TX8 14 ∈ wsA := mem_A (List.mem_of_getElem? (i := 882) (by decide +kernel)) rfl
theorem ilX8_15 : u_lay RX8 TX8 15 ∈ wsA := mem_A (List.mem_of_getElem? (i := 884) (by decide +kernel)) rfl
theorem ilX8_16 : u_lay RX8 TX8 16 ∈ wsA := mem_A (List.mem_of_getElem? (i := 886) (by decide +kernel)) rfl
theorem ilX8_17 : u_lay RX8 TX8 17 ∈ wsA := mem_A (List.mem_of_getElem? (i := 888) (by decide +kernel)) rfl
theorem ilX8_18 : u_lay RX8 TX8 18 ∈ wsA := mem_A (List.mem_of_getElem? (i := 890) (by decide +kernel)) rfl
theorem ilX8_19 : u_lay RX8 TX8 19 ∈ wsA := mem_A (List.mem_of_getElem? (i := 892) (by decide +kernel)) rfl
theorem ilX8_20 : u_lay RX8 TX8 20 ∈ wsA := mem_A (List.mem_of_getElem? (i := 894) (by decide +kernel)) rfl
theorem ilX8_21 : u_lay RX8 TX8 21 ∈ wsA := mem_A (List.mem_of_getElem? (i := 896) (by decide +kernel)) rfl
theorem ilX8_22 : u_lay RX8 TX8 22 ∈ wsA := mem_A (List.mem_of_getElem? (i := 898) (by decide +kernel)) rfl
theorem ilX8_23 : u_lay RX8 TX8 23 ∈ wsA := mem_A (List.mem_of_getElem? (i := 900) (by decide +kernel)) rfl
theorem ilX8_24 : u_lay RX8 TX8 24 ∈ wsA := mem_A (List.mem_of_getElem? (i := 902) (by decide +kernel)) rfl
theorem ilX8_25 : u_lay RX8 TX8 25 ∈ wsA := mem_A (List.mem_of_getElem? (i := 904) (by decide +kernel)) rfl
theorem ilX8_26 : u_lay RX8 TX8 26 ∈ wsA := mem_A (List.mem_of_getElem? (i := 906) (by decide +kernel)) rfl
theorem ilX8_27 : u_lay RX8 TX8 27 ∈ wsA := mem_A (List.mem_of_getElem? (i := 908) (by decide +kernel)) rfl
theorem ilX8_28 : u_lay RX8 TX8 28 ∈ wsA := mem_A (List.mem_of_getElem? (i := 910) (by decide +kernel)) rfl
theorem ilX8_29 : u_lay RX8 TX8 29 ∈ wsA := mem_A (List.mem_of_getElem? (i := 912) (by decide +kernel)) rfl
theorem ilX8_30 : u_lay RX8 TX8 30 ∈ wsA := mem_A (List.mem_of_getElem? (i := 914) (by decide +kernel)) rfl
theorem ilX8_31 : u_lay RX8 TX8 31 ∈ wsA := mem_A (List.mem_of_getElem? (i := 916) (by decide +kernel)) rfl
theorem ilX8_32 : u_lay RX8 TX8 32 ∈ wsA := mem_A (List.mem_of_getElem? (i := 918) (by decide +kernel)) rfl
theorem ilX8_33 : u_lay RX8 TX8 33 ∈ wsA := mem_A (List.mem_of_getElem? (i := 920) (by decide +kernel)) rfl
theorem ilX8_34 : u_lay RX8 TX8 34 ∈ wsA := mem_A (List.mem_of_getElem? (i := 922) (by decide +kernel)) rfl
theorem ilX8_35 : u_lay RX8 TX8 35 ∈ wsA := mem_A (List.mem_of_getElem? (i := 924) (by decide +kernel)) rfl
theorem ilX8_36 : u_lay RX8 TX8 36 ∈ wsA := mem_A (List.mem_of_getElem? (i := 926) (by decide +kernel)) rfl
theorem inlX8 : ∀ x ∈ u_ws RX8 TX8 37, x ∈ wsA := u_all (show ∀ k, k < 37 → u_lay RX8 TX8 k ∈ wsA from (lt_s (lt_s (lt_s (lt_s (lt_s (lt_s (lt_s (lt_s (lt_s (lt_s (lt_s (lt_s (lt_s (lt_s (lt_s (lt_s (lt_s (lt_s (lt_s (lt_s (lt_s (lt_s (lt_s (lt_s (lt_s (lt_s (lt_s (lt_s (lt_s (lt_s (lt_s (lt_s (lt_s (lt_s (lt_s (lt_s (lt_s lt_0 ilX8_0) ilX8_1) ilX8_2) ilX8_3) ilX8_4) ilX8_5) ilX8_6) ilX8_7) ilX8_8) ilX8_9) ilX8_10) ilX8_11) ilX8_12) ilX8_13) ilX8_14) ilX8_15) ilX8_16) ilX8_17) ilX8_18) ilX8_19) ilX8_20) ilX8_21) ilX8_22) ilX8_23) ilX8_24) ilX8_25) ilX8_26) ilX8_27) ilX8_28) ilX8_29) ilX8_30) ilX8_31) ilX8_32) ilX8_33) ilX8_34) ilX8_35) ilX8_36))
