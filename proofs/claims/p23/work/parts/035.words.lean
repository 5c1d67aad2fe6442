/-- the tables' words that hold on in every later state -/
def lw_g : List Cond := lw_tbl.filter goodWord
theorem lw_g_good {w : Cond} (h : w ∈ lw_g) : (w.onTables && w.keeps) = true ∨ ∃ ty, w = .arrayClass ty := good_of_word (List.mem_filter.mp h).2
theorem wd_p {w : Cond} (i : Nat) (h : lw_tbl[i]? = some w) (hg : goodWord w = true) : w ∈ lw_g := List.mem_filter.mpr ⟨List.mem_of_getElem? h, hg⟩
theorem wd_c1 {w : Cond} (i : Nat) (h : tables_1_1[i]? = some w) (hg : goodWord w = true) : w ∈ lw_g := List.mem_filter.mpr ⟨List.mem_append_right _ (List.mem_append_left _ (List.mem_of_getElem? h)), hg⟩
theorem wd_c2 {w : Cond} (i : Nat) (h : tables_1_2[i]? = some w) (hg : goodWord w = true) : w ∈ lw_g := List.mem_filter.mpr ⟨List.mem_append_right _ (List.mem_append_right _ (List.mem_append_left _ (List.mem_of_getElem? h))), hg⟩
theorem wd_c3 {w : Cond} (i : Nat) (h : tables_1_3[i]? = some w) (hg : goodWord w = true) : w ∈ lw_g := List.mem_filter.mpr ⟨List.mem_append_right _ (List.mem_append_right _ (List.mem_append_right _ (List.mem_append_left _ (List.mem_of_getElem? h)))), hg⟩
theorem wd_c4 {w : Cond} (i : Nat) (h : tables_1_4[i]? = some w) (hg : goodWord w = true) : w ∈ lw_g := List.mem_filter.mpr ⟨List.mem_append_right _ (List.mem_append_right _ (List.mem_append_right _ (List.mem_append_right _ (List.mem_append_left _ (List.mem_of_getElem? h))))), hg⟩
theorem wd_c5 {w : Cond} (i : Nat) (h : tables_1_5[i]? = some w) (hg : goodWord w = true) : w ∈ lw_g := List.mem_filter.mpr ⟨List.mem_append_right _ (List.mem_append_right _ (List.mem_append_right _ (List.mem_append_right _ (List.mem_append_right _ (List.mem_append_left _ (List.mem_of_getElem? h)))))), hg⟩
theorem wd_c6 {w : Cond} (i : Nat) (h : tables_1_6[i]? = some w) (hg : goodWord w = true) : w ∈ lw_g := List.mem_filter.mpr ⟨List.mem_append_right _ (List.mem_append_right _ (List.mem_append_right _ (List.mem_append_right _ (List.mem_append_right _ (List.mem_append_right _ (List.mem_append_left _ (List.mem_of_getElem? h))))))), hg⟩
theorem wd_c7 {w : Cond} (i : Nat) (h : tables_1_7[i]? = some w) (hg : goodWord w = true) : w ∈ lw_g := List.mem_filter.mpr ⟨List.mem_append_right _ (List.mem_append_right _ (List.mem_append_right _ (List.mem_append_right _ (List.mem_append_right _ (List.mem_append_right _ (List.mem_append_right _ (List.mem_append_left _ (List.mem_of_getElem? h)))))))), hg⟩
theorem wd_c8 {w : Cond} (i : Nat) (h : tables_1_8[i]? = some w) (hg : goodWord w = true) : w ∈ lw_g := List.mem_filter.mpr ⟨List.mem_append_right _ (List.mem_append_right _ (List.mem_append_right _ (List.mem_append_right _ (List.mem_append_right _ (List.mem_append_right _ (List.mem_append_right _ (List.mem_append_right _ (List.mem_of_getElem? h)))))))), hg⟩
set_option maxRecDepth 20000 in
theorem wd_0 : Cond.selects RX9 yX9_skipBlanks yX9_skipBlanks ∈ lw_g := wd_p 0 rfl rfl
set_option maxRecDepth 20000 in
theorem wd_1 : Cond.selects RX9 yX9_takeWord yX9_takeWord ∈ lw_g := wd_p 1 rfl rfl
set_option maxRecDepth 20000 in
theorem wd_2 : Cond.selects RX9 yX9_takeNumber yX9_takeNumber ∈ lw_g := wd_p 2 rfl rfl
set_option maxRecDepth 20000 in
theorem wd_3 : Cond.selects RX5 yX5_takeLine yX5_takeLine ∈ lw_g := wd_p 3 rfl rfl
set_option maxRecDepth 20000 in
theorem wd_4 : Cond.selects RX5 yX5_takeFloor yX5_takeFloor ∈ lw_g := wd_p 4 rfl rfl
set_option maxRecDepth 20000 in
theorem wd_5 : Cond.selects RX5 yX5_refuse yX5_refuse ∈ lw_g := wd_p 5 rfl rfl
set_option maxRecDepth 20000 in
theorem wd_6 : Cond.selects RX5 yX5_isNumber yX5_isNumber ∈ lw_g := wd_p 6 rfl rfl
set_option maxRecDepth 20000 in
theorem wd_7 : Cond.selects RX5 yX5_takeNumber yX5_takeNumber ∈ lw_g := wd_p 7 rfl rfl
set_option maxRecDepth 20000 in
theorem wd_8 : Cond.selects RX5 yX5_take yX5_take ∈ lw_g := wd_p 8 rfl rfl
set_option maxRecDepth 20000 in
theorem wd_9 : Cond.selects RX5 yX5_takeWork yX5_takeWork ∈ lw_g := wd_p 9 rfl rfl
set_option maxRecDepth 20000 in
theorem wd_10 : Cond.selects RX5 yX5_takeName yX5_takeName ∈ lw_g := wd_p 10 rfl rfl
set_option maxRecDepth 20000 in
theorem wd_11 : Cond.selects RX5 yX5_takePart yX5_takePart ∈ lw_g := wd_p 11 rfl rfl
set_option maxRecDepth 20000 in
theorem wd_12 : Cond.selects RX5 yX5_takeWords yX5_takeWords ∈ lw_g := wd_p 12 rfl rfl
set_option maxRecDepth 20000 in
theorem wd_13 : Cond.selects RX5 yX5_takeSteps yX5_takeSteps ∈ lw_g := wd_p 13 rfl rfl
set_option maxRecDepth 20000 in
theorem wd_14 : Cond.selects RX2 yX2_takeLine yX2_takeLine ∈ lw_g := wd_p 14 rfl rfl
set_option maxRecDepth 20000 in
theorem wd_15 : Cond.selects RX2 yX2_refuse yX2_refuse ∈ lw_g := wd_p 15 rfl rfl
set_option maxRecDepth 20000 in
theorem wd_16 : Cond.selects RX2 yX2_takeExpression yX2_takeExpression ∈ lw_g := wd_p 16 rfl rfl
set_option maxRecDepth 20000 in
theorem wd_17 : Cond.selects RX2 yX2_afterUnit yX2_afterUnit ∈ lw_g := wd_p 17 rfl rfl
set_option maxRecDepth 20000 in
theorem wd_18 : Cond.selects RX2 yX2_release yX2_release ∈ lw_g := wd_p 18 rfl rfl
set_option maxRecDepth 20000 in
theorem wd_19 : Cond.selects RX2 yX2_leaveBracket yX2_leaveBracket ∈ lw_g := wd_p 19 rfl rfl
set_option maxRecDepth 20000 in
theorem wd_20 : Cond.selects RX2 yX2_push yX2_push ∈ lw_g := wd_p 20 rfl rfl
set_option maxRecDepth 20000 in
theorem wd_21 : Cond.selects RX2 yX2_beforeUnit yX2_beforeUnit ∈ lw_g := wd_p 21 rfl rfl
set_option maxRecDepth 20000 in
theorem wd_22 : Cond.selects RX2 yX2_enter yX2_enter ∈ lw_g := wd_p 22 rfl rfl
set_option maxRecDepth 20000 in
theorem wd_23 : Cond.selects RX2 yX2_codeOf yX2_codeOf ∈ lw_g := wd_p 23 rfl rfl
set_option maxRecDepth 20000 in
theorem wd_24 : Cond.selects RX4 yX4_walk yX4_walk ∈ lw_g := wd_p 24 rfl rfl
set_option maxRecDepth 20000 in
theorem wd_25 : Cond.selects RX4 yX4_twoTogether yX4_twoTogether ∈ lw_g := wd_p 25 rfl rfl
set_option maxRecDepth 20000 in
theorem wd_26 : Cond.selects RX4 yX4_oneOutside yX4_oneOutside ∈ lw_g := wd_p 26 rfl rfl
set_option maxRecDepth 20000 in
theorem wd_27 : Cond.selects RX10 yX10_isBody yX10_isBody ∈ lw_g := wd_p 27 rfl rfl
set_option maxRecDepth 20000 in
theorem wd_28 : Cond.selects RX10 yX10_openDay yX10_openDay ∈ lw_g := wd_p 28 rfl rfl
set_option maxRecDepth 20000 in
theorem wd_29 : Cond.selects RX10 yX10_rulingInForce yX10_rulingInForce ∈ lw_g := wd_p 29 rfl rfl
set_option maxRecDepth 20000 in
theorem wd_30 : Cond.selects RX6 yX6_gatherKnown yX6_gatherKnown ∈ lw_g := wd_p 30 rfl rfl
set_option maxRecDepth 20000 in
theorem wd_31 : Cond.selects RX6 yX6_gatherDanced yX6_gatherDanced ∈ lw_g := wd_p 31 rfl rfl
set_option maxRecDepth 20000 in
theorem wd_32 : Cond.selects RX6 yX6_daysSince yX6_daysSince ∈ lw_g := wd_p 32 rfl rfl
set_option maxRecDepth 20000 in
theorem wd_33 : Cond.selects RX6 yX6_isReady yX6_isReady ∈ lw_g := wd_p 33 rfl rfl
set_option maxRecDepth 20000 in
theorem wd_34 : Cond.selects RX6 yX6_valueOf yX6_valueOf ∈ lw_g := wd_p 34 rfl rfl
set_option maxRecDepth 20000 in
theorem wd_35 : Cond.selects RX10 yX10_findCast yX10_findCast ∈ lw_g := wd_p 35 rfl rfl
set_option maxRecDepth 20000 in
theorem wd_36 : Cond.selects RX0 yX0_leastRest yX0_leastRest ∈ lw_g := wd_p 36 rfl rfl
set_option maxRecDepth 20000 in
theorem wd_37 : Cond.selects RX0 yX0_leastFrom yX0_leastFrom ∈ lw_g := wd_p 37 rfl rfl
set_option maxRecDepth 20000 in
theorem wd_38 : Cond.selects RX0 yX0_pickFirst yX0_pickFirst ∈ lw_g := wd_p 38 rfl rfl
set_option maxRecDepth 20000 in
theorem wd_39 : Cond.selects RX0 yX0_firstOfLeast yX0_firstOfLeast ∈ lw_g := wd_p 39 rfl rfl
set_option maxRecDepth 20000 in
theorem wd_40 : Cond.selects RX10 yX10_findFall yX10_findFall ∈ lw_g := wd_p 40 rfl rfl
set_option maxRecDepth 20000 in
theorem wd_41 : Cond.selects RX8 yX8_fits yX8_fits ∈ lw_g := wd_p 41 rfl rfl
set_option maxRecDepth 20000 in
theorem wd_42 : Cond.selects RX6 yX6_missing yX6_missing ∈ lw_g := wd_p 42 rfl rfl
set_option maxRecDepth 20000 in
theorem wd_43 : Cond.selects RX6 yX6_isKept yX6_isKept ∈ lw_g := wd_p 43 rfl rfl
set_option maxRecDepth 20000 in
theorem wd_44 : Cond.selects RX6 yX6_missingOf yX6_missingOf ∈ lw_g := wd_p 44 rfl rfl
set_option maxRecDepth 20000 in
theorem wd_45 : Cond.selects RX11 yX11_takeTape yX11_takeTape ∈ lw_g := wd_p 45 rfl rfl
set_option maxRecDepth 20000 in
theorem wd_46 : Cond.selects RX11 yX11_next yX11_next ∈ lw_g := wd_p 46 rfl rfl
set_option maxRecDepth 20000 in
theorem wd_47 : Cond.selects RX11 yX11_sign yX11_sign ∈ lw_g := wd_p 47 rfl rfl
set_option maxRecDepth 20000 in
theorem wd_48 : Cond.selects RX11 yX11_isGood yX11_isGood ∈ lw_g := wd_p 48 rfl rfl
set_option maxRecDepth 20000 in
theorem wd_49 : Cond.selects RX11 yX11_readWorks yX11_readWorks ∈ lw_g := wd_p 49 rfl rfl
set_option maxRecDepth 20000 in
theorem wd_50 : Cond.selects RX11 yX11_isWord yX11_isWord ∈ lw_g := wd_p 50 rfl rfl
set_option maxRecDepth 20000 in
theorem wd_51 : Cond.selects RX11 yX11_isFull yX11_isFull ∈ lw_g := wd_p 51 rfl rfl
set_option maxRecDepth 20000 in
theorem wd_52 : Cond.selects RX11 yX11_wrong yX11_wrong ∈ lw_g := wd_p 52 rfl rfl
set_option maxRecDepth 20000 in
theorem wd_53 : Cond.selects RX11 yX11_fails yX11_fails ∈ lw_g := wd_p 53 rfl rfl
set_option maxRecDepth 20000 in
theorem wd_54 : Cond.selects RX11 yX11_readFloor yX11_readFloor ∈ lw_g := wd_p 54 rfl rfl
set_option maxRecDepth 20000 in
theorem wd_55 : Cond.selects RX11 yX11_numeral yX11_numeral ∈ lw_g := wd_p 55 rfl rfl
set_option maxRecDepth 20000 in
theorem wd_56 : Cond.selects RX11 yX11_must yX11_must ∈ lw_g := wd_p 56 rfl rfl
set_option maxRecDepth 20000 in
theorem wd_57 : Cond.selects RX11 yX11_readWork yX11_readWork ∈ lw_g := wd_p 57 rfl rfl
set_option maxRecDepth 20000 in
theorem wd_58 : Cond.selects RX11 yX11_freshName yX11_freshName ∈ lw_g := wd_p 58 rfl rfl
set_option maxRecDepth 20000 in
theorem wd_59 : Cond.selects RX11 yX11_readPart yX11_readPart ∈ lw_g := wd_p 59 rfl rfl
set_option maxRecDepth 20000 in
theorem wd_60 : Cond.selects RX11 yX11_readSteps yX11_readSteps ∈ lw_g := wd_p 60 rfl rfl
set_option maxRecDepth 20000 in
theorem wd_61 : Cond.selects RX11 yX11_is yX11_is ∈ lw_g := wd_p 61 rfl rfl
set_option maxRecDepth 20000 in
theorem wd_62 : Cond.selects RX11 yX11_isPart yX11_isPart ∈ lw_g := wd_p 62 rfl rfl
set_option maxRecDepth 20000 in
theorem wd_63 : Cond.selects RX11 yX11_parts yX11_parts ∈ lw_g := wd_p 63 rfl rfl
set_option maxRecDepth 20000 in
theorem wd_64 : Cond.selects RX11 yX11_workOf yX11_workOf ∈ lw_g := wd_p 64 rfl rfl
set_option maxRecDepth 20000 in
theorem wd_65 : Cond.selects RX11 yX11_at0 yX11_at0 ∈ lw_g := wd_p 65 rfl rfl
set_option maxRecDepth 20000 in
theorem wd_66 : Cond.selects RX11 yX11_countsOf yX11_countsOf ∈ lw_g := wd_p 66 rfl rfl
set_option maxRecDepth 20000 in
theorem wd_67 : Cond.selects RX11 yX11_stepAt yX11_stepAt ∈ lw_g := wd_p 67 rfl rfl
set_option maxRecDepth 20000 in
theorem wd_68 : Cond.selects RX11 yX11_go yX11_go ∈ lw_g := wd_p 68 rfl rfl
set_option maxRecDepth 20000 in
theorem wd_69 : Cond.selects RX11 yX11_isWork yX11_isWork ∈ lw_g := wd_p 69 rfl rfl
set_option maxRecDepth 20000 in
theorem wd_70 : Cond.selects RX11 yX11_works0 yX11_works0 ∈ lw_g := wd_p 70 rfl rfl
set_option maxRecDepth 20000 in
theorem wd_71 : Cond.selects RX11 yX11_loadOf yX11_loadOf ∈ lw_g := wd_p 71 rfl rfl
set_option maxRecDepth 20000 in
theorem wd_72 : Cond.selects RX11 yX11_likeOf yX11_likeOf ∈ lw_g := wd_p 72 rfl rfl
set_option maxRecDepth 20000 in
theorem wd_73 : Cond.selects RX11 yX11_isNoted yX11_isNoted ∈ lw_g := wd_p 73 rfl rfl
set_option maxRecDepth 20000 in
theorem wd_74 : Cond.selects RX11 yX11_readRule yX11_readRule ∈ lw_g := wd_p 74 rfl rfl
set_option maxRecDepth 20000 in
theorem wd_75 : Cond.selects RX11 yX11_e yX11_e ∈ lw_g := wd_p 75 rfl rfl
set_option maxRecDepth 20000 in
theorem wd_76 : Cond.selects RX11 yX11_put yX11_put ∈ lw_g := wd_p 76 rfl rfl
set_option maxRecDepth 20000 in
theorem wd_77 : Cond.selects RX11 yX11_unit yX11_unit ∈ lw_g := wd_p 77 rfl rfl
set_option maxRecDepth 20000 in
theorem wd_78 : Cond.selects RX11 yX11_wordHere yX11_wordHere ∈ lw_g := wd_p 78 rfl rfl
set_option maxRecDepth 20000 in
theorem wd_79 : Cond.selects RX11 yX11_sign0 yX11_sign0 ∈ lw_g := wd_p 79 rfl rfl
set_option maxRecDepth 20000 in
theorem wd_80 : Cond.selects RX11 yX11_behind yX11_behind ∈ lw_g := wd_p 80 rfl rfl
set_option maxRecDepth 20000 in
theorem wd_81 : Cond.selects RX11 yX11_rankHere yX11_rankHere ∈ lw_g := wd_p 81 rfl rfl
set_option maxRecDepth 20000 in
theorem wd_82 : Cond.selects RX11 yX11_isCompared yX11_isCompared ∈ lw_g := wd_p 82 rfl rfl
set_option maxRecDepth 20000 in
theorem wd_83 : Cond.selects RX11 yX11_isBody yX11_isBody ∈ lw_g := wd_p 83 rfl rfl
set_option maxRecDepth 20000 in
theorem wd_84 : Cond.selects RX11 yX11_tell yX11_tell ∈ lw_g := wd_p 84 rfl rfl
set_option maxRecDepth 20000 in
theorem wd_85 : Cond.selects RX11 yX11_isFact yX11_isFact ∈ lw_g := wd_p 85 rfl rfl
set_option maxRecDepth 20000 in
theorem wd_86 : Cond.selects RX11 yX11_ask yX11_ask ∈ lw_g := wd_p 86 rfl rfl
set_option maxRecDepth 20000 in
theorem wd_87 : Cond.selects RX11 yX11_canBe yX11_canBe ∈ lw_g := wd_p 87 rfl rfl
set_option maxRecDepth 20000 in
theorem wd_88 : Cond.selects RX11 yX11_knowsIt yX11_knowsIt ∈ lw_g := wd_p 88 rfl rfl
set_option maxRecDepth 20000 in
theorem wd_89 : Cond.selects RX11 yX11_isOut yX11_isOut ∈ lw_g := wd_p 89 rfl rfl
set_option maxRecDepth 20000 in
theorem wd_90 : Cond.selects RX11 yX11_isGone yX11_isGone ∈ lw_g := wd_p 90 rfl rfl
set_option maxRecDepth 20000 in
theorem wd_91 : Cond.selects RX11 yX11_work yX11_work ∈ lw_g := wd_p 91 rfl rfl
set_option maxRecDepth 20000 in
theorem wd_92 : Cond.selects RX11 yX11_inForce yX11_inForce ∈ lw_g := wd_p 92 rfl rfl
set_option maxRecDepth 20000 in
theorem wd_93 : Cond.selects RX11 yX11_term yX11_term ∈ lw_g := wd_p 93 rfl rfl
set_option maxRecDepth 20000 in
theorem wd_94 : Cond.selects RX11 yX11_hasCast yX11_hasCast ∈ lw_g := wd_p 94 rfl rfl
set_option maxRecDepth 20000 in
theorem wd_95 : Cond.selects RX11 yX11_weigh yX11_weigh ∈ lw_g := wd_p 95 rfl rfl
set_option maxRecDepth 20000 in
theorem wd_96 : Cond.selects RX11 yX11_seekCast yX11_seekCast ∈ lw_g := wd_p 96 rfl rfl
set_option maxRecDepth 20000 in
theorem wd_97 : Cond.selects RX11 yX11_falling yX11_falling ∈ lw_g := wd_p 97 rfl rfl
set_option maxRecDepth 20000 in
theorem wd_98 : Cond.selects RX11 yX11_fits yX11_fits ∈ lw_g := wd_p 98 rfl rfl
set_option maxRecDepth 20000 in
theorem wd_99 : Cond.selects RX11 yX11_keptOn yX11_keptOn ∈ lw_g := wd_p 99 rfl rfl
set_option maxRecDepth 20000 in
theorem wd_100 : Cond.selects RX11 yX11_livesBy yX11_livesBy ∈ lw_g := wd_p 100 rfl rfl
set_option maxRecDepth 20000 in
theorem wd_101 : Cond.initialized RL ∈ lw_g := wd_c1 0 rfl rfl
set_option maxRecDepth 20000 in
theorem wd_102 : Cond.initialized RX10 ∈ lw_g := wd_c1 1 rfl rfl
set_option maxRecDepth 20000 in
theorem wd_103 : Cond.initialized RX7 ∈ lw_g := wd_c1 2 rfl rfl
set_option maxRecDepth 20000 in
theorem wd_104 : Cond.initialized RX9 ∈ lw_g := wd_c1 3 rfl rfl
set_option maxRecDepth 20000 in
theorem wd_105 : Cond.initialized RJ0 ∈ lw_g := wd_c1 4 rfl rfl
set_option maxRecDepth 20000 in
theorem wd_106 : Cond.initialized RJ1 ∈ lw_g := wd_c1 5 rfl rfl
set_option maxRecDepth 20000 in
theorem wd_107 : Cond.initialized RJ3 ∈ lw_g := wd_c1 6 rfl rfl
set_option maxRecDepth 20000 in
theorem wd_108 : Cond.initialized RJ2 ∈ lw_g := wd_c1 7 rfl rfl
set_option maxRecDepth 20000 in
theorem wd_109 : Cond.initialized RX5 ∈ lw_g := wd_c1 8 rfl rfl
set_option maxRecDepth 20000 in
theorem wd_110 : Cond.initialized RX2 ∈ lw_g := wd_c1 9 rfl rfl
set_option maxRecDepth 20000 in
theorem wd_111 : Cond.initialized RX3 ∈ lw_g := wd_c1 10 rfl rfl
set_option maxRecDepth 20000 in
theorem wd_112 : Cond.initialized RX1 ∈ lw_g := wd_c1 11 rfl rfl
set_option maxRecDepth 20000 in
theorem wd_113 : Cond.initialized RX6 ∈ lw_g := wd_c1 12 rfl rfl
set_option maxRecDepth 20000 in
theorem wd_114 : Cond.initialized RX0 ∈ lw_g := wd_c1 13 rfl rfl
set_option maxRecDepth 20000 in
theorem wd_115 : Cond.initialized RX8 ∈ lw_g := wd_c1 14 rfl rfl
set_option maxRecDepth 20000 in
theorem wd_116 : Cond.initialized RX4 ∈ lw_g := wd_c1 15 rfl rfl
set_option maxRecDepth 20000 in
theorem wd_117 : Cond.initialized RX11 ∈ lw_g := wd_c1 16 rfl rfl
set_option maxRecDepth 20000 in
theorem wd_118 : Cond.initialized RJ9 ∈ lw_g := wd_c1 17 rfl rfl
set_option maxRecDepth 20000 in
theorem wd_119 : Cond.initialized RJ11 ∈ lw_g := wd_c1 18 rfl rfl
set_option maxRecDepth 20000 in
theorem wd_120 : Cond.initialized RJ7 ∈ lw_g := wd_c1 19 rfl rfl
set_option maxRecDepth 20000 in
theorem wd_121 : Cond.initialized RJ6 ∈ lw_g := wd_c1 20 rfl rfl
set_option maxRecDepth 20000 in
theorem wd_122 : Cond.classLink RL 7 RX10 ∈ lw_g := wd_c1 21 rfl rfl
set_option maxRecDepth 20000 in
theorem wd_123 : Cond.instantiable RX10 15 ∈ lw_g := wd_c1 22 rfl rfl
set_option maxRecDepth 20000 in
theorem wd_124 : Cond.methodLink RL 9 yX10_init ∈ lw_g := wd_c1 23 rfl rfl
set_option maxRecDepth 20000 in
theorem wd_125 : Cond.instanceMethod yX10_init ∈ lw_g := wd_c1 24 rfl rfl
set_option maxRecDepth 20000 in
theorem wd_126 : Cond.code yX10_init cX10_init (3 : Nat) (Option.none : Option FieldType) ∈ lw_g := wd_c1 25 rfl rfl
set_option maxRecDepth 20000 in
theorem wd_127 : Cond.methodLink RX10 1 ⟨"java/lang/Object", "<init>", "()V"⟩ ∈ lw_g := wd_c1 26 rfl rfl
set_option maxRecDepth 20000 in
theorem wd_128 : Cond.instanceMethod ⟨"java/lang/Object", "<init>", "()V"⟩ ∈ lw_g := wd_c1 27 rfl rfl
set_option maxRecDepth 20000 in
theorem wd_130 : Cond.classLink RX10 7 RX7 ∈ lw_g := wd_c1 29 rfl rfl
set_option maxRecDepth 20000 in
theorem wd_131 : Cond.instantiable RX7 2 ∈ lw_g := wd_c1 30 rfl rfl
set_option maxRecDepth 20000 in
theorem wd_133 : Cond.instanceMethod yX7_init ∈ lw_g := wd_c1 32 rfl rfl
set_option maxRecDepth 20000 in
theorem wd_134 : Cond.code yX7_init cX7_init (1 : Nat) (Option.none : Option FieldType) ∈ lw_g := wd_c1 33 rfl rfl
set_option maxRecDepth 20000 in
theorem wd_135 : Cond.methodLink RX7 3 ⟨"java/lang/Object", "<init>", "()V"⟩ ∈ lw_g := wd_c1 34 rfl rfl
set_option maxRecDepth 20000 in
theorem wd_136 : Cond.fieldLink RX7 11 "DanceCompany$Tape" "bytes" "[B" ∈ lw_g := wd_c1 35 rfl rfl
set_option maxRecDepth 20000 in
theorem wd_137 : Cond.fieldLink RX7 15 "DanceCompany$Tape" "length" "I" ∈ lw_g := wd_c1 36 rfl rfl
set_option maxRecDepth 20000 in
theorem wd_138 : Cond.fieldLink RX10 102 "DanceCompany$Tape" "length" "I" ∈ lw_g := wd_c1 37 rfl rfl
set_option maxRecDepth 20000 in
theorem wd_139 : Cond.fieldLink RX9 55 "DanceCompany$Tape" "length" "I" ∈ lw_g := wd_c1 38 rfl rfl
set_option maxRecDepth 20000 in
theorem wd_140 : Cond.laysFinal "DanceCompany$Tape" "DanceCompany$Tape" "bytes" "[B" ∈ lw_g := wd_c1 39 rfl rfl
set_option maxRecDepth 20000 in
theorem wd_142 : Cond.lays "DanceCompany$Tape" "DanceCompany$Tape" "length" "I" ∈ lw_g := wd_c1 41 rfl rfl
set_option maxRecDepth 20000 in
theorem wd_146 : Cond.classLink RX10 16 "[[I" ∈ lw_g := wd_c1 45 rfl rfl
set_option maxRecDepth 20000 in
theorem wd_148 : Cond.classLink RX10 23 RX9 ∈ lw_g := wd_c1 47 rfl rfl
set_option maxRecDepth 20000 in
theorem wd_149 : Cond.instantiable RX9 8 ∈ lw_g := wd_c1 48 rfl rfl
set_option maxRecDepth 20000 in
theorem wd_150 : Cond.methodLink RX10 25 yX9_init ∈ lw_g := wd_c1 49 rfl rfl
set_option maxRecDepth 20000 in
theorem wd_151 : Cond.instanceMethod yX9_init ∈ lw_g := wd_c1 50 rfl rfl
set_option maxRecDepth 20000 in
theorem wd_152 : Cond.code yX9_init cX9_init (5 : Nat) (Option.none : Option FieldType) ∈ lw_g := wd_c1 51 rfl rfl
set_option maxRecDepth 20000 in
theorem wd_153 : Cond.methodLink RX9 1 ⟨"java/lang/Object", "<init>", "()V"⟩ ∈ lw_g := wd_c1 52 rfl rfl
set_option maxRecDepth 20000 in
theorem wd_155 : Cond.methodLink RX9 19 yJ0_length_8abf5 ∈ lw_g := wd_c1 54 rfl rfl
set_option maxRecDepth 20000 in
theorem wd_156 : Cond.instanceMethod yJ0_length_8abf5 ∈ lw_g := wd_c1 55 rfl rfl
set_option maxRecDepth 20000 in
theorem wd_157 : Cond.selects RJ0 yJ0_length_8abf5 yJ0_length_8abf5 ∈ lw_g := wd_c1 56 rfl rfl
set_option maxRecDepth 20000 in
theorem wd_158 : Cond.code yJ0_length_8abf5 cJ0_length_8abf5 (1 : Nat) (Option.some FieldType.int) ∈ lw_g := wd_c1 57 rfl rfl
set_option maxRecDepth 20000 in
theorem wd_159 : Cond.methodLink RJ0 335 yJ0_coder_7d493 ∈ lw_g := wd_c1 58 rfl rfl
set_option maxRecDepth 20000 in
theorem wd_160 : Cond.instanceMethod yJ0_coder_7d493 ∈ lw_g := wd_c1 59 rfl rfl
set_option maxRecDepth 20000 in
theorem wd_161 : Cond.selects RJ0 yJ0_coder_7d493 yJ0_coder_7d493 ∈ lw_g := wd_c1 60 rfl rfl
set_option maxRecDepth 20000 in
theorem wd_162 : Cond.code yJ0_coder_7d493 cJ0_coder_7d493 (1 : Nat) (Option.some FieldType.byte) ∈ lw_g := wd_c1 61 rfl rfl
set_option maxRecDepth 20000 in
theorem wd_163 : Cond.fieldLink RJ0 38 "java/lang/String" "COMPACT_STRINGS" "Z" ∈ lw_g := wd_c1 62 rfl rfl
set_option maxRecDepth 20000 in
theorem wd_165 : Cond.methodLink RX9 25 yJ0_charAt_5068e ∈ lw_g := wd_c1 64 rfl rfl
set_option maxRecDepth 20000 in
theorem wd_166 : Cond.instanceMethod yJ0_charAt_5068e ∈ lw_g := wd_c1 65 rfl rfl
set_option maxRecDepth 20000 in
theorem wd_167 : Cond.selects RJ0 yJ0_charAt_5068e yJ0_charAt_5068e ∈ lw_g := wd_c1 66 rfl rfl
set_option maxRecDepth 20000 in
theorem wd_168 : Cond.code yJ0_charAt_5068e cJ0_charAt_5068e (2 : Nat) (Option.some FieldType.char) ∈ lw_g := wd_c1 67 rfl rfl
set_option maxRecDepth 20000 in
theorem wd_169 : Cond.methodLink RJ0 492 yJ0_isLatin1_aae02 ∈ lw_g := wd_c1 68 rfl rfl
set_option maxRecDepth 20000 in
theorem wd_170 : Cond.instanceMethod yJ0_isLatin1_aae02 ∈ lw_g := wd_c1 69 rfl rfl
set_option maxRecDepth 20000 in
theorem wd_171 : Cond.selects RJ0 yJ0_isLatin1_aae02 yJ0_isLatin1_aae02 ∈ lw_g := wd_c1 70 rfl rfl
set_option maxRecDepth 20000 in
theorem wd_172 : Cond.code yJ0_isLatin1_aae02 cJ0_isLatin1_aae02 (1 : Nat) (Option.some FieldType.boolean) ∈ lw_g := wd_c1 71 rfl rfl
set_option maxRecDepth 20000 in
theorem wd_173 : Cond.methodLink RJ0 495 yJ1_charAt_3b067 ∈ lw_g := wd_c1 72 rfl rfl
set_option maxRecDepth 20000 in
theorem wd_174 : Cond.static yJ1_charAt_3b067 ∈ lw_g := wd_c1 73 rfl rfl
set_option maxRecDepth 20000 in
theorem wd_175 : Cond.code yJ1_charAt_3b067 cJ1_charAt_3b067 (2 : Nat) (Option.some FieldType.char) ∈ lw_g := wd_c1 74 rfl rfl
set_option maxRecDepth 20000 in
theorem wd_176 : Cond.methodLink RJ1 9 yJ0_checkIndex_df160 ∈ lw_g := wd_c1 75 rfl rfl
set_option maxRecDepth 20000 in
theorem wd_177 : Cond.static yJ0_checkIndex_df160 ∈ lw_g := wd_c1 76 rfl rfl
set_option maxRecDepth 20000 in
theorem wd_178 : Cond.code yJ0_checkIndex_df160 cJ0_checkIndex_df160 (2 : Nat) (Option.none : Option FieldType) ∈ lw_g := wd_c1 77 rfl rfl
set_option maxRecDepth 20000 in
theorem wd_179 : Cond.fieldLink RJ0 1053 "jdk/internal/util/Preconditions" "SIOOBE_FORMATTER" "Ljava/util/function/BiFunction;" ∈ lw_g := wd_c1 78 rfl rfl
set_option maxRecDepth 20000 in
theorem wd_181 : Cond.methodLink RJ0 1059 yJ3_checkIndex_8e157 ∈ lw_g := wd_c1 80 rfl rfl
set_option maxRecDepth 20000 in
theorem wd_182 : Cond.static yJ3_checkIndex_8e157 ∈ lw_g := wd_c1 81 rfl rfl
set_option maxRecDepth 20000 in
theorem wd_183 : Cond.code yJ3_checkIndex_8e157 cJ3_checkIndex_8e157 (3 : Nat) (Option.some FieldType.int) ∈ lw_g := wd_c1 82 rfl rfl
set_option maxRecDepth 20000 in
theorem wd_184 : Cond.methodLink RJ0 498 yJ2_charAt_3b067 ∈ lw_g := wd_c1 83 rfl rfl
set_option maxRecDepth 20000 in
theorem wd_185 : Cond.static yJ2_charAt_3b067 ∈ lw_g := wd_c1 84 rfl rfl
set_option maxRecDepth 20000 in
theorem wd_186 : Cond.code yJ2_charAt_3b067 cJ2_charAt_3b067 (2 : Nat) (Option.some FieldType.char) ∈ lw_g := wd_c1 85 rfl rfl
set_option maxRecDepth 20000 in
theorem wd_187 : Cond.methodLink RJ2 67 yJ2_checkIndex_2214a ∈ lw_g := wd_c1 86 rfl rfl
set_option maxRecDepth 20000 in
theorem wd_188 : Cond.static yJ2_checkIndex_2214a ∈ lw_g := wd_c1 87 rfl rfl
set_option maxRecDepth 20000 in
theorem wd_189 : Cond.code yJ2_checkIndex_2214a cJ2_checkIndex_2214a (2 : Nat) (Option.none : Option FieldType) ∈ lw_g := wd_c1 88 rfl rfl
set_option maxRecDepth 20000 in
theorem wd_190 : Cond.methodLink RJ2 48 yJ2_length_9d52b ∈ lw_g := wd_c1 89 rfl rfl
set_option maxRecDepth 20000 in
theorem wd_191 : Cond.static yJ2_length_9d52b ∈ lw_g := wd_c1 90 rfl rfl
set_option maxRecDepth 20000 in
theorem wd_192 : Cond.code yJ2_length_9d52b cJ2_length_9d52b (1 : Nat) (Option.some FieldType.int) ∈ lw_g := wd_c1 91 rfl rfl
set_option maxRecDepth 20000 in
theorem wd_193 : Cond.methodLink RJ2 414 yJ0_checkIndex_df160 ∈ lw_g := wd_c1 92 rfl rfl
set_option maxRecDepth 20000 in
theorem wd_194 : Cond.methodLink RJ2 71 yJ2_getChar_3b067 ∈ lw_g := wd_c1 93 rfl rfl
set_option maxRecDepth 20000 in
theorem wd_195 : Cond.static yJ2_getChar_3b067 ∈ lw_g := wd_c1 94 rfl rfl
set_option maxRecDepth 20000 in
theorem wd_196 : Cond.code yJ2_getChar_3b067 cJ2_getChar_3b067 (2 : Nat) (Option.some FieldType.char) ∈ lw_g := wd_c1 95 rfl rfl
set_option maxRecDepth 20000 in
theorem wd_197 : Cond.fieldLink RJ2 44 "java/lang/StringUTF16" "$assertionsDisabled" "Z" ∈ lw_g := wd_c1 96 rfl rfl
set_option maxRecDepth 20000 in
theorem wd_199 : Cond.fieldLink RJ2 59 "java/lang/StringUTF16" "HI_BYTE_SHIFT" "I" ∈ lw_g := wd_c1 98 rfl rfl
set_option maxRecDepth 20000 in
theorem wd_201 : Cond.fieldLink RJ2 63 "java/lang/StringUTF16" "LO_BYTE_SHIFT" "I" ∈ lw_g := wd_c1 100 rfl rfl
set_option maxRecDepth 20000 in
theorem wd_203 : Cond.methodLink RX9 29 yX9_withLetter ∈ lw_g := wd_c1 102 rfl rfl
set_option maxRecDepth 20000 in
theorem wd_204 : Cond.static yX9_withLetter ∈ lw_g := wd_c1 103 rfl rfl
set_option maxRecDepth 20000 in
theorem wd_205 : Cond.code yX9_withLetter cX9_withLetter (3 : Nat) (Option.some FieldType.long) ∈ lw_g := wd_c1 104 rfl rfl
set_option maxRecDepth 20000 in
theorem wd_206 : Cond.fieldLink RX9 7 "DanceCompany$Tokens" "tape" "LDanceCompany$Tape;" ∈ lw_g := wd_c1 105 rfl rfl
set_option maxRecDepth 20000 in
theorem wd_207 : Cond.fieldLink RX9 13 "DanceCompany$Tokens" "keywords" "[J" ∈ lw_g := wd_c1 106 rfl rfl
set_option maxRecDepth 20000 in
theorem wd_208 : Cond.fieldLink RX9 33 "DanceCompany$Tokens" "next" "I" ∈ lw_g := wd_c1 107 rfl rfl
set_option maxRecDepth 20000 in
theorem wd_209 : Cond.fieldLink RX9 37 "DanceCompany$Tokens" "kind" "I" ∈ lw_g := wd_c1 108 rfl rfl
set_option maxRecDepth 20000 in
theorem wd_210 : Cond.fieldLink RX2 43 "DanceCompany$Tokens" "kind" "I" ∈ lw_g := wd_c1 109 rfl rfl
set_option maxRecDepth 20000 in
theorem wd_211 : Cond.fieldLink RX5 49 "DanceCompany$Tokens" "kind" "I" ∈ lw_g := wd_c1 110 rfl rfl
set_option maxRecDepth 20000 in
theorem wd_212 : Cond.fieldLink RX9 46 "DanceCompany$Tokens" "place" "I" ∈ lw_g := wd_c1 111 rfl rfl
set_option maxRecDepth 20000 in
theorem wd_213 : Cond.fieldLink RX5 161 "DanceCompany$Tokens" "place" "I" ∈ lw_g := wd_c1 112 rfl rfl
set_option maxRecDepth 20000 in
theorem wd_214 : Cond.fieldLink RX2 118 "DanceCompany$Tokens" "place" "I" ∈ lw_g := wd_c1 113 rfl rfl
set_option maxRecDepth 20000 in
theorem wd_215 : Cond.fieldLink RX9 79 "DanceCompany$Tokens" "length" "I" ∈ lw_g := wd_c1 114 rfl rfl
set_option maxRecDepth 20000 in
theorem wd_216 : Cond.fieldLink RX5 138 "DanceCompany$Tokens" "length" "I" ∈ lw_g := wd_c1 115 rfl rfl
set_option maxRecDepth 20000 in
theorem wd_217 : Cond.fieldLink RX9 80 "DanceCompany$Tokens" "number" "I" ∈ lw_g := wd_c1 116 rfl rfl
set_option maxRecDepth 20000 in
theorem wd_218 : Cond.fieldLink RX2 98 "DanceCompany$Tokens" "number" "I" ∈ lw_g := wd_c1 117 rfl rfl
set_option maxRecDepth 20000 in
theorem wd_219 : Cond.fieldLink RX5 158 "DanceCompany$Tokens" "number" "I" ∈ lw_g := wd_c1 118 rfl rfl
set_option maxRecDepth 20000 in
theorem wd_220 : Cond.fieldLink RX9 75 "DanceCompany$Tokens" "key" "J" ∈ lw_g := wd_c1 119 rfl rfl
set_option maxRecDepth 20000 in
theorem wd_221 : Cond.fieldLink RX5 154 "DanceCompany$Tokens" "key" "J" ∈ lw_g := wd_c1 120 rfl rfl
set_option maxRecDepth 20000 in
theorem wd_222 : Cond.laysFinal "DanceCompany$Tokens" "DanceCompany$Tokens" "tape" "LDanceCompany$Tape;" ∈ lw_g := wd_c1 121 rfl rfl
set_option maxRecDepth 20000 in
theorem wd_224 : Cond.laysFinal "DanceCompany$Tokens" "DanceCompany$Tokens" "keywords" "[J" ∈ lw_g := wd_c1 123 rfl rfl
set_option maxRecDepth 20000 in
theorem wd_226 : Cond.lays "DanceCompany$Tokens" "DanceCompany$Tokens" "next" "I" ∈ lw_g := wd_c1 125 rfl rfl
set_option maxRecDepth 20000 in
theorem wd_228 : Cond.lays "DanceCompany$Tokens" "DanceCompany$Tokens" "kind" "I" ∈ lw_g := wd_c1 127 rfl rfl
set_option maxRecDepth 20000 in
theorem wd_230 : Cond.lays "DanceCompany$Tokens" "DanceCompany$Tokens" "place" "I" ∈ lw_g := wd_c1 129 rfl rfl
set_option maxRecDepth 20000 in
theorem wd_232 : Cond.lays "DanceCompany$Tokens" "DanceCompany$Tokens" "length" "I" ∈ lw_g := wd_c1 131 rfl rfl
set_option maxRecDepth 20000 in
theorem wd_234 : Cond.lays "DanceCompany$Tokens" "DanceCompany$Tokens" "number" "I" ∈ lw_g := wd_c1 133 rfl rfl
set_option maxRecDepth 20000 in
theorem wd_236 : Cond.lays "DanceCompany$Tokens" "DanceCompany$Tokens" "key" "J" ∈ lw_g := wd_c1 135 rfl rfl
set_option maxRecDepth 20000 in
theorem wd_241 : Cond.classLink RX10 28 RX5 ∈ lw_g := wd_c1 140 rfl rfl
set_option maxRecDepth 20000 in
theorem wd_242 : Cond.instantiable RX5 7 ∈ lw_g := wd_c1 141 rfl rfl
set_option maxRecDepth 20000 in
theorem wd_243 : Cond.methodLink RX10 30 yX5_init ∈ lw_g := wd_c1 142 rfl rfl
set_option maxRecDepth 20000 in
theorem wd_244 : Cond.instanceMethod yX5_init ∈ lw_g := wd_c1 143 rfl rfl
set_option maxRecDepth 20000 in
theorem wd_245 : Cond.code yX5_init cX5_init (2 : Nat) (Option.none : Option FieldType) ∈ lw_g := wd_c1 144 rfl rfl
set_option maxRecDepth 20000 in
theorem wd_246 : Cond.methodLink RX5 3 ⟨"java/lang/Object", "<init>", "()V"⟩ ∈ lw_g := wd_c1 145 rfl rfl
set_option maxRecDepth 20000 in
theorem wd_247 : Cond.fieldLink RX5 17 "DanceCompany$ScoreReader" "tokens" "LDanceCompany$Tokens;" ∈ lw_g := wd_c1 146 rfl rfl
set_option maxRecDepth 20000 in
theorem wd_248 : Cond.fieldLink RX5 11 "DanceCompany$ScoreReader" "names" "[J" ∈ lw_g := wd_c1 147 rfl rfl
set_option maxRecDepth 20000 in
theorem wd_249 : Cond.fieldLink RX5 28 "DanceCompany$ScoreReader" "named" "I" ∈ lw_g := wd_c1 148 rfl rfl
set_option maxRecDepth 20000 in
theorem wd_250 : Cond.fieldLink RX5 32 "DanceCompany$ScoreReader" "floorTold" "Z" ∈ lw_g := wd_c1 149 rfl rfl
set_option maxRecDepth 20000 in
theorem wd_251 : Cond.fieldLink RX5 21 "DanceCompany$ScoreReader" "score" "LDanceCompany$Score;" ∈ lw_g := wd_c1 150 rfl rfl
set_option maxRecDepth 20000 in
theorem wd_252 : Cond.fieldLink RX5 36 "DanceCompany$ScoreReader" "fault" "I" ∈ lw_g := wd_c1 151 rfl rfl
set_option maxRecDepth 20000 in
theorem wd_253 : Cond.fieldLink RX10 113 "DanceCompany$ScoreReader" "fault" "I" ∈ lw_g := wd_c1 152 rfl rfl
set_option maxRecDepth 20000 in
theorem wd_254 : Cond.fieldLink RX5 39 "DanceCompany$ScoreReader" "faultPlace" "I" ∈ lw_g := wd_c1 153 rfl rfl
set_option maxRecDepth 20000 in
theorem wd_255 : Cond.fieldLink RX10 116 "DanceCompany$ScoreReader" "faultPlace" "I" ∈ lw_g := wd_c1 154 rfl rfl
set_option maxRecDepth 20000 in
theorem wd_256 : Cond.laysFinal "DanceCompany$ScoreReader" "DanceCompany$ScoreReader" "tokens" "LDanceCompany$Tokens;" ∈ lw_g := wd_c1 155 rfl rfl
set_option maxRecDepth 20000 in
theorem wd_258 : Cond.laysFinal "DanceCompany$ScoreReader" "DanceCompany$ScoreReader" "names" "[J" ∈ lw_g := wd_c1 157 rfl rfl
set_option maxRecDepth 20000 in
theorem wd_260 : Cond.lays "DanceCompany$ScoreReader" "DanceCompany$ScoreReader" "named" "I" ∈ lw_g := wd_c1 159 rfl rfl
set_option maxRecDepth 20000 in
theorem wd_262 : Cond.lays "DanceCompany$ScoreReader" "DanceCompany$ScoreReader" "floorTold" "Z" ∈ lw_g := wd_c1 161 rfl rfl
set_option maxRecDepth 20000 in
theorem wd_264 : Cond.lays "DanceCompany$ScoreReader" "DanceCompany$ScoreReader" "score" "LDanceCompany$Score;" ∈ lw_g := wd_c1 163 rfl rfl
set_option maxRecDepth 20000 in
theorem wd_266 : Cond.lays "DanceCompany$ScoreReader" "DanceCompany$ScoreReader" "fault" "I" ∈ lw_g := wd_c1 165 rfl rfl
set_option maxRecDepth 20000 in
theorem wd_268 : Cond.lays "DanceCompany$ScoreReader" "DanceCompany$ScoreReader" "faultPlace" "I" ∈ lw_g := wd_c1 167 rfl rfl
set_option maxRecDepth 20000 in
theorem wd_271 : Cond.classLink RX10 37 RX2 ∈ lw_g := wd_c1 170 rfl rfl
set_option maxRecDepth 20000 in
theorem wd_272 : Cond.instantiable RX2 8 ∈ lw_g := wd_c1 171 rfl rfl
set_option maxRecDepth 20000 in
theorem wd_273 : Cond.methodLink RX10 39 yX2_init ∈ lw_g := wd_c1 172 rfl rfl
set_option maxRecDepth 20000 in
theorem wd_274 : Cond.instanceMethod yX2_init ∈ lw_g := wd_c1 173 rfl rfl
set_option maxRecDepth 20000 in
theorem wd_275 : Cond.code yX2_init cX2_init (2 : Nat) (Option.none : Option FieldType) ∈ lw_g := wd_c1 174 rfl rfl
set_option maxRecDepth 20000 in
theorem wd_276 : Cond.methodLink RX2 5 ⟨"java/lang/Object", "<init>", "()V"⟩ ∈ lw_g := wd_c1 175 rfl rfl
set_option maxRecDepth 20000 in
theorem wd_277 : Cond.fieldLink RX2 15 "DanceCompany$RuleReader" "tokens" "LDanceCompany$Tokens;" ∈ lw_g := wd_c1 176 rfl rfl
set_option maxRecDepth 20000 in
theorem wd_278 : Cond.fieldLink RX2 11 "DanceCompany$RuleReader" "waiting" "[I" ∈ lw_g := wd_c1 177 rfl rfl
set_option maxRecDepth 20000 in
theorem wd_279 : Cond.fieldLink RX2 74 "DanceCompany$RuleReader" "top" "I" ∈ lw_g := wd_c1 178 rfl rfl
set_option maxRecDepth 20000 in
theorem wd_280 : Cond.fieldLink RX2 77 "DanceCompany$RuleReader" "depth" "I" ∈ lw_g := wd_c1 179 rfl rfl
set_option maxRecDepth 20000 in
theorem wd_281 : Cond.fieldLink RX2 28 "DanceCompany$RuleReader" "units" "I" ∈ lw_g := wd_c1 180 rfl rfl
set_option maxRecDepth 20000 in
theorem wd_282 : Cond.fieldLink RX2 19 "DanceCompany$RuleReader" "ruling" "LDanceCompany$Ruling;" ∈ lw_g := wd_c1 181 rfl rfl
set_option maxRecDepth 20000 in
theorem wd_283 : Cond.fieldLink RX2 32 "DanceCompany$RuleReader" "fault" "I" ∈ lw_g := wd_c1 182 rfl rfl
set_option maxRecDepth 20000 in
theorem wd_284 : Cond.fieldLink RX10 135 "DanceCompany$RuleReader" "fault" "I" ∈ lw_g := wd_c1 183 rfl rfl
set_option maxRecDepth 20000 in
theorem wd_285 : Cond.fieldLink RX2 35 "DanceCompany$RuleReader" "faultPlace" "I" ∈ lw_g := wd_c1 184 rfl rfl
set_option maxRecDepth 20000 in
theorem wd_286 : Cond.fieldLink RX10 136 "DanceCompany$RuleReader" "faultPlace" "I" ∈ lw_g := wd_c1 185 rfl rfl
set_option maxRecDepth 20000 in
theorem wd_287 : Cond.laysFinal "DanceCompany$RuleReader" "DanceCompany$RuleReader" "tokens" "LDanceCompany$Tokens;" ∈ lw_g := wd_c1 186 rfl rfl
set_option maxRecDepth 20000 in
theorem wd_289 : Cond.laysFinal "DanceCompany$RuleReader" "DanceCompany$RuleReader" "waiting" "[I" ∈ lw_g := wd_c1 188 rfl rfl
set_option maxRecDepth 20000 in
theorem wd_291 : Cond.lays "DanceCompany$RuleReader" "DanceCompany$RuleReader" "top" "I" ∈ lw_g := wd_c1 190 rfl rfl
set_option maxRecDepth 20000 in
theorem wd_293 : Cond.lays "DanceCompany$RuleReader" "DanceCompany$RuleReader" "depth" "I" ∈ lw_g := wd_c1 192 rfl rfl
set_option maxRecDepth 20000 in
theorem wd_295 : Cond.lays "DanceCompany$RuleReader" "DanceCompany$RuleReader" "units" "I" ∈ lw_g := wd_c1 194 rfl rfl
set_option maxRecDepth 20000 in
theorem wd_297 : Cond.lays "DanceCompany$RuleReader" "DanceCompany$RuleReader" "ruling" "LDanceCompany$Ruling;" ∈ lw_g := wd_c1 196 rfl rfl
set_option maxRecDepth 20000 in
theorem wd_299 : Cond.lays "DanceCompany$RuleReader" "DanceCompany$RuleReader" "fault" "I" ∈ lw_g := wd_c1 198 rfl rfl
set_option maxRecDepth 20000 in
theorem wd_301 : Cond.lays "DanceCompany$RuleReader" "DanceCompany$RuleReader" "faultPlace" "I" ∈ lw_g := wd_c1 200 rfl rfl
set_option maxRecDepth 20000 in
theorem wd_304 : Cond.classLink RX10 44 RX3 ∈ lw_g := wd_c1 203 rfl rfl
set_option maxRecDepth 20000 in
theorem wd_306 : Cond.instantiable RX3 5 ∈ lw_g := wd_c1 205 rfl rfl
set_option maxRecDepth 20000 in
theorem wd_308 : Cond.instanceMethod yX3_init ∈ lw_g := wd_c1 207 rfl rfl
set_option maxRecDepth 20000 in
theorem wd_309 : Cond.code yX3_init cX3_init (1 : Nat) (Option.none : Option FieldType) ∈ lw_g := wd_c1 208 rfl rfl
set_option maxRecDepth 20000 in
theorem wd_310 : Cond.methodLink RX3 3 ⟨"java/lang/Object", "<init>", "()V"⟩ ∈ lw_g := wd_c1 209 rfl rfl
set_option maxRecDepth 20000 in
theorem wd_311 : Cond.fieldLink RX3 11 "DanceCompany$Ruling" "codes" "[I" ∈ lw_g := wd_c1 210 rfl rfl
set_option maxRecDepth 20000 in
theorem wd_312 : Cond.fieldLink RX3 15 "DanceCompany$Ruling" "starts" "[I" ∈ lw_g := wd_c1 211 rfl rfl
set_option maxRecDepth 20000 in
theorem wd_313 : Cond.fieldLink RX3 18 "DanceCompany$Ruling" "stops" "[I" ∈ lw_g := wd_c1 212 rfl rfl
set_option maxRecDepth 20000 in
theorem wd_314 : Cond.fieldLink RX3 21 "DanceCompany$Ruling" "length" "I" ∈ lw_g := wd_c1 213 rfl rfl
set_option maxRecDepth 20000 in
theorem wd_315 : Cond.fieldLink RX10 137 "DanceCompany$Ruling" "firstDay" "I" ∈ lw_g := wd_c1 214 rfl rfl
set_option maxRecDepth 20000 in
theorem wd_316 : Cond.laysFinal "DanceCompany$Ruling" "DanceCompany$Ruling" "codes" "[I" ∈ lw_g := wd_c1 215 rfl rfl
set_option maxRecDepth 20000 in
theorem wd_318 : Cond.laysFinal "DanceCompany$Ruling" "DanceCompany$Ruling" "starts" "[I" ∈ lw_g := wd_c1 217 rfl rfl
set_option maxRecDepth 20000 in
theorem wd_320 : Cond.laysFinal "DanceCompany$Ruling" "DanceCompany$Ruling" "stops" "[I" ∈ lw_g := wd_c1 219 rfl rfl
set_option maxRecDepth 20000 in
theorem wd_322 : Cond.lays "DanceCompany$Ruling" "DanceCompany$Ruling" "length" "I" ∈ lw_g := wd_c1 221 rfl rfl
set_option maxRecDepth 20000 in
theorem wd_324 : Cond.lays "DanceCompany$Ruling" "DanceCompany$Ruling" "firstDay" "I" ∈ lw_g := wd_c1 223 rfl rfl
set_option maxRecDepth 20000 in
theorem wd_327 : Cond.classLink RX10 51 RX1 ∈ lw_g := wd_c1 226 rfl rfl
set_option maxRecDepth 20000 in
theorem wd_328 : Cond.instantiable RX1 9 ∈ lw_g := wd_c1 227 rfl rfl
set_option maxRecDepth 20000 in
theorem wd_330 : Cond.instanceMethod yX1_init ∈ lw_g := wd_c1 229 rfl rfl
set_option maxRecDepth 20000 in
theorem wd_331 : Cond.code yX1_init cX1_init (1 : Nat) (Option.none : Option FieldType) ∈ lw_g := wd_c1 230 rfl rfl
set_option maxRecDepth 20000 in
theorem wd_332 : Cond.methodLink RX1 3 ⟨"java/lang/Object", "<init>", "()V"⟩ ∈ lw_g := wd_c1 231 rfl rfl
set_option maxRecDepth 20000 in
theorem wd_333 : Cond.fieldLink RX1 11 "DanceCompany$Ledger" "kind" "[I" ∈ lw_g := wd_c1 232 rfl rfl
set_option maxRecDepth 20000 in
theorem wd_334 : Cond.fieldLink RX6 83 "DanceCompany$Ledger" "kind" "[I" ∈ lw_g := wd_c1 233 rfl rfl
set_option maxRecDepth 20000 in
theorem wd_335 : Cond.fieldLink RX10 210 "DanceCompany$Ledger" "kind" "[I" ∈ lw_g := wd_c1 234 rfl rfl
set_option maxRecDepth 20000 in
theorem wd_336 : Cond.fieldLink RX1 15 "DanceCompany$Ledger" "body" "[I" ∈ lw_g := wd_c1 235 rfl rfl
set_option maxRecDepth 20000 in
theorem wd_337 : Cond.fieldLink RX6 89 "DanceCompany$Ledger" "body" "[I" ∈ lw_g := wd_c1 236 rfl rfl
set_option maxRecDepth 20000 in
theorem wd_338 : Cond.fieldLink RX1 18 "DanceCompany$Ledger" "part" "[I" ∈ lw_g := wd_c1 237 rfl rfl
set_option maxRecDepth 20000 in
theorem wd_339 : Cond.fieldLink RX6 92 "DanceCompany$Ledger" "part" "[I" ∈ lw_g := wd_c1 238 rfl rfl
set_option maxRecDepth 20000 in
theorem wd_340 : Cond.fieldLink RX10 213 "DanceCompany$Ledger" "part" "[I" ∈ lw_g := wd_c1 239 rfl rfl
set_option maxRecDepth 20000 in
theorem wd_341 : Cond.fieldLink RX1 21 "DanceCompany$Ledger" "from" "[I" ∈ lw_g := wd_c2 0 rfl rfl
set_option maxRecDepth 20000 in
theorem wd_342 : Cond.fieldLink RX6 86 "DanceCompany$Ledger" "from" "[I" ∈ lw_g := wd_c2 1 rfl rfl
set_option maxRecDepth 20000 in
theorem wd_343 : Cond.fieldLink RX10 219 "DanceCompany$Ledger" "from" "[I" ∈ lw_g := wd_c2 2 rfl rfl
set_option maxRecDepth 20000 in
theorem wd_344 : Cond.fieldLink RX1 24 "DanceCompany$Ledger" "to" "[I" ∈ lw_g := wd_c2 3 rfl rfl
set_option maxRecDepth 20000 in
theorem wd_345 : Cond.fieldLink RX6 102 "DanceCompany$Ledger" "to" "[I" ∈ lw_g := wd_c2 4 rfl rfl
set_option maxRecDepth 20000 in
theorem wd_346 : Cond.fieldLink RX10 222 "DanceCompany$Ledger" "to" "[I" ∈ lw_g := wd_c2 5 rfl rfl
set_option maxRecDepth 20000 in
theorem wd_347 : Cond.fieldLink RX1 27 "DanceCompany$Ledger" "toldAt" "[I" ∈ lw_g := wd_c2 6 rfl rfl
set_option maxRecDepth 20000 in
theorem wd_348 : Cond.fieldLink RX1 30 "DanceCompany$Ledger" "untoldAt" "[I" ∈ lw_g := wd_c2 7 rfl rfl
set_option maxRecDepth 20000 in
theorem wd_349 : Cond.fieldLink RX1 33 "DanceCompany$Ledger" "told" "I" ∈ lw_g := wd_c2 8 rfl rfl
set_option maxRecDepth 20000 in
theorem wd_350 : Cond.fieldLink RX6 74 "DanceCompany$Ledger" "told" "I" ∈ lw_g := wd_c2 9 rfl rfl
set_option maxRecDepth 20000 in
theorem wd_351 : Cond.fieldLink RX10 119 "DanceCompany$Ledger" "told" "I" ∈ lw_g := wd_c2 10 rfl rfl
set_option maxRecDepth 20000 in
theorem wd_352 : Cond.fieldLink RX1 37 "DanceCompany$Ledger" "time" "I" ∈ lw_g := wd_c2 11 rfl rfl
set_option maxRecDepth 20000 in
theorem wd_353 : Cond.fieldLink RX10 206 "DanceCompany$Ledger" "time" "I" ∈ lw_g := wd_c2 12 rfl rfl
set_option maxRecDepth 20000 in
theorem wd_354 : Cond.laysFinal "DanceCompany$Ledger" "DanceCompany$Ledger" "kind" "[I" ∈ lw_g := wd_c2 13 rfl rfl
set_option maxRecDepth 20000 in
theorem wd_356 : Cond.laysFinal "DanceCompany$Ledger" "DanceCompany$Ledger" "body" "[I" ∈ lw_g := wd_c2 15 rfl rfl
set_option maxRecDepth 20000 in
theorem wd_358 : Cond.laysFinal "DanceCompany$Ledger" "DanceCompany$Ledger" "part" "[I" ∈ lw_g := wd_c2 17 rfl rfl
set_option maxRecDepth 20000 in
theorem wd_360 : Cond.laysFinal "DanceCompany$Ledger" "DanceCompany$Ledger" "from" "[I" ∈ lw_g := wd_c2 19 rfl rfl
set_option maxRecDepth 20000 in
theorem wd_362 : Cond.laysFinal "DanceCompany$Ledger" "DanceCompany$Ledger" "to" "[I" ∈ lw_g := wd_c2 21 rfl rfl
set_option maxRecDepth 20000 in
theorem wd_364 : Cond.laysFinal "DanceCompany$Ledger" "DanceCompany$Ledger" "toldAt" "[I" ∈ lw_g := wd_c2 23 rfl rfl
set_option maxRecDepth 20000 in
theorem wd_366 : Cond.laysFinal "DanceCompany$Ledger" "DanceCompany$Ledger" "untoldAt" "[I" ∈ lw_g := wd_c2 25 rfl rfl
set_option maxRecDepth 20000 in
theorem wd_368 : Cond.lays "DanceCompany$Ledger" "DanceCompany$Ledger" "told" "I" ∈ lw_g := wd_c2 27 rfl rfl
set_option maxRecDepth 20000 in
theorem wd_370 : Cond.lays "DanceCompany$Ledger" "DanceCompany$Ledger" "time" "I" ∈ lw_g := wd_c2 29 rfl rfl
set_option maxRecDepth 20000 in
theorem wd_373 : Cond.classLink RX10 58 RX6 ∈ lw_g := wd_c2 32 rfl rfl
set_option maxRecDepth 20000 in
theorem wd_374 : Cond.instantiable RX6 13 ∈ lw_g := wd_c2 33 rfl rfl
set_option maxRecDepth 20000 in
theorem wd_376 : Cond.instanceMethod yX6_init ∈ lw_g := wd_c2 35 rfl rfl
set_option maxRecDepth 20000 in
theorem wd_377 : Cond.code yX6_init cX6_init (1 : Nat) (Option.none : Option FieldType) ∈ lw_g := wd_c2 36 rfl rfl
set_option maxRecDepth 20000 in
theorem wd_378 : Cond.methodLink RX6 3 ⟨"java/lang/Object", "<init>", "()V"⟩ ∈ lw_g := wd_c2 37 rfl rfl
set_option maxRecDepth 20000 in
theorem wd_379 : Cond.classLink RX6 11 "[[I" ∈ lw_g := wd_c2 38 rfl rfl
set_option maxRecDepth 20000 in
theorem wd_380 : Cond.fieldLink RX6 13 "DanceCompany$Standing" "knownFrom" "[[I" ∈ lw_g := wd_c2 39 rfl rfl
set_option maxRecDepth 20000 in
theorem wd_381 : Cond.fieldLink RX6 18 "DanceCompany$Standing" "lastDanced" "[[I" ∈ lw_g := wd_c2 40 rfl rfl
set_option maxRecDepth 20000 in
theorem wd_382 : Cond.fieldLink RX6 21 "DanceCompany$Standing" "lastDay" "[I" ∈ lw_g := wd_c2 41 rfl rfl
set_option maxRecDepth 20000 in
theorem wd_383 : Cond.fieldLink RX6 25 "DanceCompany$Standing" "away" "[Z" ∈ lw_g := wd_c2 42 rfl rfl
set_option maxRecDepth 20000 in
theorem wd_384 : Cond.fieldLink RX6 29 "DanceCompany$Standing" "gone" "[Z" ∈ lw_g := wd_c2 43 rfl rfl
set_option maxRecDepth 20000 in
theorem wd_385 : Cond.fieldLink RX6 32 "DanceCompany$Standing" "loads" "[I" ∈ lw_g := wd_c2 44 rfl rfl
set_option maxRecDepth 20000 in
theorem wd_386 : Cond.fieldLink RX6 35 "DanceCompany$Standing" "variables" "[I" ∈ lw_g := wd_c2 45 rfl rfl
set_option maxRecDepth 20000 in
theorem wd_387 : Cond.fieldLink RX6 40 "DanceCompany$Standing" "stack" "[I" ∈ lw_g := wd_c2 46 rfl rfl
set_option maxRecDepth 20000 in
theorem wd_388 : Cond.fieldLink RX6 43 "DanceCompany$Standing" "burden" "[I" ∈ lw_g := wd_c2 47 rfl rfl
set_option maxRecDepth 20000 in
theorem wd_389 : Cond.fieldLink RX10 235 "DanceCompany$Standing" "burden" "[I" ∈ lw_g := wd_c2 48 rfl rfl
set_option maxRecDepth 20000 in
theorem wd_390 : Cond.fieldLink RX0 31 "DanceCompany$Standing" "score" "LDanceCompany$Score;" ∈ lw_g := wd_c2 49 rfl rfl
set_option maxRecDepth 20000 in
theorem wd_391 : Cond.fieldLink RX6 46 "DanceCompany$Standing" "score" "LDanceCompany$Score;" ∈ lw_g := wd_c2 50 rfl rfl
set_option maxRecDepth 20000 in
theorem wd_392 : Cond.fieldLink RX6 50 "DanceCompany$Standing" "ruling" "LDanceCompany$Ruling;" ∈ lw_g := wd_c2 51 rfl rfl
set_option maxRecDepth 20000 in
theorem wd_393 : Cond.fieldLink RX0 44 "DanceCompany$Standing" "bodies" "I" ∈ lw_g := wd_c2 52 rfl rfl
set_option maxRecDepth 20000 in
theorem wd_394 : Cond.fieldLink RX6 54 "DanceCompany$Standing" "bodies" "I" ∈ lw_g := wd_c2 53 rfl rfl
set_option maxRecDepth 20000 in
theorem wd_395 : Cond.fieldLink RX6 58 "DanceCompany$Standing" "day" "I" ∈ lw_g := wd_c2 54 rfl rfl
set_option maxRecDepth 20000 in
theorem wd_396 : Cond.laysFinal "DanceCompany$Standing" "DanceCompany$Standing" "knownFrom" "[[I" ∈ lw_g := wd_c2 55 rfl rfl
set_option maxRecDepth 20000 in
theorem wd_398 : Cond.laysFinal "DanceCompany$Standing" "DanceCompany$Standing" "lastDanced" "[[I" ∈ lw_g := wd_c2 57 rfl rfl
set_option maxRecDepth 20000 in
theorem wd_400 : Cond.laysFinal "DanceCompany$Standing" "DanceCompany$Standing" "lastDay" "[I" ∈ lw_g := wd_c2 59 rfl rfl
set_option maxRecDepth 20000 in
theorem wd_402 : Cond.laysFinal "DanceCompany$Standing" "DanceCompany$Standing" "away" "[Z" ∈ lw_g := wd_c2 61 rfl rfl
set_option maxRecDepth 20000 in
theorem wd_404 : Cond.laysFinal "DanceCompany$Standing" "DanceCompany$Standing" "gone" "[Z" ∈ lw_g := wd_c2 63 rfl rfl
set_option maxRecDepth 20000 in
theorem wd_406 : Cond.laysFinal "DanceCompany$Standing" "DanceCompany$Standing" "loads" "[I" ∈ lw_g := wd_c2 65 rfl rfl
set_option maxRecDepth 20000 in
theorem wd_408 : Cond.laysFinal "DanceCompany$Standing" "DanceCompany$Standing" "variables" "[I" ∈ lw_g := wd_c2 67 rfl rfl
set_option maxRecDepth 20000 in
theorem wd_410 : Cond.laysFinal "DanceCompany$Standing" "DanceCompany$Standing" "stack" "[I" ∈ lw_g := wd_c2 69 rfl rfl
set_option maxRecDepth 20000 in
theorem wd_412 : Cond.laysFinal "DanceCompany$Standing" "DanceCompany$Standing" "burden" "[I" ∈ lw_g := wd_c2 71 rfl rfl
set_option maxRecDepth 20000 in
theorem wd_414 : Cond.lays "DanceCompany$Standing" "DanceCompany$Standing" "score" "LDanceCompany$Score;" ∈ lw_g := wd_c2 73 rfl rfl
set_option maxRecDepth 20000 in
theorem wd_416 : Cond.lays "DanceCompany$Standing" "DanceCompany$Standing" "ruling" "LDanceCompany$Ruling;" ∈ lw_g := wd_c2 75 rfl rfl
set_option maxRecDepth 20000 in
theorem wd_418 : Cond.lays "DanceCompany$Standing" "DanceCompany$Standing" "bodies" "I" ∈ lw_g := wd_c2 77 rfl rfl
set_option maxRecDepth 20000 in
theorem wd_420 : Cond.lays "DanceCompany$Standing" "DanceCompany$Standing" "day" "I" ∈ lw_g := wd_c2 79 rfl rfl
set_option maxRecDepth 20000 in
theorem wd_424 : Cond.classLink RX10 65 RX0 ∈ lw_g := wd_c2 83 rfl rfl
set_option maxRecDepth 20000 in
theorem wd_425 : Cond.instantiable RX0 8 ∈ lw_g := wd_c2 84 rfl rfl
set_option maxRecDepth 20000 in
theorem wd_427 : Cond.instanceMethod yX0_init ∈ lw_g := wd_c2 86 rfl rfl
set_option maxRecDepth 20000 in
theorem wd_428 : Cond.code yX0_init cX0_init (1 : Nat) (Option.none : Option FieldType) ∈ lw_g := wd_c2 87 rfl rfl
set_option maxRecDepth 20000 in
theorem wd_429 : Cond.methodLink RX0 5 ⟨"java/lang/Object", "<init>", "()V"⟩ ∈ lw_g := wd_c2 88 rfl rfl
set_option maxRecDepth 20000 in
theorem wd_430 : Cond.classLink RX0 13 "[[J" ∈ lw_g := wd_c2 89 rfl rfl
set_option maxRecDepth 20000 in
theorem wd_432 : Cond.fieldLink RX0 15 "DanceCompany$Casting" "weights" "[[J" ∈ lw_g := wd_c2 91 rfl rfl
set_option maxRecDepth 20000 in
theorem wd_433 : Cond.fieldLink RX0 20 "DanceCompany$Casting" "rest" "[J" ∈ lw_g := wd_c2 92 rfl rfl
set_option maxRecDepth 20000 in
theorem wd_434 : Cond.fieldLink RX0 24 "DanceCompany$Casting" "chosen" "[I" ∈ lw_g := wd_c2 93 rfl rfl
set_option maxRecDepth 20000 in
theorem wd_435 : Cond.fieldLink RX0 28 "DanceCompany$Casting" "before" "[I" ∈ lw_g := wd_c2 94 rfl rfl
set_option maxRecDepth 20000 in
theorem wd_436 : Cond.fieldLink RX0 40 "DanceCompany$Casting" "seats" "I" ∈ lw_g := wd_c2 95 rfl rfl
set_option maxRecDepth 20000 in
theorem wd_437 : Cond.fieldLink RX0 47 "DanceCompany$Casting" "bodies" "I" ∈ lw_g := wd_c2 96 rfl rfl
set_option maxRecDepth 20000 in
theorem wd_438 : Cond.fieldLink RX0 65 "DanceCompany$Casting" "found" "Z" ∈ lw_g := wd_c2 97 rfl rfl
set_option maxRecDepth 20000 in
theorem wd_439 : Cond.fieldLink RX0 69 "DanceCompany$Casting" "total" "J" ∈ lw_g := wd_c2 98 rfl rfl
set_option maxRecDepth 20000 in
theorem wd_440 : Cond.fieldLink RX10 251 "DanceCompany$Casting" "total" "J" ∈ lw_g := wd_c2 99 rfl rfl
set_option maxRecDepth 20000 in
theorem wd_441 : Cond.laysFinal "DanceCompany$Casting" "DanceCompany$Casting" "weights" "[[J" ∈ lw_g := wd_c2 100 rfl rfl
set_option maxRecDepth 20000 in
theorem wd_443 : Cond.laysFinal "DanceCompany$Casting" "DanceCompany$Casting" "rest" "[J" ∈ lw_g := wd_c2 102 rfl rfl
set_option maxRecDepth 20000 in
theorem wd_445 : Cond.laysFinal "DanceCompany$Casting" "DanceCompany$Casting" "chosen" "[I" ∈ lw_g := wd_c2 104 rfl rfl
set_option maxRecDepth 20000 in
theorem wd_447 : Cond.laysFinal "DanceCompany$Casting" "DanceCompany$Casting" "before" "[I" ∈ lw_g := wd_c2 106 rfl rfl
set_option maxRecDepth 20000 in
theorem wd_449 : Cond.lays "DanceCompany$Casting" "DanceCompany$Casting" "seats" "I" ∈ lw_g := wd_c2 108 rfl rfl
set_option maxRecDepth 20000 in
theorem wd_451 : Cond.lays "DanceCompany$Casting" "DanceCompany$Casting" "bodies" "I" ∈ lw_g := wd_c2 110 rfl rfl
set_option maxRecDepth 20000 in
theorem wd_453 : Cond.lays "DanceCompany$Casting" "DanceCompany$Casting" "found" "Z" ∈ lw_g := wd_c2 112 rfl rfl
set_option maxRecDepth 20000 in
theorem wd_455 : Cond.lays "DanceCompany$Casting" "DanceCompany$Casting" "total" "J" ∈ lw_g := wd_c2 114 rfl rfl
set_option maxRecDepth 20000 in
theorem wd_458 : Cond.classLink RX10 72 RX8 ∈ lw_g := wd_c2 117 rfl rfl
set_option maxRecDepth 20000 in
theorem wd_459 : Cond.instantiable RX8 8 ∈ lw_g := wd_c2 118 rfl rfl
set_option maxRecDepth 20000 in
theorem wd_461 : Cond.instanceMethod yX8_init ∈ lw_g := wd_c2 120 rfl rfl
set_option maxRecDepth 20000 in
theorem wd_462 : Cond.code yX8_init cX8_init (1 : Nat) (Option.none : Option FieldType) ∈ lw_g := wd_c2 121 rfl rfl
set_option maxRecDepth 20000 in
theorem wd_463 : Cond.methodLink RX8 3 ⟨"java/lang/Object", "<init>", "()V"⟩ ∈ lw_g := wd_c2 122 rfl rfl
set_option maxRecDepth 20000 in
theorem wd_464 : Cond.fieldLink RX8 11 "DanceCompany$Timetable" "work" "[I" ∈ lw_g := wd_c2 123 rfl rfl
set_option maxRecDepth 20000 in
theorem wd_465 : Cond.fieldLink RX10 290 "DanceCompany$Timetable" "work" "[I" ∈ lw_g := wd_c2 124 rfl rfl
set_option maxRecDepth 20000 in
theorem wd_466 : Cond.fieldLink RX8 15 "DanceCompany$Timetable" "day" "[I" ∈ lw_g := wd_c2 125 rfl rfl
set_option maxRecDepth 20000 in
theorem wd_467 : Cond.fieldLink RX10 293 "DanceCompany$Timetable" "day" "[I" ∈ lw_g := wd_c2 126 rfl rfl
set_option maxRecDepth 20000 in
theorem wd_468 : Cond.fieldLink RX8 18 "DanceCompany$Timetable" "crew" "[I" ∈ lw_g := wd_c2 127 rfl rfl
set_option maxRecDepth 20000 in
theorem wd_469 : Cond.fieldLink RX10 296 "DanceCompany$Timetable" "crew" "[I" ∈ lw_g := wd_c2 128 rfl rfl
set_option maxRecDepth 20000 in
theorem wd_470 : Cond.fieldLink RX8 21 "DanceCompany$Timetable" "hourOf" "[I" ∈ lw_g := wd_c2 129 rfl rfl
set_option maxRecDepth 20000 in
theorem wd_471 : Cond.fieldLink RX10 305 "DanceCompany$Timetable" "hourOf" "[I" ∈ lw_g := wd_c2 130 rfl rfl
set_option maxRecDepth 20000 in
theorem wd_472 : Cond.fieldLink RX8 24 "DanceCompany$Timetable" "busy" "[I" ∈ lw_g := wd_c2 131 rfl rfl
set_option maxRecDepth 20000 in
theorem wd_473 : Cond.fieldLink RX8 27 "DanceCompany$Timetable" "roomsTaken" "[I" ∈ lw_g := wd_c2 132 rfl rfl
set_option maxRecDepth 20000 in
theorem wd_474 : Cond.fieldLink RX8 34 "DanceCompany$Timetable" "many" "I" ∈ lw_g := wd_c2 133 rfl rfl
set_option maxRecDepth 20000 in
theorem wd_475 : Cond.fieldLink RX10 122 "DanceCompany$Timetable" "many" "I" ∈ lw_g := wd_c2 134 rfl rfl
set_option maxRecDepth 20000 in
theorem wd_476 : Cond.fieldLink RX8 30 "DanceCompany$Timetable" "roomsOpen" "I" ∈ lw_g := wd_c2 135 rfl rfl
set_option maxRecDepth 20000 in
theorem wd_477 : Cond.fieldLink RX10 287 "DanceCompany$Timetable" "roomsOpen" "I" ∈ lw_g := wd_c2 136 rfl rfl
set_option maxRecDepth 20000 in
theorem wd_478 : Cond.laysFinal "DanceCompany$Timetable" "DanceCompany$Timetable" "work" "[I" ∈ lw_g := wd_c2 137 rfl rfl
set_option maxRecDepth 20000 in
theorem wd_480 : Cond.laysFinal "DanceCompany$Timetable" "DanceCompany$Timetable" "day" "[I" ∈ lw_g := wd_c2 139 rfl rfl
set_option maxRecDepth 20000 in
theorem wd_482 : Cond.laysFinal "DanceCompany$Timetable" "DanceCompany$Timetable" "crew" "[I" ∈ lw_g := wd_c2 141 rfl rfl
set_option maxRecDepth 20000 in
theorem wd_484 : Cond.laysFinal "DanceCompany$Timetable" "DanceCompany$Timetable" "hourOf" "[I" ∈ lw_g := wd_c2 143 rfl rfl
set_option maxRecDepth 20000 in
theorem wd_486 : Cond.laysFinal "DanceCompany$Timetable" "DanceCompany$Timetable" "busy" "[I" ∈ lw_g := wd_c2 145 rfl rfl
set_option maxRecDepth 20000 in
theorem wd_488 : Cond.laysFinal "DanceCompany$Timetable" "DanceCompany$Timetable" "roomsTaken" "[I" ∈ lw_g := wd_c2 147 rfl rfl
set_option maxRecDepth 20000 in
theorem wd_490 : Cond.lays "DanceCompany$Timetable" "DanceCompany$Timetable" "many" "I" ∈ lw_g := wd_c2 149 rfl rfl
set_option maxRecDepth 20000 in
theorem wd_492 : Cond.lays "DanceCompany$Timetable" "DanceCompany$Timetable" "roomsOpen" "I" ∈ lw_g := wd_c2 151 rfl rfl
set_option maxRecDepth 20000 in
theorem wd_495 : Cond.classLink RX10 21 RX4 ∈ lw_g := wd_c2 154 rfl rfl
set_option maxRecDepth 20000 in
theorem wd_496 : Cond.instantiable RX4 17 ∈ lw_g := wd_c2 155 rfl rfl
set_option maxRecDepth 20000 in
theorem wd_497 : Cond.methodLink RX10 79 yX4_init ∈ lw_g := wd_c2 156 rfl rfl
set_option maxRecDepth 20000 in
theorem wd_498 : Cond.instanceMethod yX4_init ∈ lw_g := wd_c2 157 rfl rfl
set_option maxRecDepth 20000 in
theorem wd_499 : Cond.code yX4_init cX4_init (2 : Nat) (Option.none : Option FieldType) ∈ lw_g := wd_c2 158 rfl rfl
set_option maxRecDepth 20000 in
theorem wd_500 : Cond.methodLink RX4 3 ⟨"java/lang/Object", "<init>", "()V"⟩ ∈ lw_g := wd_c2 159 rfl rfl
set_option maxRecDepth 20000 in
theorem wd_501 : Cond.classLink RX4 18 "[[I" ∈ lw_g := wd_c2 160 rfl rfl
set_option maxRecDepth 20000 in
theorem wd_502 : Cond.fieldLink RX4 45 "DanceCompany$Score" "readings" "[[I" ∈ lw_g := wd_c2 161 rfl rfl
set_option maxRecDepth 20000 in
theorem wd_503 : Cond.fieldLink RX4 11 "DanceCompany$Score" "atX" "[I" ∈ lw_g := wd_c2 162 rfl rfl
set_option maxRecDepth 20000 in
theorem wd_504 : Cond.fieldLink RX4 15 "DanceCompany$Score" "atY" "[I" ∈ lw_g := wd_c2 163 rfl rfl
set_option maxRecDepth 20000 in
theorem wd_505 : Cond.fieldLink RX4 20 "DanceCompany$Score" "marks" "[[I" ∈ lw_g := wd_c2 164 rfl rfl
set_option maxRecDepth 20000 in
theorem wd_506 : Cond.fieldLink RX5 150 "DanceCompany$Score" "marks" "[[I" ∈ lw_g := wd_c2 165 rfl rfl
set_option maxRecDepth 20000 in
theorem wd_507 : Cond.fieldLink RX4 23 "DanceCompany$Score" "workOf" "[I" ∈ lw_g := wd_c2 166 rfl rfl
set_option maxRecDepth 20000 in
theorem wd_508 : Cond.fieldLink RX5 112 "DanceCompany$Score" "workOf" "[I" ∈ lw_g := wd_c2 167 rfl rfl
set_option maxRecDepth 20000 in
theorem wd_509 : Cond.fieldLink RX10 143 "DanceCompany$Score" "workOf" "[I" ∈ lw_g := wd_c2 168 rfl rfl
set_option maxRecDepth 20000 in
theorem wd_510 : Cond.fieldLink RX4 26 "DanceCompany$Score" "counts" "[I" ∈ lw_g := wd_c2 169 rfl rfl
set_option maxRecDepth 20000 in
theorem wd_511 : Cond.fieldLink RX5 119 "DanceCompany$Score" "counts" "[I" ∈ lw_g := wd_c2 170 rfl rfl
set_option maxRecDepth 20000 in
theorem wd_512 : Cond.fieldLink RX10 147 "DanceCompany$Score" "counts" "[I" ∈ lw_g := wd_c2 171 rfl rfl
set_option maxRecDepth 20000 in
theorem wd_513 : Cond.fieldLink RX6 143 "DanceCompany$Score" "counts" "[I" ∈ lw_g := wd_c2 172 rfl rfl
set_option maxRecDepth 20000 in
theorem wd_514 : Cond.fieldLink RX4 29 "DanceCompany$Score" "startX" "[I" ∈ lw_g := wd_c2 173 rfl rfl
set_option maxRecDepth 20000 in
theorem wd_515 : Cond.fieldLink RX5 122 "DanceCompany$Score" "startX" "[I" ∈ lw_g := wd_c2 174 rfl rfl
set_option maxRecDepth 20000 in
theorem wd_516 : Cond.fieldLink RX10 154 "DanceCompany$Score" "startX" "[I" ∈ lw_g := wd_c2 175 rfl rfl
set_option maxRecDepth 20000 in
theorem wd_517 : Cond.fieldLink RX4 32 "DanceCompany$Score" "startY" "[I" ∈ lw_g := wd_c2 176 rfl rfl
set_option maxRecDepth 20000 in
theorem wd_518 : Cond.fieldLink RX5 125 "DanceCompany$Score" "startY" "[I" ∈ lw_g := wd_c2 177 rfl rfl
set_option maxRecDepth 20000 in
theorem wd_519 : Cond.fieldLink RX10 157 "DanceCompany$Score" "startY" "[I" ∈ lw_g := wd_c2 178 rfl rfl
set_option maxRecDepth 20000 in
theorem wd_520 : Cond.fieldLink RX4 35 "DanceCompany$Score" "noted" "[Z" ∈ lw_g := wd_c2 179 rfl rfl
set_option maxRecDepth 20000 in
theorem wd_521 : Cond.fieldLink RX5 115 "DanceCompany$Score" "noted" "[Z" ∈ lw_g := wd_c2 180 rfl rfl
set_option maxRecDepth 20000 in
theorem wd_522 : Cond.fieldLink RX10 150 "DanceCompany$Score" "noted" "[Z" ∈ lw_g := wd_c2 181 rfl rfl
set_option maxRecDepth 20000 in
theorem wd_523 : Cond.fieldLink RX6 165 "DanceCompany$Score" "noted" "[Z" ∈ lw_g := wd_c2 182 rfl rfl
set_option maxRecDepth 20000 in
theorem wd_524 : Cond.fieldLink RX4 39 "DanceCompany$Score" "firstPart" "[I" ∈ lw_g := wd_c2 183 rfl rfl
set_option maxRecDepth 20000 in
theorem wd_525 : Cond.fieldLink RX0 48 "DanceCompany$Score" "firstPart" "[I" ∈ lw_g := wd_c2 184 rfl rfl
set_option maxRecDepth 20000 in
theorem wd_526 : Cond.fieldLink RX5 102 "DanceCompany$Score" "firstPart" "[I" ∈ lw_g := wd_c2 185 rfl rfl
set_option maxRecDepth 20000 in
theorem wd_527 : Cond.fieldLink RX6 162 "DanceCompany$Score" "firstPart" "[I" ∈ lw_g := wd_c2 186 rfl rfl
set_option maxRecDepth 20000 in
theorem wd_528 : Cond.fieldLink RX4 42 "DanceCompany$Score" "partsOf" "[I" ∈ lw_g := wd_c2 187 rfl rfl
set_option maxRecDepth 20000 in
theorem wd_529 : Cond.fieldLink RX0 37 "DanceCompany$Score" "partsOf" "[I" ∈ lw_g := wd_c2 188 rfl rfl
set_option maxRecDepth 20000 in
theorem wd_530 : Cond.fieldLink RX5 109 "DanceCompany$Score" "partsOf" "[I" ∈ lw_g := wd_c2 189 rfl rfl
set_option maxRecDepth 20000 in
theorem wd_531 : Cond.fieldLink RX6 159 "DanceCompany$Score" "partsOf" "[I" ∈ lw_g := wd_c2 190 rfl rfl
set_option maxRecDepth 20000 in
theorem wd_532 : Cond.fieldLink RX4 55 "DanceCompany$Score" "works" "I" ∈ lw_g := wd_c2 191 rfl rfl
set_option maxRecDepth 20000 in
theorem wd_533 : Cond.fieldLink RX5 96 "DanceCompany$Score" "works" "I" ∈ lw_g := wd_c2 192 rfl rfl
set_option maxRecDepth 20000 in
theorem wd_534 : Cond.fieldLink RX6 153 "DanceCompany$Score" "works" "I" ∈ lw_g := wd_c2 193 rfl rfl
set_option maxRecDepth 20000 in
theorem wd_535 : Cond.fieldLink RX10 317 "DanceCompany$Score" "works" "I" ∈ lw_g := wd_c2 194 rfl rfl
set_option maxRecDepth 20000 in
theorem wd_536 : Cond.fieldLink RX4 58 "DanceCompany$Score" "parts" "I" ∈ lw_g := wd_c2 195 rfl rfl
set_option maxRecDepth 20000 in
theorem wd_537 : Cond.fieldLink RX6 67 "DanceCompany$Score" "parts" "I" ∈ lw_g := wd_c2 196 rfl rfl
set_option maxRecDepth 20000 in
theorem wd_538 : Cond.fieldLink RX5 106 "DanceCompany$Score" "parts" "I" ∈ lw_g := wd_c2 197 rfl rfl
set_option maxRecDepth 20000 in
theorem wd_539 : Cond.fieldLink RX10 308 "DanceCompany$Score" "parts" "I" ∈ lw_g := wd_c2 198 rfl rfl
set_option maxRecDepth 20000 in
theorem wd_540 : Cond.fieldLink RX4 61 "DanceCompany$Score" "lines" "I" ∈ lw_g := wd_c2 199 rfl rfl
set_option maxRecDepth 20000 in
theorem wd_541 : Cond.fieldLink RX5 56 "DanceCompany$Score" "lines" "I" ∈ lw_g := wd_c2 200 rfl rfl
set_option maxRecDepth 20000 in
theorem wd_542 : Cond.fieldLink RX10 125 "DanceCompany$Score" "lines" "I" ∈ lw_g := wd_c2 201 rfl rfl
set_option maxRecDepth 20000 in
theorem wd_543 : Cond.fieldLink RX4 48 "DanceCompany$Score" "wide" "I" ∈ lw_g := wd_c2 202 rfl rfl
set_option maxRecDepth 20000 in
theorem wd_544 : Cond.fieldLink RX5 84 "DanceCompany$Score" "wide" "I" ∈ lw_g := wd_c2 203 rfl rfl
set_option maxRecDepth 20000 in
theorem wd_545 : Cond.fieldLink RX10 320 "DanceCompany$Score" "wide" "I" ∈ lw_g := wd_c2 204 rfl rfl
set_option maxRecDepth 20000 in
theorem wd_546 : Cond.fieldLink RX4 52 "DanceCompany$Score" "deep" "I" ∈ lw_g := wd_c2 205 rfl rfl
set_option maxRecDepth 20000 in
theorem wd_547 : Cond.fieldLink RX5 87 "DanceCompany$Score" "deep" "I" ∈ lw_g := wd_c2 206 rfl rfl
set_option maxRecDepth 20000 in
theorem wd_548 : Cond.fieldLink RX10 323 "DanceCompany$Score" "deep" "I" ∈ lw_g := wd_c2 207 rfl rfl
set_option maxRecDepth 20000 in
theorem wd_549 : Cond.fieldLink RX4 64 "DanceCompany$Score" "hard" "I" ∈ lw_g := wd_c2 208 rfl rfl
set_option maxRecDepth 20000 in
theorem wd_550 : Cond.fieldLink RX5 93 "DanceCompany$Score" "hard" "I" ∈ lw_g := wd_c2 209 rfl rfl
set_option maxRecDepth 20000 in
theorem wd_551 : Cond.fieldLink RX6 140 "DanceCompany$Score" "hard" "I" ∈ lw_g := wd_c2 210 rfl rfl
set_option maxRecDepth 20000 in
theorem wd_552 : Cond.fieldLink RX10 326 "DanceCompany$Score" "hard" "I" ∈ lw_g := wd_c2 211 rfl rfl
set_option maxRecDepth 20000 in
theorem wd_553 : Cond.laysFinal "DanceCompany$Score" "DanceCompany$Score" "readings" "[[I" ∈ lw_g := wd_c2 212 rfl rfl
set_option maxRecDepth 20000 in
theorem wd_555 : Cond.laysFinal "DanceCompany$Score" "DanceCompany$Score" "atX" "[I" ∈ lw_g := wd_c2 214 rfl rfl
set_option maxRecDepth 20000 in
theorem wd_557 : Cond.laysFinal "DanceCompany$Score" "DanceCompany$Score" "atY" "[I" ∈ lw_g := wd_c2 216 rfl rfl
set_option maxRecDepth 20000 in
theorem wd_559 : Cond.laysFinal "DanceCompany$Score" "DanceCompany$Score" "marks" "[[I" ∈ lw_g := wd_c2 218 rfl rfl
set_option maxRecDepth 20000 in
theorem wd_561 : Cond.laysFinal "DanceCompany$Score" "DanceCompany$Score" "workOf" "[I" ∈ lw_g := wd_c2 220 rfl rfl
set_option maxRecDepth 20000 in
theorem wd_563 : Cond.laysFinal "DanceCompany$Score" "DanceCompany$Score" "counts" "[I" ∈ lw_g := wd_c2 222 rfl rfl
set_option maxRecDepth 20000 in
theorem wd_565 : Cond.laysFinal "DanceCompany$Score" "DanceCompany$Score" "startX" "[I" ∈ lw_g := wd_c2 224 rfl rfl
set_option maxRecDepth 20000 in
theorem wd_567 : Cond.laysFinal "DanceCompany$Score" "DanceCompany$Score" "startY" "[I" ∈ lw_g := wd_c2 226 rfl rfl
set_option maxRecDepth 20000 in
theorem wd_569 : Cond.laysFinal "DanceCompany$Score" "DanceCompany$Score" "noted" "[Z" ∈ lw_g := wd_c2 228 rfl rfl
set_option maxRecDepth 20000 in
theorem wd_571 : Cond.laysFinal "DanceCompany$Score" "DanceCompany$Score" "firstPart" "[I" ∈ lw_g := wd_c2 230 rfl rfl
set_option maxRecDepth 20000 in
theorem wd_573 : Cond.laysFinal "DanceCompany$Score" "DanceCompany$Score" "partsOf" "[I" ∈ lw_g := wd_c2 232 rfl rfl
set_option maxRecDepth 20000 in
theorem wd_575 : Cond.lays "DanceCompany$Score" "DanceCompany$Score" "works" "I" ∈ lw_g := wd_c2 234 rfl rfl
set_option maxRecDepth 20000 in
theorem wd_577 : Cond.lays "DanceCompany$Score" "DanceCompany$Score" "parts" "I" ∈ lw_g := wd_c2 236 rfl rfl
set_option maxRecDepth 20000 in
theorem wd_579 : Cond.lays "DanceCompany$Score" "DanceCompany$Score" "lines" "I" ∈ lw_g := wd_c2 238 rfl rfl
set_option maxRecDepth 20000 in
theorem wd_581 : Cond.lays "DanceCompany$Score" "DanceCompany$Score" "wide" "I" ∈ lw_g := wd_c3 0 rfl rfl
set_option maxRecDepth 20000 in
theorem wd_583 : Cond.lays "DanceCompany$Score" "DanceCompany$Score" "deep" "I" ∈ lw_g := wd_c3 2 rfl rfl
set_option maxRecDepth 20000 in
theorem wd_585 : Cond.lays "DanceCompany$Score" "DanceCompany$Score" "hard" "I" ∈ lw_g := wd_c3 4 rfl rfl
set_option maxRecDepth 20000 in
theorem wd_588 : Cond.fieldLink RX10 10 "DanceCompany" "tape" "LDanceCompany$Tape;" ∈ lw_g := wd_c3 7 rfl rfl
set_option maxRecDepth 20000 in
theorem wd_589 : Cond.fieldLink RX10 18 "DanceCompany" "readings" "[[I" ∈ lw_g := wd_c3 8 rfl rfl
set_option maxRecDepth 20000 in
theorem wd_590 : Cond.fieldLink RX10 33 "DanceCompany" "scoreReader" "LDanceCompany$ScoreReader;" ∈ lw_g := wd_c3 9 rfl rfl
set_option maxRecDepth 20000 in
theorem wd_591 : Cond.fieldLink RX10 40 "DanceCompany" "ruleReader" "LDanceCompany$RuleReader;" ∈ lw_g := wd_c3 10 rfl rfl
set_option maxRecDepth 20000 in
theorem wd_592 : Cond.fieldLink RX10 46 "DanceCompany" "rulings" "[LDanceCompany$Ruling;" ∈ lw_g := wd_c3 11 rfl rfl
set_option maxRecDepth 20000 in
theorem wd_593 : Cond.fieldLink RX10 54 "DanceCompany" "ledger" "LDanceCompany$Ledger;" ∈ lw_g := wd_c3 12 rfl rfl
set_option maxRecDepth 20000 in
theorem wd_594 : Cond.fieldLink RX10 61 "DanceCompany" "standing" "LDanceCompany$Standing;" ∈ lw_g := wd_c3 13 rfl rfl
set_option maxRecDepth 20000 in
theorem wd_595 : Cond.fieldLink RX10 68 "DanceCompany" "casting" "LDanceCompany$Casting;" ∈ lw_g := wd_c3 14 rfl rfl
set_option maxRecDepth 20000 in
theorem wd_596 : Cond.fieldLink RX10 75 "DanceCompany" "timetable" "LDanceCompany$Timetable;" ∈ lw_g := wd_c3 15 rfl rfl
set_option maxRecDepth 20000 in
theorem wd_597 : Cond.fieldLink RX10 82 "DanceCompany" "score" "LDanceCompany$Score;" ∈ lw_g := wd_c3 16 rfl rfl
set_option maxRecDepth 20000 in
theorem wd_598 : Cond.fieldLink RX10 86 "DanceCompany" "draft" "LDanceCompany$Score;" ∈ lw_g := wd_c3 17 rfl rfl
set_option maxRecDepth 20000 in
theorem wd_599 : Cond.fieldLink RX10 89 "DanceCompany" "rulingsTold" "I" ∈ lw_g := wd_c3 18 rfl rfl
set_option maxRecDepth 20000 in
theorem wd_600 : Cond.fieldLink RX10 93 "DanceCompany" "bodies" "I" ∈ lw_g := wd_c3 19 rfl rfl
set_option maxRecDepth 20000 in
theorem wd_601 : Cond.fieldLink RX10 96 "DanceCompany" "lastFault" "I" ∈ lw_g := wd_c3 20 rfl rfl
set_option maxRecDepth 20000 in
theorem wd_602 : Cond.fieldLink RX10 99 "DanceCompany" "lastPlace" "I" ∈ lw_g := wd_c3 21 rfl rfl
set_option maxRecDepth 20000 in
theorem wd_603 : Cond.laysFinal "DanceCompany" "DanceCompany" "tape" "LDanceCompany$Tape;" ∈ lw_g := wd_c3 22 rfl rfl
set_option maxRecDepth 20000 in
theorem wd_605 : Cond.laysFinal "DanceCompany" "DanceCompany" "readings" "[[I" ∈ lw_g := wd_c3 24 rfl rfl
set_option maxRecDepth 20000 in
theorem wd_607 : Cond.laysFinal "DanceCompany" "DanceCompany" "scoreReader" "LDanceCompany$ScoreReader;" ∈ lw_g := wd_c3 26 rfl rfl
set_option maxRecDepth 20000 in
theorem wd_609 : Cond.laysFinal "DanceCompany" "DanceCompany" "ruleReader" "LDanceCompany$RuleReader;" ∈ lw_g := wd_c3 28 rfl rfl
set_option maxRecDepth 20000 in
theorem wd_611 : Cond.laysFinal "DanceCompany" "DanceCompany" "rulings" "[LDanceCompany$Ruling;" ∈ lw_g := wd_c3 30 rfl rfl
set_option maxRecDepth 20000 in
theorem wd_613 : Cond.laysFinal "DanceCompany" "DanceCompany" "ledger" "LDanceCompany$Ledger;" ∈ lw_g := wd_c3 32 rfl rfl
set_option maxRecDepth 20000 in
theorem wd_615 : Cond.laysFinal "DanceCompany" "DanceCompany" "standing" "LDanceCompany$Standing;" ∈ lw_g := wd_c3 34 rfl rfl
set_option maxRecDepth 20000 in
theorem wd_617 : Cond.laysFinal "DanceCompany" "DanceCompany" "casting" "LDanceCompany$Casting;" ∈ lw_g := wd_c3 36 rfl rfl
set_option maxRecDepth 20000 in
theorem wd_619 : Cond.laysFinal "DanceCompany" "DanceCompany" "timetable" "LDanceCompany$Timetable;" ∈ lw_g := wd_c3 38 rfl rfl
set_option maxRecDepth 20000 in
theorem wd_621 : Cond.lays "DanceCompany" "DanceCompany" "score" "LDanceCompany$Score;" ∈ lw_g := wd_c3 40 rfl rfl
set_option maxRecDepth 20000 in
theorem wd_623 : Cond.lays "DanceCompany" "DanceCompany" "draft" "LDanceCompany$Score;" ∈ lw_g := wd_c3 42 rfl rfl
set_option maxRecDepth 20000 in
theorem wd_625 : Cond.lays "DanceCompany" "DanceCompany" "rulingsTold" "I" ∈ lw_g := wd_c3 44 rfl rfl
set_option maxRecDepth 20000 in
theorem wd_627 : Cond.lays "DanceCompany" "DanceCompany" "bodies" "I" ∈ lw_g := wd_c3 46 rfl rfl
set_option maxRecDepth 20000 in
theorem wd_629 : Cond.lays "DanceCompany" "DanceCompany" "lastFault" "I" ∈ lw_g := wd_c3 48 rfl rfl
set_option maxRecDepth 20000 in
theorem wd_631 : Cond.lays "DanceCompany" "DanceCompany" "lastPlace" "I" ∈ lw_g := wd_c3 50 rfl rfl
set_option maxRecDepth 20000 in
theorem wd_634 : Cond.methodLink RL 13 yX10_feed ∈ lw_g := wd_c3 53 rfl rfl
set_option maxRecDepth 20000 in
theorem wd_635 : Cond.instanceMethod yX10_feed ∈ lw_g := wd_c3 54 rfl rfl
set_option maxRecDepth 20000 in
theorem wd_636 : Cond.selects RX10 yX10_feed yX10_feed ∈ lw_g := wd_c3 55 rfl rfl
set_option maxRecDepth 20000 in
theorem wd_637 : Cond.code yX10_feed cX10_feed (6 : Nat) (Option.some FieldType.int) ∈ lw_g := wd_c3 56 rfl rfl
set_option maxRecDepth 20000 in
theorem wd_638 : Cond.methodLink RX10 105 yX7_put ∈ lw_g := wd_c3 57 rfl rfl
set_option maxRecDepth 20000 in
theorem wd_639 : Cond.instanceMethod yX7_put ∈ lw_g := wd_c3 58 rfl rfl
set_option maxRecDepth 20000 in
theorem wd_640 : Cond.selects RX7 yX7_put yX7_put ∈ lw_g := wd_c3 59 rfl rfl
set_option maxRecDepth 20000 in
theorem wd_641 : Cond.code yX7_put cX7_put (3 : Nat) (Option.none : Option FieldType) ∈ lw_g := wd_c3 60 rfl rfl
set_option maxRecDepth 20000 in
theorem wd_642 : Cond.methodLink RL 18 yX10_end ∈ lw_g := wd_c3 61 rfl rfl
set_option maxRecDepth 20000 in
theorem wd_643 : Cond.instanceMethod yX10_end ∈ lw_g := wd_c3 62 rfl rfl
set_option maxRecDepth 20000 in
theorem wd_644 : Cond.selects RX10 yX10_end yX10_end ∈ lw_g := wd_c3 63 rfl rfl
set_option maxRecDepth 20000 in
theorem wd_645 : Cond.code yX10_end cX10_end (2 : Nat) (Option.some FieldType.int) ∈ lw_g := wd_c3 64 rfl rfl
set_option maxRecDepth 20000 in
theorem wd_646 : Cond.methodLink RL 23 yX10_works ∈ lw_g := wd_c3 65 rfl rfl
set_option maxRecDepth 20000 in
theorem wd_647 : Cond.instanceMethod yX10_works ∈ lw_g := wd_c3 66 rfl rfl
set_option maxRecDepth 20000 in
theorem wd_648 : Cond.selects RX10 yX10_works yX10_works ∈ lw_g := wd_c3 67 rfl rfl
set_option maxRecDepth 20000 in
theorem wd_649 : Cond.code yX10_works cX10_works (3 : Nat) (Option.some FieldType.int) ∈ lw_g := wd_c3 68 rfl rfl
set_option maxRecDepth 20000 in
theorem wd_650 : Cond.methodLink RX10 109 yX5_readInto ∈ lw_g := wd_c3 69 rfl rfl
set_option maxRecDepth 20000 in
theorem wd_651 : Cond.instanceMethod yX5_readInto ∈ lw_g := wd_c3 70 rfl rfl
set_option maxRecDepth 20000 in
theorem wd_652 : Cond.selects RX5 yX5_readInto yX5_readInto ∈ lw_g := wd_c3 71 rfl rfl
set_option maxRecDepth 20000 in
theorem wd_653 : Cond.code yX5_readInto cX5_readInto (3 : Nat) (Option.some FieldType.boolean) ∈ lw_g := wd_c3 72 rfl rfl
set_option maxRecDepth 20000 in
theorem wd_654 : Cond.methodLink RX5 25 yX4_clear ∈ lw_g := wd_c3 73 rfl rfl
set_option maxRecDepth 20000 in
theorem wd_655 : Cond.instanceMethod yX4_clear ∈ lw_g := wd_c3 74 rfl rfl
set_option maxRecDepth 20000 in
theorem wd_656 : Cond.selects RX4 yX4_clear yX4_clear ∈ lw_g := wd_c3 75 rfl rfl
set_option maxRecDepth 20000 in
theorem wd_657 : Cond.code yX4_clear cX4_clear (1 : Nat) (Option.none : Option FieldType) ∈ lw_g := wd_c3 76 rfl rfl
set_option maxRecDepth 20000 in
theorem wd_658 : Cond.methodLink RX5 42 yX9_start ∈ lw_g := wd_c3 77 rfl rfl
set_option maxRecDepth 20000 in
theorem wd_659 : Cond.instanceMethod yX9_start ∈ lw_g := wd_c3 78 rfl rfl
set_option maxRecDepth 20000 in
theorem wd_660 : Cond.selects RX9 yX9_start yX9_start ∈ lw_g := wd_c3 79 rfl rfl
set_option maxRecDepth 20000 in
theorem wd_661 : Cond.code yX9_start cX9_start (1 : Nat) (Option.none : Option FieldType) ∈ lw_g := wd_c3 80 rfl rfl
set_option maxRecDepth 20000 in
theorem wd_662 : Cond.methodLink RX9 40 yX9_advance ∈ lw_g := wd_c3 81 rfl rfl
set_option maxRecDepth 20000 in
theorem wd_663 : Cond.instanceMethod yX9_advance ∈ lw_g := wd_c3 82 rfl rfl
set_option maxRecDepth 20000 in
theorem wd_664 : Cond.selects RX9 yX9_advance yX9_advance ∈ lw_g := wd_c3 83 rfl rfl
set_option maxRecDepth 20000 in
theorem wd_665 : Cond.code yX9_advance cX9_advance (4 : Nat) (Option.none : Option FieldType) ∈ lw_g := wd_c3 84 rfl rfl
set_option maxRecDepth 20000 in
theorem wd_666 : Cond.methodLink RX9 43 yX9_skipBlanks ∈ lw_g := wd_c3 85 rfl rfl
set_option maxRecDepth 20000 in
theorem wd_668 : Cond.instanceMethod yX9_skipBlanks ∈ lw_g := wd_c3 87 rfl rfl
set_option maxRecDepth 20000 in
theorem wd_669 : Cond.code yX9_skipBlanks cX9_skipBlanks (1 : Nat) (Option.none : Option FieldType) ∈ lw_g := wd_c3 88 rfl rfl
set_option maxRecDepth 20000 in
theorem wd_670 : Cond.methodLink RX9 49 yX7_at ∈ lw_g := wd_c3 89 rfl rfl
set_option maxRecDepth 20000 in
theorem wd_671 : Cond.instanceMethod yX7_at ∈ lw_g := wd_c3 90 rfl rfl
set_option maxRecDepth 20000 in
theorem wd_672 : Cond.selects RX7 yX7_at yX7_at ∈ lw_g := wd_c3 91 rfl rfl
set_option maxRecDepth 20000 in
theorem wd_673 : Cond.code yX7_at cX7_at (2 : Nat) (Option.some FieldType.int) ∈ lw_g := wd_c3 92 rfl rfl
set_option maxRecDepth 20000 in
theorem wd_674 : Cond.methodLink RX9 57 yX9_isLetter ∈ lw_g := wd_c3 93 rfl rfl
set_option maxRecDepth 20000 in
theorem wd_675 : Cond.static yX9_isLetter ∈ lw_g := wd_c3 94 rfl rfl
set_option maxRecDepth 20000 in
theorem wd_676 : Cond.code yX9_isLetter cX9_isLetter (1 : Nat) (Option.some FieldType.boolean) ∈ lw_g := wd_c3 95 rfl rfl
set_option maxRecDepth 20000 in
theorem wd_677 : Cond.methodLink RX9 61 yX9_takeWord ∈ lw_g := wd_c3 96 rfl rfl
set_option maxRecDepth 20000 in
theorem wd_679 : Cond.instanceMethod yX9_takeWord ∈ lw_g := wd_c3 98 rfl rfl
set_option maxRecDepth 20000 in
theorem wd_680 : Cond.code yX9_takeWord cX9_takeWord (2 : Nat) (Option.none : Option FieldType) ∈ lw_g := wd_c3 99 rfl rfl
set_option maxRecDepth 20000 in
theorem wd_681 : Cond.methodLink RX9 64 yX9_isDigit ∈ lw_g := wd_c3 100 rfl rfl
set_option maxRecDepth 20000 in
theorem wd_682 : Cond.static yX9_isDigit ∈ lw_g := wd_c3 101 rfl rfl
set_option maxRecDepth 20000 in
theorem wd_683 : Cond.code yX9_isDigit cX9_isDigit (1 : Nat) (Option.some FieldType.boolean) ∈ lw_g := wd_c3 102 rfl rfl
set_option maxRecDepth 20000 in
theorem wd_684 : Cond.methodLink RX9 67 yX9_takeNumber ∈ lw_g := wd_c3 103 rfl rfl
set_option maxRecDepth 20000 in
theorem wd_686 : Cond.instanceMethod yX9_takeNumber ∈ lw_g := wd_c3 105 rfl rfl
set_option maxRecDepth 20000 in
theorem wd_687 : Cond.code yX9_takeNumber cX9_takeNumber (2 : Nat) (Option.none : Option FieldType) ∈ lw_g := wd_c3 106 rfl rfl
set_option maxRecDepth 20000 in
theorem wd_689 : Cond.methodLink RX9 72 yJ0_indexOf_0f7a4 ∈ lw_g := wd_c3 108 rfl rfl
set_option maxRecDepth 20000 in
theorem wd_690 : Cond.instanceMethod yJ0_indexOf_0f7a4 ∈ lw_g := wd_c3 109 rfl rfl
set_option maxRecDepth 20000 in
theorem wd_691 : Cond.selects RJ0 yJ0_indexOf_0f7a4 yJ0_indexOf_0f7a4 ∈ lw_g := wd_c3 110 rfl rfl
set_option maxRecDepth 20000 in
theorem wd_692 : Cond.code yJ0_indexOf_0f7a4 cJ0_indexOf_0f7a4 (2 : Nat) (Option.some FieldType.int) ∈ lw_g := wd_c3 111 rfl rfl
set_option maxRecDepth 20000 in
theorem wd_693 : Cond.methodLink RJ0 633 yJ0_indexOf_7cf53 ∈ lw_g := wd_c3 112 rfl rfl
set_option maxRecDepth 20000 in
theorem wd_694 : Cond.instanceMethod yJ0_indexOf_7cf53 ∈ lw_g := wd_c3 113 rfl rfl
set_option maxRecDepth 20000 in
theorem wd_695 : Cond.selects RJ0 yJ0_indexOf_7cf53 yJ0_indexOf_7cf53 ∈ lw_g := wd_c3 114 rfl rfl
set_option maxRecDepth 20000 in
theorem wd_696 : Cond.code yJ0_indexOf_7cf53 cJ0_indexOf_7cf53 (3 : Nat) (Option.some FieldType.int) ∈ lw_g := wd_c3 115 rfl rfl
set_option maxRecDepth 20000 in
theorem wd_697 : Cond.methodLink RJ0 505 yJ0_length_8abf5 ∈ lw_g := wd_c3 116 rfl rfl
set_option maxRecDepth 20000 in
theorem wd_698 : Cond.methodLink RJ0 637 yJ1_indexOf_4cfef ∈ lw_g := wd_c3 117 rfl rfl
set_option maxRecDepth 20000 in
theorem wd_699 : Cond.static yJ1_indexOf_4cfef ∈ lw_g := wd_c3 118 rfl rfl
set_option maxRecDepth 20000 in
theorem wd_700 : Cond.code yJ1_indexOf_4cfef cJ1_indexOf_4cfef (4 : Nat) (Option.some FieldType.int) ∈ lw_g := wd_c3 119 rfl rfl
set_option maxRecDepth 20000 in
theorem wd_701 : Cond.methodLink RJ1 88 yJ1_canEncode_9a6ad ∈ lw_g := wd_c3 120 rfl rfl
set_option maxRecDepth 20000 in
theorem wd_702 : Cond.static yJ1_canEncode_9a6ad ∈ lw_g := wd_c3 121 rfl rfl
set_option maxRecDepth 20000 in
theorem wd_703 : Cond.code yJ1_canEncode_9a6ad cJ1_canEncode_9a6ad (1 : Nat) (Option.some FieldType.boolean) ∈ lw_g := wd_c3 122 rfl rfl
set_option maxRecDepth 20000 in
theorem wd_704 : Cond.methodLink RJ1 92 yJ9_max_7cf53 ∈ lw_g := wd_c3 123 rfl rfl
set_option maxRecDepth 20000 in
theorem wd_705 : Cond.static yJ9_max_7cf53 ∈ lw_g := wd_c3 124 rfl rfl
set_option maxRecDepth 20000 in
theorem wd_706 : Cond.code yJ9_max_7cf53 cJ9_max_7cf53 (2 : Nat) (Option.some FieldType.int) ∈ lw_g := wd_c3 125 rfl rfl
set_option maxRecDepth 20000 in
theorem wd_707 : Cond.methodLink RJ1 38 yJ9_min_7cf53 ∈ lw_g := wd_c3 126 rfl rfl
set_option maxRecDepth 20000 in
theorem wd_708 : Cond.static yJ9_min_7cf53 ∈ lw_g := wd_c3 127 rfl rfl
set_option maxRecDepth 20000 in
theorem wd_709 : Cond.code yJ9_min_7cf53 cJ9_min_7cf53 (2 : Nat) (Option.some FieldType.int) ∈ lw_g := wd_c3 128 rfl rfl
set_option maxRecDepth 20000 in
theorem wd_710 : Cond.methodLink RJ1 95 yJ1_indexOfChar_4cfef ∈ lw_g := wd_c3 129 rfl rfl
set_option maxRecDepth 20000 in
theorem wd_711 : Cond.static yJ1_indexOfChar_4cfef ∈ lw_g := wd_c3 130 rfl rfl
set_option maxRecDepth 20000 in
theorem wd_712 : Cond.code yJ1_indexOfChar_4cfef cJ1_indexOfChar_4cfef (6 : Nat) (Option.some FieldType.int) ∈ lw_g := wd_c3 131 rfl rfl
set_option maxRecDepth 20000 in
theorem wd_713 : Cond.methodLink RJ0 640 yJ2_indexOf_4cfef ∈ lw_g := wd_c3 132 rfl rfl
set_option maxRecDepth 20000 in
theorem wd_714 : Cond.static yJ2_indexOf_4cfef ∈ lw_g := wd_c3 133 rfl rfl
set_option maxRecDepth 20000 in
theorem wd_715 : Cond.code yJ2_indexOf_4cfef cJ2_indexOf_4cfef (4 : Nat) (Option.some FieldType.int) ∈ lw_g := wd_c3 134 rfl rfl
set_option maxRecDepth 20000 in
theorem wd_716 : Cond.methodLink RJ2 224 yJ9_max_7cf53 ∈ lw_g := wd_c3 135 rfl rfl
set_option maxRecDepth 20000 in
theorem wd_717 : Cond.methodLink RJ2 183 yJ9_min_7cf53 ∈ lw_g := wd_c3 136 rfl rfl
set_option maxRecDepth 20000 in
theorem wd_718 : Cond.constant RJ2 227 (Int32.ofInt (65536)) ∈ lw_g := wd_c3 137 rfl rfl
set_option maxRecDepth 20000 in
theorem wd_719 : Cond.methodLink RJ2 228 yJ2_indexOfChar_4cfef ∈ lw_g := wd_c3 138 rfl rfl
set_option maxRecDepth 20000 in
theorem wd_720 : Cond.static yJ2_indexOfChar_4cfef ∈ lw_g := wd_c3 139 rfl rfl
set_option maxRecDepth 20000 in
theorem wd_721 : Cond.code yJ2_indexOfChar_4cfef cJ2_indexOfChar_4cfef (4 : Nat) (Option.some FieldType.int) ∈ lw_g := wd_c3 140 rfl rfl
set_option maxRecDepth 20000 in
theorem wd_722 : Cond.methodLink RJ2 96 yJ2_checkBoundsBeginEnd_d044e ∈ lw_g := wd_c3 141 rfl rfl
set_option maxRecDepth 20000 in
theorem wd_723 : Cond.static yJ2_checkBoundsBeginEnd_d044e ∈ lw_g := wd_c3 142 rfl rfl
set_option maxRecDepth 20000 in
theorem wd_724 : Cond.code yJ2_checkBoundsBeginEnd_d044e cJ2_checkBoundsBeginEnd_d044e (3 : Nat) (Option.none : Option FieldType) ∈ lw_g := wd_c3 143 rfl rfl
set_option maxRecDepth 20000 in
theorem wd_725 : Cond.methodLink RJ2 241 yJ0_checkBoundsBeginEnd_23922 ∈ lw_g := wd_c3 144 rfl rfl
set_option maxRecDepth 20000 in
theorem wd_726 : Cond.static yJ0_checkBoundsBeginEnd_23922 ∈ lw_g := wd_c3 145 rfl rfl
set_option maxRecDepth 20000 in
theorem wd_727 : Cond.code yJ0_checkBoundsBeginEnd_23922 cJ0_checkBoundsBeginEnd_23922 (3 : Nat) (Option.none : Option FieldType) ∈ lw_g := wd_c3 146 rfl rfl
set_option maxRecDepth 20000 in
theorem wd_728 : Cond.methodLink RJ0 1062 yJ3_checkFromToIndex_8c36e ∈ lw_g := wd_c3 147 rfl rfl
set_option maxRecDepth 20000 in
theorem wd_729 : Cond.static yJ3_checkFromToIndex_8c36e ∈ lw_g := wd_c3 148 rfl rfl
set_option maxRecDepth 20000 in
theorem wd_730 : Cond.code yJ3_checkFromToIndex_8c36e cJ3_checkFromToIndex_8c36e (4 : Nat) (Option.some FieldType.int) ∈ lw_g := wd_c3 149 rfl rfl
set_option maxRecDepth 20000 in
theorem wd_731 : Cond.methodLink RJ2 244 yJ2_indexOfCharUnsafe_4cfef ∈ lw_g := wd_c3 150 rfl rfl
set_option maxRecDepth 20000 in
theorem wd_732 : Cond.static yJ2_indexOfCharUnsafe_4cfef ∈ lw_g := wd_c3 151 rfl rfl
set_option maxRecDepth 20000 in
theorem wd_733 : Cond.code yJ2_indexOfCharUnsafe_4cfef cJ2_indexOfCharUnsafe_4cfef (5 : Nat) (Option.some FieldType.int) ∈ lw_g := wd_c3 152 rfl rfl
set_option maxRecDepth 20000 in
theorem wd_734 : Cond.methodLink RJ2 232 yJ2_indexOfSupplementary_4cfef ∈ lw_g := wd_c3 153 rfl rfl
set_option maxRecDepth 20000 in
theorem wd_735 : Cond.static yJ2_indexOfSupplementary_4cfef ∈ lw_g := wd_c3 154 rfl rfl
set_option maxRecDepth 20000 in
theorem wd_736 : Cond.code yJ2_indexOfSupplementary_4cfef cJ2_indexOfSupplementary_4cfef (7 : Nat) (Option.some FieldType.int) ∈ lw_g := wd_c3 155 rfl rfl
set_option maxRecDepth 20000 in
theorem wd_737 : Cond.methodLink RJ2 164 yJ11_isValidCodePoint_9a6ad ∈ lw_g := wd_c3 156 rfl rfl
set_option maxRecDepth 20000 in
theorem wd_738 : Cond.static yJ11_isValidCodePoint_9a6ad ∈ lw_g := wd_c3 157 rfl rfl
set_option maxRecDepth 20000 in
theorem wd_739 : Cond.code yJ11_isValidCodePoint_9a6ad cJ11_isValidCodePoint_9a6ad (2 : Nat) (Option.some FieldType.boolean) ∈ lw_g := wd_c3 158 rfl rfl
set_option maxRecDepth 20000 in
theorem wd_740 : Cond.methodLink RJ2 157 yJ11_highSurrogate_5068e ∈ lw_g := wd_c3 159 rfl rfl
set_option maxRecDepth 20000 in
theorem wd_741 : Cond.static yJ11_highSurrogate_5068e ∈ lw_g := wd_c3 160 rfl rfl
set_option maxRecDepth 20000 in
theorem wd_742 : Cond.code yJ11_highSurrogate_5068e cJ11_highSurrogate_5068e (1 : Nat) (Option.some FieldType.char) ∈ lw_g := wd_c3 161 rfl rfl
set_option maxRecDepth 20000 in
theorem wd_743 : Cond.constant RJ11 110 (Int32.ofInt (55232)) ∈ lw_g := wd_c3 162 rfl rfl
set_option maxRecDepth 20000 in
theorem wd_744 : Cond.methodLink RJ2 161 yJ11_lowSurrogate_5068e ∈ lw_g := wd_c3 163 rfl rfl
set_option maxRecDepth 20000 in
theorem wd_745 : Cond.static yJ11_lowSurrogate_5068e ∈ lw_g := wd_c3 164 rfl rfl
set_option maxRecDepth 20000 in
theorem wd_746 : Cond.code yJ11_lowSurrogate_5068e cJ11_lowSurrogate_5068e (1 : Nat) (Option.some FieldType.char) ∈ lw_g := wd_c3 165 rfl rfl
set_option maxRecDepth 20000 in
theorem wd_747 : Cond.constant RJ11 76 (Int32.ofInt (56320)) ∈ lw_g := wd_c3 166 rfl rfl
set_option maxRecDepth 20000 in
theorem wd_748 : Cond.methodLink RX5 52 yX5_takeLine ∈ lw_g := wd_c3 167 rfl rfl
set_option maxRecDepth 20000 in
theorem wd_750 : Cond.instanceMethod yX5_takeLine ∈ lw_g := wd_c3 169 rfl rfl
set_option maxRecDepth 20000 in
theorem wd_751 : Cond.code yX5_takeLine cX5_takeLine (1 : Nat) (Option.some FieldType.boolean) ∈ lw_g := wd_c3 170 rfl rfl
set_option maxRecDepth 20000 in
theorem wd_752 : Cond.methodLink RX5 59 yX5_takeFloor ∈ lw_g := wd_c3 171 rfl rfl
set_option maxRecDepth 20000 in
theorem wd_754 : Cond.instanceMethod yX5_takeFloor ∈ lw_g := wd_c3 173 rfl rfl
set_option maxRecDepth 20000 in
theorem wd_755 : Cond.code yX5_takeFloor cX5_takeFloor (1 : Nat) (Option.some FieldType.boolean) ∈ lw_g := wd_c3 174 rfl rfl
set_option maxRecDepth 20000 in
theorem wd_756 : Cond.methodLink RX5 69 yX5_refuse ∈ lw_g := wd_c3 175 rfl rfl
set_option maxRecDepth 20000 in
theorem wd_758 : Cond.instanceMethod yX5_refuse ∈ lw_g := wd_c3 177 rfl rfl
set_option maxRecDepth 20000 in
theorem wd_759 : Cond.code yX5_refuse cX5_refuse (2 : Nat) (Option.some FieldType.boolean) ∈ lw_g := wd_c3 178 rfl rfl
set_option maxRecDepth 20000 in
theorem wd_760 : Cond.methodLink RX5 73 yX9_advance ∈ lw_g := wd_c3 179 rfl rfl
set_option maxRecDepth 20000 in
theorem wd_761 : Cond.methodLink RX5 76 yX5_isNumber ∈ lw_g := wd_c3 180 rfl rfl
set_option maxRecDepth 20000 in
theorem wd_763 : Cond.instanceMethod yX5_isNumber ∈ lw_g := wd_c3 182 rfl rfl
set_option maxRecDepth 20000 in
theorem wd_764 : Cond.code yX5_isNumber cX5_isNumber (3 : Nat) (Option.some FieldType.boolean) ∈ lw_g := wd_c3 183 rfl rfl
set_option maxRecDepth 20000 in
theorem wd_765 : Cond.methodLink RX5 80 yX5_takeNumber ∈ lw_g := wd_c3 184 rfl rfl
set_option maxRecDepth 20000 in
theorem wd_767 : Cond.instanceMethod yX5_takeNumber ∈ lw_g := wd_c3 186 rfl rfl
set_option maxRecDepth 20000 in
theorem wd_768 : Cond.code yX5_takeNumber cX5_takeNumber (2 : Nat) (Option.some FieldType.int) ∈ lw_g := wd_c3 187 rfl rfl
set_option maxRecDepth 20000 in
theorem wd_769 : Cond.methodLink RX5 90 yX5_take ∈ lw_g := wd_c3 188 rfl rfl
set_option maxRecDepth 20000 in
theorem wd_771 : Cond.instanceMethod yX5_take ∈ lw_g := wd_c3 190 rfl rfl
set_option maxRecDepth 20000 in
theorem wd_772 : Cond.code yX5_take cX5_take (2 : Nat) (Option.some FieldType.boolean) ∈ lw_g := wd_c3 191 rfl rfl
set_option maxRecDepth 20000 in
theorem wd_773 : Cond.methodLink RX5 62 yX5_takeWork ∈ lw_g := wd_c3 192 rfl rfl
set_option maxRecDepth 20000 in
theorem wd_775 : Cond.instanceMethod yX5_takeWork ∈ lw_g := wd_c3 194 rfl rfl
set_option maxRecDepth 20000 in
theorem wd_776 : Cond.code yX5_takeWork cX5_takeWork (1 : Nat) (Option.some FieldType.boolean) ∈ lw_g := wd_c3 195 rfl rfl
set_option maxRecDepth 20000 in
theorem wd_777 : Cond.methodLink RX5 99 yX5_takeName ∈ lw_g := wd_c3 196 rfl rfl
set_option maxRecDepth 20000 in
theorem wd_779 : Cond.instanceMethod yX5_takeName ∈ lw_g := wd_c3 198 rfl rfl
set_option maxRecDepth 20000 in
theorem wd_780 : Cond.code yX5_takeName cX5_takeName (2 : Nat) (Option.some FieldType.boolean) ∈ lw_g := wd_c3 199 rfl rfl
set_option maxRecDepth 20000 in
theorem wd_781 : Cond.methodLink RX5 65 yX5_takePart ∈ lw_g := wd_c3 200 rfl rfl
set_option maxRecDepth 20000 in
theorem wd_783 : Cond.instanceMethod yX5_takePart ∈ lw_g := wd_c3 202 rfl rfl
set_option maxRecDepth 20000 in
theorem wd_784 : Cond.code yX5_takePart cX5_takePart (4 : Nat) (Option.some FieldType.boolean) ∈ lw_g := wd_c3 203 rfl rfl
set_option maxRecDepth 20000 in
theorem wd_785 : Cond.methodLink RX5 128 yX5_takeWords ∈ lw_g := wd_c3 204 rfl rfl
set_option maxRecDepth 20000 in
theorem wd_787 : Cond.instanceMethod yX5_takeWords ∈ lw_g := wd_c3 206 rfl rfl
set_option maxRecDepth 20000 in
theorem wd_788 : Cond.code yX5_takeWords cX5_takeWords (3 : Nat) (Option.some FieldType.boolean) ∈ lw_g := wd_c3 207 rfl rfl
set_option maxRecDepth 20000 in
theorem wd_789 : Cond.methodLink RX5 131 yX5_takeSteps ∈ lw_g := wd_c3 208 rfl rfl
set_option maxRecDepth 20000 in
theorem wd_791 : Cond.instanceMethod yX5_takeSteps ∈ lw_g := wd_c3 210 rfl rfl
set_option maxRecDepth 20000 in
theorem wd_792 : Cond.code yX5_takeSteps cX5_takeSteps (6 : Nat) (Option.some FieldType.boolean) ∈ lw_g := wd_c3 211 rfl rfl
set_option maxRecDepth 20000 in
theorem wd_795 : Cond.methodLink RX5 141 yX9_letter ∈ lw_g := wd_c3 214 rfl rfl
set_option maxRecDepth 20000 in
theorem wd_796 : Cond.instanceMethod yX9_letter ∈ lw_g := wd_c3 215 rfl rfl
set_option maxRecDepth 20000 in
theorem wd_797 : Cond.selects RX9 yX9_letter yX9_letter ∈ lw_g := wd_c3 216 rfl rfl
set_option maxRecDepth 20000 in
theorem wd_798 : Cond.code yX9_letter cX9_letter (2 : Nat) (Option.some FieldType.int) ∈ lw_g := wd_c3 217 rfl rfl
set_option maxRecDepth 20000 in
theorem wd_799 : Cond.methodLink RX5 145 yJ0_indexOf_0f7a4 ∈ lw_g := wd_c3 218 rfl rfl
set_option maxRecDepth 20000 in
theorem wd_800 : Cond.methodLink RL 28 yX10_rules ∈ lw_g := wd_c3 219 rfl rfl
set_option maxRecDepth 20000 in
theorem wd_801 : Cond.instanceMethod yX10_rules ∈ lw_g := wd_c3 220 rfl rfl
set_option maxRecDepth 20000 in
theorem wd_802 : Cond.selects RX10 yX10_rules yX10_rules ∈ lw_g := wd_c3 221 rfl rfl
set_option maxRecDepth 20000 in
theorem wd_803 : Cond.code yX10_rules cX10_rules (3 : Nat) (Option.some FieldType.int) ∈ lw_g := wd_c3 222 rfl rfl
set_option maxRecDepth 20000 in
theorem wd_804 : Cond.methodLink RX10 128 yX10_isDay ∈ lw_g := wd_c3 223 rfl rfl
set_option maxRecDepth 20000 in
theorem wd_805 : Cond.static yX10_isDay ∈ lw_g := wd_c3 224 rfl rfl
set_option maxRecDepth 20000 in
theorem wd_806 : Cond.code yX10_isDay cX10_isDay (1 : Nat) (Option.some FieldType.boolean) ∈ lw_g := wd_c3 225 rfl rfl
set_option maxRecDepth 20000 in
theorem wd_807 : Cond.methodLink RX10 132 yX2_readInto ∈ lw_g := wd_c3 226 rfl rfl
set_option maxRecDepth 20000 in
theorem wd_808 : Cond.instanceMethod yX2_readInto ∈ lw_g := wd_c3 227 rfl rfl
set_option maxRecDepth 20000 in
theorem wd_809 : Cond.selects RX2 yX2_readInto yX2_readInto ∈ lw_g := wd_c3 228 rfl rfl
set_option maxRecDepth 20000 in
theorem wd_810 : Cond.code yX2_readInto cX2_readInto (3 : Nat) (Option.some FieldType.boolean) ∈ lw_g := wd_c3 229 rfl rfl
set_option maxRecDepth 20000 in
theorem wd_811 : Cond.methodLink RX2 23 yX3_clear ∈ lw_g := wd_c3 230 rfl rfl
set_option maxRecDepth 20000 in
theorem wd_812 : Cond.instanceMethod yX3_clear ∈ lw_g := wd_c3 231 rfl rfl
set_option maxRecDepth 20000 in
theorem wd_813 : Cond.selects RX3 yX3_clear yX3_clear ∈ lw_g := wd_c3 232 rfl rfl
set_option maxRecDepth 20000 in
theorem wd_814 : Cond.code yX3_clear cX3_clear (1 : Nat) (Option.none : Option FieldType) ∈ lw_g := wd_c3 233 rfl rfl
set_option maxRecDepth 20000 in
theorem wd_815 : Cond.methodLink RX3 25 yJ7_fill_53178 ∈ lw_g := wd_c3 234 rfl rfl
set_option maxRecDepth 20000 in
theorem wd_816 : Cond.static yJ7_fill_53178 ∈ lw_g := wd_c3 235 rfl rfl
set_option maxRecDepth 20000 in
theorem wd_817 : Cond.code yJ7_fill_53178 cJ7_fill_53178 (4 : Nat) (Option.none : Option FieldType) ∈ lw_g := wd_c3 236 rfl rfl
set_option maxRecDepth 20000 in
theorem wd_818 : Cond.methodLink RX2 38 yX9_start ∈ lw_g := wd_c3 237 rfl rfl
set_option maxRecDepth 20000 in
theorem wd_819 : Cond.methodLink RX2 46 yX2_takeLine ∈ lw_g := wd_c3 238 rfl rfl
set_option maxRecDepth 20000 in
theorem wd_821 : Cond.instanceMethod yX2_takeLine ∈ lw_g := wd_c4 0 rfl rfl
set_option maxRecDepth 20000 in
theorem wd_822 : Cond.code yX2_takeLine cX2_takeLine (2 : Nat) (Option.some FieldType.boolean) ∈ lw_g := wd_c4 1 rfl rfl
set_option maxRecDepth 20000 in
theorem wd_823 : Cond.methodLink RX2 50 yX2_lineOf ∈ lw_g := wd_c4 2 rfl rfl
set_option maxRecDepth 20000 in
theorem wd_824 : Cond.static yX2_lineOf ∈ lw_g := wd_c4 3 rfl rfl
set_option maxRecDepth 20000 in
theorem wd_825 : Cond.code yX2_lineOf cX2_lineOf (1 : Nat) (Option.some FieldType.int) ∈ lw_g := wd_c4 4 rfl rfl
set_option maxRecDepth 20000 in
theorem wd_826 : Cond.methodLink RX2 54 yX3_tells ∈ lw_g := wd_c4 5 rfl rfl
set_option maxRecDepth 20000 in
theorem wd_827 : Cond.instanceMethod yX3_tells ∈ lw_g := wd_c4 6 rfl rfl
set_option maxRecDepth 20000 in
theorem wd_828 : Cond.selects RX3 yX3_tells yX3_tells ∈ lw_g := wd_c4 7 rfl rfl
set_option maxRecDepth 20000 in
theorem wd_829 : Cond.code yX3_tells cX3_tells (2 : Nat) (Option.some FieldType.boolean) ∈ lw_g := wd_c4 8 rfl rfl
set_option maxRecDepth 20000 in
theorem wd_830 : Cond.methodLink RX2 58 yX2_refuse ∈ lw_g := wd_c4 9 rfl rfl
set_option maxRecDepth 20000 in
theorem wd_832 : Cond.instanceMethod yX2_refuse ∈ lw_g := wd_c4 11 rfl rfl
set_option maxRecDepth 20000 in
theorem wd_833 : Cond.code yX2_refuse cX2_refuse (1 : Nat) (Option.some FieldType.boolean) ∈ lw_g := wd_c4 12 rfl rfl
set_option maxRecDepth 20000 in
theorem wd_834 : Cond.methodLink RX2 61 yX9_advance ∈ lw_g := wd_c4 13 rfl rfl
set_option maxRecDepth 20000 in
theorem wd_835 : Cond.methodLink RX2 64 yX3_open ∈ lw_g := wd_c4 14 rfl rfl
set_option maxRecDepth 20000 in
theorem wd_836 : Cond.instanceMethod yX3_open ∈ lw_g := wd_c4 15 rfl rfl
set_option maxRecDepth 20000 in
theorem wd_837 : Cond.selects RX3 yX3_open yX3_open ∈ lw_g := wd_c4 16 rfl rfl
set_option maxRecDepth 20000 in
theorem wd_838 : Cond.code yX3_open cX3_open (2 : Nat) (Option.none : Option FieldType) ∈ lw_g := wd_c4 17 rfl rfl
set_option maxRecDepth 20000 in
theorem wd_839 : Cond.methodLink RX2 68 yX2_takeExpression ∈ lw_g := wd_c4 18 rfl rfl
set_option maxRecDepth 20000 in
theorem wd_841 : Cond.instanceMethod yX2_takeExpression ∈ lw_g := wd_c4 20 rfl rfl
set_option maxRecDepth 20000 in
theorem wd_842 : Cond.code yX2_takeExpression cX2_takeExpression (3 : Nat) (Option.some FieldType.boolean) ∈ lw_g := wd_c4 21 rfl rfl
set_option maxRecDepth 20000 in
theorem wd_843 : Cond.methodLink RX2 82 yX2_afterUnit ∈ lw_g := wd_c4 22 rfl rfl
set_option maxRecDepth 20000 in
theorem wd_845 : Cond.instanceMethod yX2_afterUnit ∈ lw_g := wd_c4 24 rfl rfl
set_option maxRecDepth 20000 in
theorem wd_846 : Cond.code yX2_afterUnit cX2_afterUnit (3 : Nat) (Option.some FieldType.int) ∈ lw_g := wd_c4 25 rfl rfl
set_option maxRecDepth 20000 in
theorem wd_847 : Cond.methodLink RX2 106 yX2_release ∈ lw_g := wd_c4 26 rfl rfl
set_option maxRecDepth 20000 in
theorem wd_849 : Cond.instanceMethod yX2_release ∈ lw_g := wd_c4 28 rfl rfl
set_option maxRecDepth 20000 in
theorem wd_850 : Cond.code yX2_release cX2_release (2 : Nat) (Option.none : Option FieldType) ∈ lw_g := wd_c4 29 rfl rfl
set_option maxRecDepth 20000 in
theorem wd_851 : Cond.methodLink RX2 112 yX2_rankOf ∈ lw_g := wd_c4 30 rfl rfl
set_option maxRecDepth 20000 in
theorem wd_852 : Cond.static yX2_rankOf ∈ lw_g := wd_c4 31 rfl rfl
set_option maxRecDepth 20000 in
theorem wd_853 : Cond.code yX2_rankOf cX2_rankOf (1 : Nat) (Option.some FieldType.int) ∈ lw_g := wd_c4 32 rfl rfl
set_option maxRecDepth 20000 in
theorem wd_854 : Cond.methodLink RX2 95 yX3_add ∈ lw_g := wd_c4 33 rfl rfl
set_option maxRecDepth 20000 in
theorem wd_855 : Cond.instanceMethod yX3_add ∈ lw_g := wd_c4 34 rfl rfl
set_option maxRecDepth 20000 in
theorem wd_856 : Cond.selects RX3 yX3_add yX3_add ∈ lw_g := wd_c4 35 rfl rfl
set_option maxRecDepth 20000 in
theorem wd_857 : Cond.code yX3_add cX3_add (2 : Nat) (Option.none : Option FieldType) ∈ lw_g := wd_c4 36 rfl rfl
set_option maxRecDepth 20000 in
theorem wd_858 : Cond.methodLink RX2 109 yX2_leaveBracket ∈ lw_g := wd_c4 37 rfl rfl
set_option maxRecDepth 20000 in
theorem wd_860 : Cond.instanceMethod yX2_leaveBracket ∈ lw_g := wd_c4 39 rfl rfl
set_option maxRecDepth 20000 in
theorem wd_861 : Cond.code yX2_leaveBracket cX2_leaveBracket (1 : Nat) (Option.some FieldType.boolean) ∈ lw_g := wd_c4 40 rfl rfl
set_option maxRecDepth 20000 in
theorem wd_862 : Cond.methodLink RX2 115 yX2_push ∈ lw_g := wd_c4 41 rfl rfl
set_option maxRecDepth 20000 in
theorem wd_864 : Cond.instanceMethod yX2_push ∈ lw_g := wd_c4 43 rfl rfl
set_option maxRecDepth 20000 in
theorem wd_865 : Cond.code yX2_push cX2_push (2 : Nat) (Option.some FieldType.boolean) ∈ lw_g := wd_c4 44 rfl rfl
set_option maxRecDepth 20000 in
theorem wd_866 : Cond.methodLink RX2 85 yX2_beforeUnit ∈ lw_g := wd_c4 45 rfl rfl
set_option maxRecDepth 20000 in
theorem wd_868 : Cond.instanceMethod yX2_beforeUnit ∈ lw_g := wd_c4 47 rfl rfl
set_option maxRecDepth 20000 in
theorem wd_869 : Cond.code yX2_beforeUnit cX2_beforeUnit (4 : Nat) (Option.some FieldType.int) ∈ lw_g := wd_c4 48 rfl rfl
set_option maxRecDepth 20000 in
theorem wd_870 : Cond.methodLink RX2 89 yX2_enter ∈ lw_g := wd_c4 49 rfl rfl
set_option maxRecDepth 20000 in
theorem wd_872 : Cond.instanceMethod yX2_enter ∈ lw_g := wd_c4 51 rfl rfl
set_option maxRecDepth 20000 in
theorem wd_873 : Cond.code yX2_enter cX2_enter (2 : Nat) (Option.some FieldType.boolean) ∈ lw_g := wd_c4 52 rfl rfl
set_option maxRecDepth 20000 in
theorem wd_874 : Cond.methodLink RX2 92 yX2_codeOf ∈ lw_g := wd_c4 53 rfl rfl
set_option maxRecDepth 20000 in
theorem wd_876 : Cond.instanceMethod yX2_codeOf ∈ lw_g := wd_c4 55 rfl rfl
set_option maxRecDepth 20000 in
theorem wd_877 : Cond.code yX2_codeOf cX2_codeOf (3 : Nat) (Option.some FieldType.int) ∈ lw_g := wd_c4 56 rfl rfl
set_option maxRecDepth 20000 in
theorem wd_878 : Cond.methodLink RX2 101 yX6_variableOf ∈ lw_g := wd_c4 57 rfl rfl
set_option maxRecDepth 20000 in
theorem wd_879 : Cond.static yX6_variableOf ∈ lw_g := wd_c4 58 rfl rfl
set_option maxRecDepth 20000 in
theorem wd_880 : Cond.code yX6_variableOf cX6_variableOf (1 : Nat) (Option.some FieldType.int) ∈ lw_g := wd_c4 59 rfl rfl
set_option maxRecDepth 20000 in
theorem wd_881 : Cond.methodLink RX2 71 yX3_close ∈ lw_g := wd_c4 60 rfl rfl
set_option maxRecDepth 20000 in
theorem wd_882 : Cond.instanceMethod yX3_close ∈ lw_g := wd_c4 61 rfl rfl
set_option maxRecDepth 20000 in
theorem wd_883 : Cond.selects RX3 yX3_close yX3_close ∈ lw_g := wd_c4 62 rfl rfl
set_option maxRecDepth 20000 in
theorem wd_884 : Cond.code yX3_close cX3_close (2 : Nat) (Option.none : Option FieldType) ∈ lw_g := wd_c4 63 rfl rfl
set_option maxRecDepth 20000 in
theorem wd_885 : Cond.methodLink RL 32 yX10_fault ∈ lw_g := wd_c4 64 rfl rfl
set_option maxRecDepth 20000 in
theorem wd_886 : Cond.instanceMethod yX10_fault ∈ lw_g := wd_c4 65 rfl rfl
set_option maxRecDepth 20000 in
theorem wd_887 : Cond.selects RX10 yX10_fault yX10_fault ∈ lw_g := wd_c4 66 rfl rfl
set_option maxRecDepth 20000 in
theorem wd_888 : Cond.code yX10_fault cX10_fault (2 : Nat) (Option.some FieldType.int) ∈ lw_g := wd_c4 67 rfl rfl
set_option maxRecDepth 20000 in
theorem wd_889 : Cond.methodLink RL 36 yX10_part ∈ lw_g := wd_c4 68 rfl rfl
set_option maxRecDepth 20000 in
theorem wd_890 : Cond.instanceMethod yX10_part ∈ lw_g := wd_c4 69 rfl rfl
set_option maxRecDepth 20000 in
theorem wd_891 : Cond.selects RX10 yX10_part yX10_part ∈ lw_g := wd_c4 70 rfl rfl
set_option maxRecDepth 20000 in
theorem wd_892 : Cond.code yX10_part cX10_part (3 : Nat) (Option.some FieldType.int) ∈ lw_g := wd_c4 71 rfl rfl
set_option maxRecDepth 20000 in
theorem wd_893 : Cond.methodLink RX10 140 yX4_isPart ∈ lw_g := wd_c4 72 rfl rfl
set_option maxRecDepth 20000 in
theorem wd_894 : Cond.instanceMethod yX4_isPart ∈ lw_g := wd_c4 73 rfl rfl
set_option maxRecDepth 20000 in
theorem wd_895 : Cond.selects RX4 yX4_isPart yX4_isPart ∈ lw_g := wd_c4 74 rfl rfl
set_option maxRecDepth 20000 in
theorem wd_896 : Cond.code yX4_isPart cX4_isPart (2 : Nat) (Option.some FieldType.boolean) ∈ lw_g := wd_c4 75 rfl rfl
set_option maxRecDepth 20000 in
theorem wd_897 : Cond.methodLink RL 41 yX10_reads ∈ lw_g := wd_c4 76 rfl rfl
set_option maxRecDepth 20000 in
theorem wd_898 : Cond.instanceMethod yX10_reads ∈ lw_g := wd_c4 77 rfl rfl
set_option maxRecDepth 20000 in
theorem wd_899 : Cond.selects RX10 yX10_reads yX10_reads ∈ lw_g := wd_c4 78 rfl rfl
set_option maxRecDepth 20000 in
theorem wd_900 : Cond.code yX10_reads cX10_reads (4 : Nat) (Option.some FieldType.boolean) ∈ lw_g := wd_c4 79 rfl rfl
set_option maxRecDepth 20000 in
theorem wd_901 : Cond.methodLink RX10 160 yX10_isReader ∈ lw_g := wd_c4 80 rfl rfl
set_option maxRecDepth 20000 in
theorem wd_902 : Cond.static yX10_isReader ∈ lw_g := wd_c4 81 rfl rfl
set_option maxRecDepth 20000 in
theorem wd_903 : Cond.code yX10_isReader cX10_isReader (1 : Nat) (Option.some FieldType.boolean) ∈ lw_g := wd_c4 82 rfl rfl
set_option maxRecDepth 20000 in
theorem wd_904 : Cond.methodLink RX10 163 yX10_isStep ∈ lw_g := wd_c4 83 rfl rfl
set_option maxRecDepth 20000 in
theorem wd_905 : Cond.static yX10_isStep ∈ lw_g := wd_c4 84 rfl rfl
set_option maxRecDepth 20000 in
theorem wd_906 : Cond.code yX10_isStep cX10_isStep (1 : Nat) (Option.some FieldType.boolean) ∈ lw_g := wd_c4 85 rfl rfl
set_option maxRecDepth 20000 in
theorem wd_907 : Cond.methodLink RL 46 yX10_step ∈ lw_g := wd_c4 86 rfl rfl
set_option maxRecDepth 20000 in
theorem wd_908 : Cond.instanceMethod yX10_step ∈ lw_g := wd_c4 87 rfl rfl
set_option maxRecDepth 20000 in
theorem wd_909 : Cond.selects RX10 yX10_step yX10_step ∈ lw_g := wd_c4 88 rfl rfl
set_option maxRecDepth 20000 in
theorem wd_910 : Cond.code yX10_step cX10_step (4 : Nat) (Option.some FieldType.int) ∈ lw_g := wd_c4 89 rfl rfl
set_option maxRecDepth 20000 in
theorem wd_911 : Cond.methodLink RX10 166 yX4_stepAt ∈ lw_g := wd_c4 90 rfl rfl
set_option maxRecDepth 20000 in
theorem wd_912 : Cond.instanceMethod yX4_stepAt ∈ lw_g := wd_c4 91 rfl rfl
set_option maxRecDepth 20000 in
theorem wd_913 : Cond.selects RX4 yX4_stepAt yX4_stepAt ∈ lw_g := wd_c4 92 rfl rfl
set_option maxRecDepth 20000 in
theorem wd_914 : Cond.code yX4_stepAt cX4_stepAt (5 : Nat) (Option.some FieldType.int) ∈ lw_g := wd_c4 93 rfl rfl
set_option maxRecDepth 20000 in
theorem wd_915 : Cond.methodLink RL 51 yX10_where ∈ lw_g := wd_c4 94 rfl rfl
set_option maxRecDepth 20000 in
theorem wd_916 : Cond.instanceMethod yX10_where ∈ lw_g := wd_c4 95 rfl rfl
set_option maxRecDepth 20000 in
theorem wd_917 : Cond.selects RX10 yX10_where yX10_where ∈ lw_g := wd_c4 96 rfl rfl
set_option maxRecDepth 20000 in
theorem wd_918 : Cond.code yX10_where cX10_where (4 : Nat) (Option.some FieldType.int) ∈ lw_g := wd_c4 97 rfl rfl
set_option maxRecDepth 20000 in
theorem wd_919 : Cond.methodLink RX10 170 yX4_placeBehind ∈ lw_g := wd_c4 98 rfl rfl
set_option maxRecDepth 20000 in
theorem wd_920 : Cond.instanceMethod yX4_placeBehind ∈ lw_g := wd_c4 99 rfl rfl
set_option maxRecDepth 20000 in
theorem wd_921 : Cond.selects RX4 yX4_placeBehind yX4_placeBehind ∈ lw_g := wd_c4 100 rfl rfl
set_option maxRecDepth 20000 in
theorem wd_922 : Cond.code yX4_placeBehind cX4_placeBehind (8 : Nat) (Option.some FieldType.int) ∈ lw_g := wd_c4 101 rfl rfl
set_option maxRecDepth 20000 in
theorem wd_923 : Cond.methodLink RX4 71 yX4_stepAt ∈ lw_g := wd_c4 102 rfl rfl
set_option maxRecDepth 20000 in
theorem wd_924 : Cond.fieldLink RX4 75 "DanceCompany$Score" "MOVE_X" "[I" ∈ lw_g := wd_c4 103 rfl rfl
set_option maxRecDepth 20000 in
theorem wd_926 : Cond.fieldLink RX4 78 "DanceCompany$Score" "MOVE_Y" "[I" ∈ lw_g := wd_c4 105 rfl rfl
set_option maxRecDepth 20000 in
theorem wd_928 : Cond.methodLink RL 55 yX10_meet ∈ lw_g := wd_c4 107 rfl rfl
set_option maxRecDepth 20000 in
theorem wd_929 : Cond.instanceMethod yX10_meet ∈ lw_g := wd_c4 108 rfl rfl
set_option maxRecDepth 20000 in
theorem wd_930 : Cond.selects RX10 yX10_meet yX10_meet ∈ lw_g := wd_c4 109 rfl rfl
set_option maxRecDepth 20000 in
theorem wd_931 : Cond.code yX10_meet cX10_meet (3 : Nat) (Option.some FieldType.int) ∈ lw_g := wd_c4 110 rfl rfl
set_option maxRecDepth 20000 in
theorem wd_932 : Cond.methodLink RX10 173 yX4_isWork ∈ lw_g := wd_c4 111 rfl rfl
set_option maxRecDepth 20000 in
theorem wd_933 : Cond.instanceMethod yX4_isWork ∈ lw_g := wd_c4 112 rfl rfl
set_option maxRecDepth 20000 in
theorem wd_934 : Cond.selects RX4 yX4_isWork yX4_isWork ∈ lw_g := wd_c4 113 rfl rfl
set_option maxRecDepth 20000 in
theorem wd_935 : Cond.code yX4_isWork cX4_isWork (2 : Nat) (Option.some FieldType.boolean) ∈ lw_g := wd_c4 114 rfl rfl
set_option maxRecDepth 20000 in
theorem wd_936 : Cond.methodLink RX10 176 yX4_firstMeeting ∈ lw_g := wd_c4 115 rfl rfl
set_option maxRecDepth 20000 in
theorem wd_937 : Cond.instanceMethod yX4_firstMeeting ∈ lw_g := wd_c4 116 rfl rfl
set_option maxRecDepth 20000 in
theorem wd_938 : Cond.selects RX4 yX4_firstMeeting yX4_firstMeeting ∈ lw_g := wd_c4 117 rfl rfl
set_option maxRecDepth 20000 in
theorem wd_939 : Cond.code yX4_firstMeeting cX4_firstMeeting (4 : Nat) (Option.some FieldType.int) ∈ lw_g := wd_c4 118 rfl rfl
set_option maxRecDepth 20000 in
theorem wd_940 : Cond.methodLink RX4 81 yX4_walk ∈ lw_g := wd_c4 119 rfl rfl
set_option maxRecDepth 20000 in
theorem wd_942 : Cond.instanceMethod yX4_walk ∈ lw_g := wd_c4 121 rfl rfl
set_option maxRecDepth 20000 in
theorem wd_943 : Cond.code yX4_walk cX4_walk (7 : Nat) (Option.none : Option FieldType) ∈ lw_g := wd_c4 122 rfl rfl
set_option maxRecDepth 20000 in
theorem wd_944 : Cond.methodLink RX4 85 yX4_twoTogether ∈ lw_g := wd_c4 123 rfl rfl
set_option maxRecDepth 20000 in
theorem wd_946 : Cond.instanceMethod yX4_twoTogether ∈ lw_g := wd_c4 125 rfl rfl
set_option maxRecDepth 20000 in
theorem wd_947 : Cond.code yX4_twoTogether cX4_twoTogether (4 : Nat) (Option.some FieldType.boolean) ∈ lw_g := wd_c4 126 rfl rfl
set_option maxRecDepth 20000 in
theorem wd_948 : Cond.methodLink RL 59 yX10_breaks ∈ lw_g := wd_c4 127 rfl rfl
set_option maxRecDepth 20000 in
theorem wd_949 : Cond.instanceMethod yX10_breaks ∈ lw_g := wd_c4 128 rfl rfl
set_option maxRecDepth 20000 in
theorem wd_950 : Cond.selects RX10 yX10_breaks yX10_breaks ∈ lw_g := wd_c4 129 rfl rfl
set_option maxRecDepth 20000 in
theorem wd_951 : Cond.code yX10_breaks cX10_breaks (5 : Nat) (Option.some FieldType.int) ∈ lw_g := wd_c4 130 rfl rfl
set_option maxRecDepth 20000 in
theorem wd_952 : Cond.methodLink RX10 180 yX10_isWidth ∈ lw_g := wd_c4 131 rfl rfl
set_option maxRecDepth 20000 in
theorem wd_953 : Cond.static yX10_isWidth ∈ lw_g := wd_c4 132 rfl rfl
set_option maxRecDepth 20000 in
theorem wd_954 : Cond.code yX10_isWidth cX10_isWidth (1 : Nat) (Option.some FieldType.boolean) ∈ lw_g := wd_c4 133 rfl rfl
set_option maxRecDepth 20000 in
theorem wd_955 : Cond.methodLink RX10 183 yX4_firstBreak ∈ lw_g := wd_c4 134 rfl rfl
set_option maxRecDepth 20000 in
theorem wd_956 : Cond.instanceMethod yX4_firstBreak ∈ lw_g := wd_c4 135 rfl rfl
set_option maxRecDepth 20000 in
theorem wd_957 : Cond.selects RX4 yX4_firstBreak yX4_firstBreak ∈ lw_g := wd_c4 136 rfl rfl
set_option maxRecDepth 20000 in
theorem wd_958 : Cond.code yX4_firstBreak cX4_firstBreak (6 : Nat) (Option.some FieldType.int) ∈ lw_g := wd_c4 137 rfl rfl
set_option maxRecDepth 20000 in
theorem wd_959 : Cond.methodLink RX4 88 yX4_oneOutside ∈ lw_g := wd_c4 138 rfl rfl
set_option maxRecDepth 20000 in
theorem wd_961 : Cond.instanceMethod yX4_oneOutside ∈ lw_g := wd_c4 140 rfl rfl
set_option maxRecDepth 20000 in
theorem wd_962 : Cond.code yX4_oneOutside cX4_oneOutside (5 : Nat) (Option.some FieldType.boolean) ∈ lw_g := wd_c4 141 rfl rfl
set_option maxRecDepth 20000 in
theorem wd_963 : Cond.methodLink RL 64 yX10_load ∈ lw_g := wd_c4 142 rfl rfl
set_option maxRecDepth 20000 in
theorem wd_964 : Cond.instanceMethod yX10_load ∈ lw_g := wd_c4 143 rfl rfl
set_option maxRecDepth 20000 in
theorem wd_965 : Cond.selects RX10 yX10_load yX10_load ∈ lw_g := wd_c4 144 rfl rfl
set_option maxRecDepth 20000 in
theorem wd_966 : Cond.code yX10_load cX10_load (3 : Nat) (Option.some FieldType.int) ∈ lw_g := wd_c4 145 rfl rfl
set_option maxRecDepth 20000 in
theorem wd_967 : Cond.methodLink RX10 187 yX4_loadOf ∈ lw_g := wd_c4 146 rfl rfl
set_option maxRecDepth 20000 in
theorem wd_968 : Cond.instanceMethod yX4_loadOf ∈ lw_g := wd_c4 147 rfl rfl
set_option maxRecDepth 20000 in
theorem wd_969 : Cond.selects RX4 yX4_loadOf yX4_loadOf ∈ lw_g := wd_c4 148 rfl rfl
set_option maxRecDepth 20000 in
theorem wd_970 : Cond.code yX4_loadOf cX4_loadOf (6 : Nat) (Option.some FieldType.int) ∈ lw_g := wd_c4 149 rfl rfl
set_option maxRecDepth 20000 in
theorem wd_971 : Cond.methodLink RL 68 yX10_like ∈ lw_g := wd_c4 150 rfl rfl
set_option maxRecDepth 20000 in
theorem wd_972 : Cond.instanceMethod yX10_like ∈ lw_g := wd_c4 151 rfl rfl
set_option maxRecDepth 20000 in
theorem wd_973 : Cond.selects RX10 yX10_like yX10_like ∈ lw_g := wd_c4 152 rfl rfl
set_option maxRecDepth 20000 in
theorem wd_974 : Cond.code yX10_like cX10_like (4 : Nat) (Option.some FieldType.int) ∈ lw_g := wd_c4 153 rfl rfl
set_option maxRecDepth 20000 in
theorem wd_975 : Cond.methodLink RX10 190 yX4_likeness ∈ lw_g := wd_c4 154 rfl rfl
set_option maxRecDepth 20000 in
theorem wd_976 : Cond.instanceMethod yX4_likeness ∈ lw_g := wd_c4 155 rfl rfl
set_option maxRecDepth 20000 in
theorem wd_977 : Cond.selects RX4 yX4_likeness yX4_likeness ∈ lw_g := wd_c4 156 rfl rfl
set_option maxRecDepth 20000 in
theorem wd_978 : Cond.code yX4_likeness cX4_likeness (6 : Nat) (Option.some FieldType.int) ∈ lw_g := wd_c4 157 rfl rfl
set_option maxRecDepth 20000 in
theorem wd_979 : Cond.methodLink RL 72 yX10_rival ∈ lw_g := wd_c4 158 rfl rfl
set_option maxRecDepth 20000 in
theorem wd_980 : Cond.instanceMethod yX10_rival ∈ lw_g := wd_c4 159 rfl rfl
set_option maxRecDepth 20000 in
theorem wd_981 : Cond.selects RX10 yX10_rival yX10_rival ∈ lw_g := wd_c4 160 rfl rfl
set_option maxRecDepth 20000 in
theorem wd_982 : Cond.code yX10_rival cX10_rival (3 : Nat) (Option.some FieldType.int) ∈ lw_g := wd_c4 161 rfl rfl
set_option maxRecDepth 20000 in
theorem wd_983 : Cond.methodLink RX10 193 yX4_isNote ∈ lw_g := wd_c4 162 rfl rfl
set_option maxRecDepth 20000 in
theorem wd_984 : Cond.instanceMethod yX4_isNote ∈ lw_g := wd_c4 163 rfl rfl
set_option maxRecDepth 20000 in
theorem wd_985 : Cond.selects RX4 yX4_isNote yX4_isNote ∈ lw_g := wd_c4 164 rfl rfl
set_option maxRecDepth 20000 in
theorem wd_986 : Cond.code yX4_isNote cX4_isNote (2 : Nat) (Option.some FieldType.boolean) ∈ lw_g := wd_c4 165 rfl rfl
set_option maxRecDepth 20000 in
theorem wd_987 : Cond.methodLink RX4 67 yX4_isPart ∈ lw_g := wd_c4 166 rfl rfl
set_option maxRecDepth 20000 in
theorem wd_988 : Cond.methodLink RL 76 yX10_body ∈ lw_g := wd_c4 167 rfl rfl
set_option maxRecDepth 20000 in
theorem wd_989 : Cond.instanceMethod yX10_body ∈ lw_g := wd_c4 168 rfl rfl
set_option maxRecDepth 20000 in
theorem wd_990 : Cond.selects RX10 yX10_body yX10_body ∈ lw_g := wd_c4 169 rfl rfl
set_option maxRecDepth 20000 in
theorem wd_991 : Cond.code yX10_body cX10_body (1 : Nat) (Option.some FieldType.int) ∈ lw_g := wd_c4 170 rfl rfl
set_option maxRecDepth 20000 in
theorem wd_992 : Cond.methodLink RL 80 yX10_knows ∈ lw_g := wd_c4 171 rfl rfl
set_option maxRecDepth 20000 in
theorem wd_993 : Cond.instanceMethod yX10_knows ∈ lw_g := wd_c4 172 rfl rfl
set_option maxRecDepth 20000 in
theorem wd_994 : Cond.selects RX10 yX10_knows yX10_knows ∈ lw_g := wd_c4 173 rfl rfl
set_option maxRecDepth 20000 in
theorem wd_995 : Cond.code yX10_knows cX10_knows (4 : Nat) (Option.some FieldType.int) ∈ lw_g := wd_c4 174 rfl rfl
set_option maxRecDepth 20000 in
theorem wd_996 : Cond.methodLink RX10 196 yX10_isBody ∈ lw_g := wd_c4 175 rfl rfl
set_option maxRecDepth 20000 in
theorem wd_998 : Cond.instanceMethod yX10_isBody ∈ lw_g := wd_c4 177 rfl rfl
set_option maxRecDepth 20000 in
theorem wd_999 : Cond.code yX10_isBody cX10_isBody (2 : Nat) (Option.some FieldType.boolean) ∈ lw_g := wd_c4 178 rfl rfl
set_option maxRecDepth 20000 in
theorem wd_1000 : Cond.methodLink RX10 199 yX1_tell ∈ lw_g := wd_c4 179 rfl rfl
set_option maxRecDepth 20000 in
theorem wd_1001 : Cond.instanceMethod yX1_tell ∈ lw_g := wd_c4 180 rfl rfl
set_option maxRecDepth 20000 in
theorem wd_1002 : Cond.selects RX1 yX1_tell yX1_tell ∈ lw_g := wd_c4 181 rfl rfl
set_option maxRecDepth 20000 in
theorem wd_1003 : Cond.code yX1_tell cX1_tell (6 : Nat) (Option.some FieldType.int) ∈ lw_g := wd_c4 182 rfl rfl
set_option maxRecDepth 20000 in
theorem wd_1004 : Cond.methodLink RL 84 yX10_danced ∈ lw_g := wd_c4 183 rfl rfl
set_option maxRecDepth 20000 in
theorem wd_1005 : Cond.instanceMethod yX10_danced ∈ lw_g := wd_c4 184 rfl rfl
set_option maxRecDepth 20000 in
theorem wd_1006 : Cond.selects RX10 yX10_danced yX10_danced ∈ lw_g := wd_c4 185 rfl rfl
set_option maxRecDepth 20000 in
theorem wd_1007 : Cond.code yX10_danced cX10_danced (4 : Nat) (Option.some FieldType.int) ∈ lw_g := wd_c4 186 rfl rfl
set_option maxRecDepth 20000 in
theorem wd_1008 : Cond.methodLink RL 88 yX10_out ∈ lw_g := wd_c4 187 rfl rfl
set_option maxRecDepth 20000 in
theorem wd_1009 : Cond.instanceMethod yX10_out ∈ lw_g := wd_c4 188 rfl rfl
set_option maxRecDepth 20000 in
theorem wd_1010 : Cond.selects RX10 yX10_out yX10_out ∈ lw_g := wd_c4 189 rfl rfl
set_option maxRecDepth 20000 in
theorem wd_1011 : Cond.code yX10_out cX10_out (4 : Nat) (Option.some FieldType.int) ∈ lw_g := wd_c4 190 rfl rfl
set_option maxRecDepth 20000 in
theorem wd_1012 : Cond.methodLink RL 92 yX10_leaves ∈ lw_g := wd_c4 191 rfl rfl
set_option maxRecDepth 20000 in
theorem wd_1013 : Cond.instanceMethod yX10_leaves ∈ lw_g := wd_c4 192 rfl rfl
set_option maxRecDepth 20000 in
theorem wd_1014 : Cond.selects RX10 yX10_leaves yX10_leaves ∈ lw_g := wd_c4 193 rfl rfl
set_option maxRecDepth 20000 in
theorem wd_1015 : Cond.code yX10_leaves cX10_leaves (3 : Nat) (Option.some FieldType.int) ∈ lw_g := wd_c4 194 rfl rfl
set_option maxRecDepth 20000 in
theorem wd_1016 : Cond.methodLink RL 96 yX10_film ∈ lw_g := wd_c4 195 rfl rfl
set_option maxRecDepth 20000 in
theorem wd_1017 : Cond.instanceMethod yX10_film ∈ lw_g := wd_c4 196 rfl rfl
set_option maxRecDepth 20000 in
theorem wd_1018 : Cond.selects RX10 yX10_film yX10_film ∈ lw_g := wd_c4 197 rfl rfl
set_option maxRecDepth 20000 in
theorem wd_1019 : Cond.code yX10_film cX10_film (4 : Nat) (Option.some FieldType.int) ∈ lw_g := wd_c4 198 rfl rfl
set_option maxRecDepth 20000 in
theorem wd_1020 : Cond.methodLink RL 100 yX10_untell ∈ lw_g := wd_c4 199 rfl rfl
set_option maxRecDepth 20000 in
theorem wd_1021 : Cond.instanceMethod yX10_untell ∈ lw_g := wd_c4 200 rfl rfl
set_option maxRecDepth 20000 in
theorem wd_1022 : Cond.selects RX10 yX10_untell yX10_untell ∈ lw_g := wd_c4 201 rfl rfl
set_option maxRecDepth 20000 in
theorem wd_1023 : Cond.code yX10_untell cX10_untell (2 : Nat) (Option.some FieldType.boolean) ∈ lw_g := wd_c4 202 rfl rfl
set_option maxRecDepth 20000 in
theorem wd_1024 : Cond.methodLink RX10 203 yX1_takeBack ∈ lw_g := wd_c4 203 rfl rfl
set_option maxRecDepth 20000 in
theorem wd_1025 : Cond.instanceMethod yX1_takeBack ∈ lw_g := wd_c4 204 rfl rfl
set_option maxRecDepth 20000 in
theorem wd_1026 : Cond.selects RX1 yX1_takeBack yX1_takeBack ∈ lw_g := wd_c4 205 rfl rfl
set_option maxRecDepth 20000 in
theorem wd_1027 : Cond.code yX1_takeBack cX1_takeBack (2 : Nat) (Option.some FieldType.boolean) ∈ lw_g := wd_c4 206 rfl rfl
set_option maxRecDepth 20000 in
theorem wd_1028 : Cond.methodLink RL 105 yX10_later ∈ lw_g := wd_c4 207 rfl rfl
set_option maxRecDepth 20000 in
theorem wd_1029 : Cond.instanceMethod yX10_later ∈ lw_g := wd_c4 208 rfl rfl
set_option maxRecDepth 20000 in
theorem wd_1030 : Cond.selects RX10 yX10_later yX10_later ∈ lw_g := wd_c4 209 rfl rfl
set_option maxRecDepth 20000 in
theorem wd_1031 : Cond.code yX10_later cX10_later (2 : Nat) (Option.some FieldType.int) ∈ lw_g := wd_c4 210 rfl rfl
set_option maxRecDepth 20000 in
theorem wd_1032 : Cond.constant RX10 209 (Int32.ofInt (100000)) ∈ lw_g := wd_c4 211 rfl rfl
set_option maxRecDepth 20000 in
theorem wd_1033 : Cond.methodLink RL 109 yX10_borne ∈ lw_g := wd_c4 212 rfl rfl
set_option maxRecDepth 20000 in
theorem wd_1034 : Cond.instanceMethod yX10_borne ∈ lw_g := wd_c4 213 rfl rfl
set_option maxRecDepth 20000 in
theorem wd_1035 : Cond.selects RX10 yX10_borne yX10_borne ∈ lw_g := wd_c4 214 rfl rfl
set_option maxRecDepth 20000 in
theorem wd_1036 : Cond.code yX10_borne cX10_borne (6 : Nat) (Option.some FieldType.int) ∈ lw_g := wd_c4 215 rfl rfl
set_option maxRecDepth 20000 in
theorem wd_1037 : Cond.methodLink RX10 216 yX1_counts ∈ lw_g := wd_c4 216 rfl rfl
set_option maxRecDepth 20000 in
theorem wd_1038 : Cond.instanceMethod yX1_counts ∈ lw_g := wd_c4 217 rfl rfl
set_option maxRecDepth 20000 in
theorem wd_1039 : Cond.selects RX1 yX1_counts yX1_counts ∈ lw_g := wd_c4 218 rfl rfl
set_option maxRecDepth 20000 in
theorem wd_1040 : Cond.code yX1_counts cX1_counts (3 : Nat) (Option.some FieldType.boolean) ∈ lw_g := wd_c4 219 rfl rfl
set_option maxRecDepth 20000 in
theorem wd_1041 : Cond.methodLink RL 113 yX10_asked ∈ lw_g := wd_c4 220 rfl rfl
set_option maxRecDepth 20000 in
theorem wd_1042 : Cond.instanceMethod yX10_asked ∈ lw_g := wd_c4 221 rfl rfl
set_option maxRecDepth 20000 in
theorem wd_1043 : Cond.selects RX10 yX10_asked yX10_asked ∈ lw_g := wd_c4 222 rfl rfl
set_option maxRecDepth 20000 in
theorem wd_1044 : Cond.code yX10_asked cX10_asked (6 : Nat) (Option.some FieldType.int) ∈ lw_g := wd_c4 223 rfl rfl
set_option maxRecDepth 20000 in
theorem wd_1045 : Cond.methodLink RX10 225 yX10_openDay ∈ lw_g := wd_c4 224 rfl rfl
set_option maxRecDepth 20000 in
theorem wd_1047 : Cond.instanceMethod yX10_openDay ∈ lw_g := wd_c4 226 rfl rfl
set_option maxRecDepth 20000 in
theorem wd_1048 : Cond.code yX10_openDay cX10_openDay (3 : Nat) (Option.none : Option FieldType) ∈ lw_g := wd_c4 227 rfl rfl
set_option maxRecDepth 20000 in
theorem wd_1049 : Cond.methodLink RX10 329 yX10_rulingInForce ∈ lw_g := wd_c4 228 rfl rfl
set_option maxRecDepth 20000 in
theorem wd_1051 : Cond.instanceMethod yX10_rulingInForce ∈ lw_g := wd_c4 230 rfl rfl
set_option maxRecDepth 20000 in
theorem wd_1052 : Cond.code yX10_rulingInForce cX10_rulingInForce (5 : Nat) (Option.some (FieldType.object "DanceCompany$Ruling")) ∈ lw_g := wd_c4 231 rfl rfl
set_option maxRecDepth 20000 in
theorem wd_1053 : Cond.methodLink RX10 333 yX6_open ∈ lw_g := wd_c4 232 rfl rfl
set_option maxRecDepth 20000 in
theorem wd_1054 : Cond.instanceMethod yX6_open ∈ lw_g := wd_c4 233 rfl rfl
set_option maxRecDepth 20000 in
theorem wd_1055 : Cond.selects RX6 yX6_open yX6_open ∈ lw_g := wd_c4 234 rfl rfl
set_option maxRecDepth 20000 in
theorem wd_1056 : Cond.code yX6_open cX6_open (6 : Nat) (Option.none : Option FieldType) ∈ lw_g := wd_c4 235 rfl rfl
set_option maxRecDepth 20000 in
theorem wd_1057 : Cond.methodLink RX6 61 yJ7_fill_53178 ∈ lw_g := wd_c4 236 rfl rfl
set_option maxRecDepth 20000 in
theorem wd_1058 : Cond.methodLink RX6 70 yX4_loadOf ∈ lw_g := wd_c4 237 rfl rfl
set_option maxRecDepth 20000 in
theorem wd_1059 : Cond.methodLink RX10 337 yX6_gather ∈ lw_g := wd_c4 238 rfl rfl
set_option maxRecDepth 20000 in
theorem wd_1060 : Cond.instanceMethod yX6_gather ∈ lw_g := wd_c4 239 rfl rfl
set_option maxRecDepth 20000 in
theorem wd_1061 : Cond.selects RX6 yX6_gather yX6_gather ∈ lw_g := wd_c5 0 rfl rfl
set_option maxRecDepth 20000 in
theorem wd_1062 : Cond.code yX6_gather cX6_gather (6 : Nat) (Option.none : Option FieldType) ∈ lw_g := wd_c5 1 rfl rfl
set_option maxRecDepth 20000 in
theorem wd_1063 : Cond.methodLink RX6 79 yX1_counts ∈ lw_g := wd_c5 2 rfl rfl
set_option maxRecDepth 20000 in
theorem wd_1064 : Cond.methodLink RX6 95 yX6_gatherKnown ∈ lw_g := wd_c5 3 rfl rfl
set_option maxRecDepth 20000 in
theorem wd_1066 : Cond.instanceMethod yX6_gatherKnown ∈ lw_g := wd_c5 5 rfl rfl
set_option maxRecDepth 20000 in
theorem wd_1067 : Cond.code yX6_gatherKnown cX6_gatherKnown (5 : Nat) (Option.none : Option FieldType) ∈ lw_g := wd_c5 6 rfl rfl
set_option maxRecDepth 20000 in
theorem wd_1068 : Cond.methodLink RX6 105 yJ9_min_7cf53 ∈ lw_g := wd_c5 7 rfl rfl
set_option maxRecDepth 20000 in
theorem wd_1069 : Cond.methodLink RX6 99 yX6_gatherDanced ∈ lw_g := wd_c5 8 rfl rfl
set_option maxRecDepth 20000 in
theorem wd_1071 : Cond.instanceMethod yX6_gatherDanced ∈ lw_g := wd_c5 10 rfl rfl
set_option maxRecDepth 20000 in
theorem wd_1072 : Cond.code yX6_gatherDanced cX6_gatherDanced (4 : Nat) (Option.none : Option FieldType) ∈ lw_g := wd_c5 11 rfl rfl
set_option maxRecDepth 20000 in
theorem wd_1073 : Cond.methodLink RX6 110 yJ9_max_7cf53 ∈ lw_g := wd_c5 12 rfl rfl
set_option maxRecDepth 20000 in
theorem wd_1074 : Cond.methodLink RX10 229 yX6_daysKnown ∈ lw_g := wd_c5 13 rfl rfl
set_option maxRecDepth 20000 in
theorem wd_1075 : Cond.instanceMethod yX6_daysKnown ∈ lw_g := wd_c5 14 rfl rfl
set_option maxRecDepth 20000 in
theorem wd_1076 : Cond.selects RX6 yX6_daysKnown yX6_daysKnown ∈ lw_g := wd_c5 15 rfl rfl
set_option maxRecDepth 20000 in
theorem wd_1077 : Cond.code yX6_daysKnown cX6_daysKnown (3 : Nat) (Option.some FieldType.int) ∈ lw_g := wd_c5 16 rfl rfl
set_option maxRecDepth 20000 in
theorem wd_1078 : Cond.methodLink RX6 113 yX6_daysSince ∈ lw_g := wd_c5 17 rfl rfl
set_option maxRecDepth 20000 in
theorem wd_1080 : Cond.instanceMethod yX6_daysSince ∈ lw_g := wd_c5 19 rfl rfl
set_option maxRecDepth 20000 in
theorem wd_1081 : Cond.code yX6_daysSince cX6_daysSince (2 : Nat) (Option.some FieldType.int) ∈ lw_g := wd_c5 20 rfl rfl
set_option maxRecDepth 20000 in
theorem wd_1082 : Cond.methodLink RX10 232 yX6_daysSinceDanced ∈ lw_g := wd_c5 21 rfl rfl
set_option maxRecDepth 20000 in
theorem wd_1083 : Cond.instanceMethod yX6_daysSinceDanced ∈ lw_g := wd_c5 22 rfl rfl
set_option maxRecDepth 20000 in
theorem wd_1084 : Cond.selects RX6 yX6_daysSinceDanced yX6_daysSinceDanced ∈ lw_g := wd_c5 23 rfl rfl
set_option maxRecDepth 20000 in
theorem wd_1085 : Cond.code yX6_daysSinceDanced cX6_daysSinceDanced (3 : Nat) (Option.some FieldType.int) ∈ lw_g := wd_c5 24 rfl rfl
set_option maxRecDepth 20000 in
theorem wd_1086 : Cond.methodLink RX10 238 yX6_daysIdle ∈ lw_g := wd_c5 25 rfl rfl
set_option maxRecDepth 20000 in
theorem wd_1087 : Cond.instanceMethod yX6_daysIdle ∈ lw_g := wd_c5 26 rfl rfl
set_option maxRecDepth 20000 in
theorem wd_1088 : Cond.selects RX6 yX6_daysIdle yX6_daysIdle ∈ lw_g := wd_c5 27 rfl rfl
set_option maxRecDepth 20000 in
theorem wd_1089 : Cond.code yX6_daysIdle cX6_daysIdle (2 : Nat) (Option.some FieldType.int) ∈ lw_g := wd_c5 28 rfl rfl
set_option maxRecDepth 20000 in
theorem wd_1090 : Cond.methodLink RL 117 yX10_can ∈ lw_g := wd_c5 29 rfl rfl
set_option maxRecDepth 20000 in
theorem wd_1091 : Cond.instanceMethod yX10_can ∈ lw_g := wd_c5 30 rfl rfl
set_option maxRecDepth 20000 in
theorem wd_1092 : Cond.selects RX10 yX10_can yX10_can ∈ lw_g := wd_c5 31 rfl rfl
set_option maxRecDepth 20000 in
theorem wd_1093 : Cond.code yX10_can cX10_can (5 : Nat) (Option.some FieldType.int) ∈ lw_g := wd_c5 32 rfl rfl
set_option maxRecDepth 20000 in
theorem wd_1094 : Cond.methodLink RX10 242 yX6_isFit ∈ lw_g := wd_c5 33 rfl rfl
set_option maxRecDepth 20000 in
theorem wd_1095 : Cond.instanceMethod yX6_isFit ∈ lw_g := wd_c5 34 rfl rfl
set_option maxRecDepth 20000 in
theorem wd_1096 : Cond.selects RX6 yX6_isFit yX6_isFit ∈ lw_g := wd_c5 35 rfl rfl
set_option maxRecDepth 20000 in
theorem wd_1097 : Cond.code yX6_isFit cX6_isFit (3 : Nat) (Option.some FieldType.boolean) ∈ lw_g := wd_c5 36 rfl rfl
set_option maxRecDepth 20000 in
theorem wd_1098 : Cond.methodLink RX6 117 yX6_isReady ∈ lw_g := wd_c5 37 rfl rfl
set_option maxRecDepth 20000 in
theorem wd_1100 : Cond.instanceMethod yX6_isReady ∈ lw_g := wd_c5 39 rfl rfl
set_option maxRecDepth 20000 in
theorem wd_1101 : Cond.code yX6_isReady cX6_isReady (3 : Nat) (Option.some FieldType.boolean) ∈ lw_g := wd_c5 40 rfl rfl
set_option maxRecDepth 20000 in
theorem wd_1102 : Cond.methodLink RX6 124 yX6_isKnown ∈ lw_g := wd_c5 41 rfl rfl
set_option maxRecDepth 20000 in
theorem wd_1103 : Cond.instanceMethod yX6_isKnown ∈ lw_g := wd_c5 42 rfl rfl
set_option maxRecDepth 20000 in
theorem wd_1104 : Cond.selects RX6 yX6_isKnown yX6_isKnown ∈ lw_g := wd_c5 43 rfl rfl
set_option maxRecDepth 20000 in
theorem wd_1105 : Cond.code yX6_isKnown cX6_isKnown (3 : Nat) (Option.some FieldType.boolean) ∈ lw_g := wd_c5 44 rfl rfl
set_option maxRecDepth 20000 in
theorem wd_1106 : Cond.methodLink RX6 120 yX6_valueOf ∈ lw_g := wd_c5 45 rfl rfl
set_option maxRecDepth 20000 in
theorem wd_1108 : Cond.instanceMethod yX6_valueOf ∈ lw_g := wd_c5 47 rfl rfl
set_option maxRecDepth 20000 in
theorem wd_1109 : Cond.code yX6_valueOf cX6_valueOf (5 : Nat) (Option.some FieldType.int) ∈ lw_g := wd_c5 48 rfl rfl
set_option maxRecDepth 20000 in
theorem wd_1110 : Cond.methodLink RX6 127 yX3_tells ∈ lw_g := wd_c5 49 rfl rfl
set_option maxRecDepth 20000 in
theorem wd_1111 : Cond.methodLink RX6 131 yX6_daysKnown ∈ lw_g := wd_c5 50 rfl rfl
set_option maxRecDepth 20000 in
theorem wd_1112 : Cond.methodLink RX6 134 yX6_daysSinceDanced ∈ lw_g := wd_c5 51 rfl rfl
set_option maxRecDepth 20000 in
theorem wd_1113 : Cond.methodLink RX6 137 yX6_daysIdle ∈ lw_g := wd_c5 52 rfl rfl
set_option maxRecDepth 20000 in
theorem wd_1114 : Cond.methodLink RX6 145 yX3_value ∈ lw_g := wd_c5 53 rfl rfl
set_option maxRecDepth 20000 in
theorem wd_1115 : Cond.instanceMethod yX3_value ∈ lw_g := wd_c5 54 rfl rfl
set_option maxRecDepth 20000 in
theorem wd_1116 : Cond.selects RX3 yX3_value yX3_value ∈ lw_g := wd_c5 55 rfl rfl
set_option maxRecDepth 20000 in
theorem wd_1117 : Cond.code yX3_value cX3_value (7 : Nat) (Option.some FieldType.int) ∈ lw_g := wd_c5 56 rfl rfl
set_option maxRecDepth 20000 in
theorem wd_1118 : Cond.methodLink RX3 33 yX3_joined ∈ lw_g := wd_c5 57 rfl rfl
set_option maxRecDepth 20000 in
theorem wd_1119 : Cond.static yX3_joined ∈ lw_g := wd_c5 58 rfl rfl
set_option maxRecDepth 20000 in
theorem wd_1120 : Cond.code yX3_joined cX3_joined (3 : Nat) (Option.some FieldType.int) ∈ lw_g := wd_c5 59 rfl rfl
set_option maxRecDepth 20000 in
theorem wd_1121 : Cond.methodLink RL 121 yX10_cost ∈ lw_g := wd_c5 60 rfl rfl
set_option maxRecDepth 20000 in
theorem wd_1122 : Cond.instanceMethod yX10_cost ∈ lw_g := wd_c5 61 rfl rfl
set_option maxRecDepth 20000 in
theorem wd_1123 : Cond.selects RX10 yX10_cost yX10_cost ∈ lw_g := wd_c5 62 rfl rfl
set_option maxRecDepth 20000 in
theorem wd_1124 : Cond.code yX10_cost cX10_cost (4 : Nat) (Option.some FieldType.long) ∈ lw_g := wd_c5 63 rfl rfl
set_option maxRecDepth 20000 in
theorem wd_1125 : Cond.methodLink RX10 245 yX10_findCast ∈ lw_g := wd_c5 64 rfl rfl
set_option maxRecDepth 20000 in
theorem wd_1127 : Cond.instanceMethod yX10_findCast ∈ lw_g := wd_c5 66 rfl rfl
set_option maxRecDepth 20000 in
theorem wd_1128 : Cond.code yX10_findCast cX10_findCast (4 : Nat) (Option.some FieldType.boolean) ∈ lw_g := wd_c5 67 rfl rfl
set_option maxRecDepth 20000 in
theorem wd_1129 : Cond.methodLink RX10 341 yX0_weigh ∈ lw_g := wd_c5 68 rfl rfl
set_option maxRecDepth 20000 in
theorem wd_1130 : Cond.instanceMethod yX0_weigh ∈ lw_g := wd_c5 69 rfl rfl
set_option maxRecDepth 20000 in
theorem wd_1131 : Cond.selects RX0 yX0_weigh yX0_weigh ∈ lw_g := wd_c5 70 rfl rfl
set_option maxRecDepth 20000 in
theorem wd_1132 : Cond.code yX0_weigh cX0_weigh (7 : Nat) (Option.none : Option FieldType) ∈ lw_g := wd_c5 71 rfl rfl
set_option maxRecDepth 20000 in
theorem wd_1133 : Cond.methodLink RX0 51 yX6_isFit ∈ lw_g := wd_c5 72 rfl rfl
set_option maxRecDepth 20000 in
theorem wd_1134 : Cond.methodLink RX0 55 yX6_price ∈ lw_g := wd_c5 73 rfl rfl
set_option maxRecDepth 20000 in
theorem wd_1135 : Cond.instanceMethod yX6_price ∈ lw_g := wd_c5 74 rfl rfl
set_option maxRecDepth 20000 in
theorem wd_1136 : Cond.selects RX6 yX6_price yX6_price ∈ lw_g := wd_c5 75 rfl rfl
set_option maxRecDepth 20000 in
theorem wd_1137 : Cond.code yX6_price cX6_price (3 : Nat) (Option.some FieldType.int) ∈ lw_g := wd_c5 76 rfl rfl
set_option maxRecDepth 20000 in
theorem wd_1138 : Cond.constantLong RX0 59 (Int64.ofInt (9223372036854775807)) ∈ lw_g := wd_c5 77 rfl rfl
set_option maxRecDepth 20000 in
theorem wd_1139 : Cond.methodLink RX10 345 yX0_choose ∈ lw_g := wd_c5 78 rfl rfl
set_option maxRecDepth 20000 in
theorem wd_1140 : Cond.instanceMethod yX0_choose ∈ lw_g := wd_c5 79 rfl rfl
set_option maxRecDepth 20000 in
theorem wd_1141 : Cond.selects RX0 yX0_choose yX0_choose ∈ lw_g := wd_c5 80 rfl rfl
set_option maxRecDepth 20000 in
theorem wd_1142 : Cond.code yX0_choose cX0_choose (1 : Nat) (Option.some FieldType.boolean) ∈ lw_g := wd_c5 81 rfl rfl
set_option maxRecDepth 20000 in
theorem wd_1143 : Cond.methodLink RX0 61 yX0_leastRest ∈ lw_g := wd_c5 82 rfl rfl
set_option maxRecDepth 20000 in
theorem wd_1145 : Cond.instanceMethod yX0_leastRest ∈ lw_g := wd_c5 84 rfl rfl
set_option maxRecDepth 20000 in
theorem wd_1146 : Cond.code yX0_leastRest cX0_leastRest (3 : Nat) (Option.some FieldType.boolean) ∈ lw_g := wd_c5 85 rfl rfl
set_option maxRecDepth 20000 in
theorem wd_1147 : Cond.methodLink RX0 81 yJ6_bitCount_0f7a4 ∈ lw_g := wd_c5 86 rfl rfl
set_option maxRecDepth 20000 in
theorem wd_1148 : Cond.static yJ6_bitCount_0f7a4 ∈ lw_g := wd_c5 87 rfl rfl
set_option maxRecDepth 20000 in
theorem wd_1149 : Cond.code yJ6_bitCount_0f7a4 cJ6_bitCount_0f7a4 (1 : Nat) (Option.some FieldType.int) ∈ lw_g := wd_c5 88 rfl rfl
set_option maxRecDepth 20000 in
theorem wd_1150 : Cond.constant RJ6 265 (Int32.ofInt (1431655765)) ∈ lw_g := wd_c5 89 rfl rfl
set_option maxRecDepth 20000 in
theorem wd_1151 : Cond.constant RJ6 266 (Int32.ofInt (858993459)) ∈ lw_g := wd_c5 90 rfl rfl
set_option maxRecDepth 20000 in
theorem wd_1152 : Cond.constant RJ6 267 (Int32.ofInt (252645135)) ∈ lw_g := wd_c5 91 rfl rfl
set_option maxRecDepth 20000 in
theorem wd_1153 : Cond.methodLink RX0 87 yX0_leastFrom ∈ lw_g := wd_c5 92 rfl rfl
set_option maxRecDepth 20000 in
theorem wd_1155 : Cond.instanceMethod yX0_leastFrom ∈ lw_g := wd_c5 94 rfl rfl
set_option maxRecDepth 20000 in
theorem wd_1156 : Cond.code yX0_leastFrom cX0_leastFrom (8 : Nat) (Option.some FieldType.long) ∈ lw_g := wd_c5 95 rfl rfl
set_option maxRecDepth 20000 in
theorem wd_1157 : Cond.methodLink RX0 91 yJ9_min_f86c9 ∈ lw_g := wd_c5 96 rfl rfl
set_option maxRecDepth 20000 in
theorem wd_1158 : Cond.static yJ9_min_f86c9 ∈ lw_g := wd_c5 97 rfl rfl
set_option maxRecDepth 20000 in
theorem wd_1159 : Cond.code yJ9_min_f86c9 cJ9_min_f86c9 (4 : Nat) (Option.some FieldType.long) ∈ lw_g := wd_c5 98 rfl rfl
set_option maxRecDepth 20000 in
theorem wd_1160 : Cond.methodLink RX0 73 yX0_pickFirst ∈ lw_g := wd_c5 99 rfl rfl
set_option maxRecDepth 20000 in
theorem wd_1162 : Cond.instanceMethod yX0_pickFirst ∈ lw_g := wd_c5 101 rfl rfl
set_option maxRecDepth 20000 in
theorem wd_1163 : Cond.code yX0_pickFirst cX0_pickFirst (3 : Nat) (Option.none : Option FieldType) ∈ lw_g := wd_c5 102 rfl rfl
set_option maxRecDepth 20000 in
theorem wd_1164 : Cond.methodLink RX0 97 yX0_firstOfLeast ∈ lw_g := wd_c5 103 rfl rfl
set_option maxRecDepth 20000 in
theorem wd_1166 : Cond.instanceMethod yX0_firstOfLeast ∈ lw_g := wd_c5 105 rfl rfl
set_option maxRecDepth 20000 in
theorem wd_1167 : Cond.code yX0_firstOfLeast cX0_firstOfLeast (5 : Nat) (Option.some FieldType.int) ∈ lw_g := wd_c5 106 rfl rfl
set_option maxRecDepth 20000 in
theorem wd_1168 : Cond.methodLink RX0 100 yX0_isWilling ∈ lw_g := wd_c5 107 rfl rfl
set_option maxRecDepth 20000 in
theorem wd_1169 : Cond.instanceMethod yX0_isWilling ∈ lw_g := wd_c5 108 rfl rfl
set_option maxRecDepth 20000 in
theorem wd_1170 : Cond.selects RX0 yX0_isWilling yX0_isWilling ∈ lw_g := wd_c5 109 rfl rfl
set_option maxRecDepth 20000 in
theorem wd_1171 : Cond.code yX0_isWilling cX0_isWilling (3 : Nat) (Option.some FieldType.boolean) ∈ lw_g := wd_c5 110 rfl rfl
set_option maxRecDepth 20000 in
theorem wd_1172 : Cond.constantLong RX10 249 (Int64.ofInt (-1000000000000)) ∈ lw_g := wd_c5 111 rfl rfl
set_option maxRecDepth 20000 in
theorem wd_1173 : Cond.methodLink RL 126 yX10_cast ∈ lw_g := wd_c5 112 rfl rfl
set_option maxRecDepth 20000 in
theorem wd_1174 : Cond.instanceMethod yX10_cast ∈ lw_g := wd_c5 113 rfl rfl
set_option maxRecDepth 20000 in
theorem wd_1175 : Cond.selects RX10 yX10_cast yX10_cast ∈ lw_g := wd_c5 114 rfl rfl
set_option maxRecDepth 20000 in
theorem wd_1176 : Cond.code yX10_cast cX10_cast (4 : Nat) (Option.some FieldType.int) ∈ lw_g := wd_c5 115 rfl rfl
set_option maxRecDepth 20000 in
theorem wd_1177 : Cond.methodLink RX10 255 yX4_seatOf ∈ lw_g := wd_c5 116 rfl rfl
set_option maxRecDepth 20000 in
theorem wd_1178 : Cond.instanceMethod yX4_seatOf ∈ lw_g := wd_c5 117 rfl rfl
set_option maxRecDepth 20000 in
theorem wd_1179 : Cond.selects RX4 yX4_seatOf yX4_seatOf ∈ lw_g := wd_c5 118 rfl rfl
set_option maxRecDepth 20000 in
theorem wd_1180 : Cond.code yX4_seatOf cX4_seatOf (2 : Nat) (Option.some FieldType.int) ∈ lw_g := wd_c5 119 rfl rfl
set_option maxRecDepth 20000 in
theorem wd_1181 : Cond.methodLink RX10 258 yX0_bodyOf ∈ lw_g := wd_c5 120 rfl rfl
set_option maxRecDepth 20000 in
theorem wd_1182 : Cond.instanceMethod yX0_bodyOf ∈ lw_g := wd_c5 121 rfl rfl
set_option maxRecDepth 20000 in
theorem wd_1183 : Cond.selects RX0 yX0_bodyOf yX0_bodyOf ∈ lw_g := wd_c5 122 rfl rfl
set_option maxRecDepth 20000 in
theorem wd_1184 : Cond.code yX0_bodyOf cX0_bodyOf (2 : Nat) (Option.some FieldType.int) ∈ lw_g := wd_c5 123 rfl rfl
set_option maxRecDepth 20000 in
theorem wd_1185 : Cond.methodLink RL 130 yX10_covers ∈ lw_g := wd_c5 124 rfl rfl
set_option maxRecDepth 20000 in
theorem wd_1186 : Cond.instanceMethod yX10_covers ∈ lw_g := wd_c5 125 rfl rfl
set_option maxRecDepth 20000 in
theorem wd_1187 : Cond.selects RX10 yX10_covers yX10_covers ∈ lw_g := wd_c5 126 rfl rfl
set_option maxRecDepth 20000 in
theorem wd_1188 : Cond.code yX10_covers cX10_covers (7 : Nat) (Option.some FieldType.int) ∈ lw_g := wd_c5 127 rfl rfl
set_option maxRecDepth 20000 in
theorem wd_1189 : Cond.methodLink RX10 261 yX0_isWilling ∈ lw_g := wd_c5 128 rfl rfl
set_option maxRecDepth 20000 in
theorem wd_1190 : Cond.methodLink RX10 264 yX0_inCast ∈ lw_g := wd_c5 129 rfl rfl
set_option maxRecDepth 20000 in
theorem wd_1191 : Cond.instanceMethod yX0_inCast ∈ lw_g := wd_c5 130 rfl rfl
set_option maxRecDepth 20000 in
theorem wd_1192 : Cond.selects RX0 yX0_inCast yX0_inCast ∈ lw_g := wd_c5 131 rfl rfl
set_option maxRecDepth 20000 in
theorem wd_1193 : Cond.code yX0_inCast cX0_inCast (3 : Nat) (Option.some FieldType.int) ∈ lw_g := wd_c5 132 rfl rfl
set_option maxRecDepth 20000 in
theorem wd_1194 : Cond.methodLink RL 134 yX10_fall ∈ lw_g := wd_c5 133 rfl rfl
set_option maxRecDepth 20000 in
theorem wd_1195 : Cond.instanceMethod yX10_fall ∈ lw_g := wd_c5 134 rfl rfl
set_option maxRecDepth 20000 in
theorem wd_1196 : Cond.selects RX10 yX10_fall yX10_fall ∈ lw_g := wd_c5 135 rfl rfl
set_option maxRecDepth 20000 in
theorem wd_1197 : Cond.code yX10_fall cX10_fall (5 : Nat) (Option.some FieldType.int) ∈ lw_g := wd_c5 136 rfl rfl
set_option maxRecDepth 20000 in
theorem wd_1198 : Cond.methodLink RX10 268 yX10_findFall ∈ lw_g := wd_c5 137 rfl rfl
set_option maxRecDepth 20000 in
theorem wd_1200 : Cond.instanceMethod yX10_findFall ∈ lw_g := wd_c5 139 rfl rfl
set_option maxRecDepth 20000 in
theorem wd_1201 : Cond.code yX10_findFall cX10_findFall (5 : Nat) (Option.some FieldType.boolean) ∈ lw_g := wd_c5 140 rfl rfl
set_option maxRecDepth 20000 in
theorem wd_1202 : Cond.methodLink RX10 349 yX0_chooseWithout ∈ lw_g := wd_c5 141 rfl rfl
set_option maxRecDepth 20000 in
theorem wd_1203 : Cond.instanceMethod yX0_chooseWithout ∈ lw_g := wd_c5 142 rfl rfl
set_option maxRecDepth 20000 in
theorem wd_1204 : Cond.selects RX0 yX0_chooseWithout yX0_chooseWithout ∈ lw_g := wd_c5 143 rfl rfl
set_option maxRecDepth 20000 in
theorem wd_1205 : Cond.code yX0_chooseWithout cX0_chooseWithout (4 : Nat) (Option.some FieldType.boolean) ∈ lw_g := wd_c5 144 rfl rfl
set_option maxRecDepth 20000 in
theorem wd_1206 : Cond.constantLong RX0 76 (Int64.ofInt (1099511627776)) ∈ lw_g := wd_c5 145 rfl rfl
set_option maxRecDepth 20000 in
theorem wd_1207 : Cond.methodLink RX0 78 yX0_choose ∈ lw_g := wd_c5 146 rfl rfl
set_option maxRecDepth 20000 in
theorem wd_1208 : Cond.methodLink RX10 272 yX0_changed ∈ lw_g := wd_c5 147 rfl rfl
set_option maxRecDepth 20000 in
theorem wd_1209 : Cond.instanceMethod yX0_changed ∈ lw_g := wd_c5 148 rfl rfl
set_option maxRecDepth 20000 in
theorem wd_1210 : Cond.selects RX0 yX0_changed yX0_changed ∈ lw_g := wd_c5 149 rfl rfl
set_option maxRecDepth 20000 in
theorem wd_1211 : Cond.code yX0_changed cX0_changed (3 : Nat) (Option.some FieldType.int) ∈ lw_g := wd_c5 150 rfl rfl
set_option maxRecDepth 20000 in
theorem wd_1212 : Cond.methodLink RL 138 yX10_falls ∈ lw_g := wd_c5 151 rfl rfl
set_option maxRecDepth 20000 in
theorem wd_1213 : Cond.instanceMethod yX10_falls ∈ lw_g := wd_c5 152 rfl rfl
set_option maxRecDepth 20000 in
theorem wd_1214 : Cond.selects RX10 yX10_falls yX10_falls ∈ lw_g := wd_c5 153 rfl rfl
set_option maxRecDepth 20000 in
theorem wd_1215 : Cond.code yX10_falls cX10_falls (5 : Nat) (Option.some FieldType.int) ∈ lw_g := wd_c5 154 rfl rfl
set_option maxRecDepth 20000 in
theorem wd_1216 : Cond.methodLink RL 142 yX10_learn ∈ lw_g := wd_c5 155 rfl rfl
set_option maxRecDepth 20000 in
theorem wd_1217 : Cond.instanceMethod yX10_learn ∈ lw_g := wd_c5 156 rfl rfl
set_option maxRecDepth 20000 in
theorem wd_1218 : Cond.selects RX10 yX10_learn yX10_learn ∈ lw_g := wd_c5 157 rfl rfl
set_option maxRecDepth 20000 in
theorem wd_1219 : Cond.code yX10_learn cX10_learn (5 : Nat) (Option.some FieldType.int) ∈ lw_g := wd_c5 158 rfl rfl
set_option maxRecDepth 20000 in
theorem wd_1220 : Cond.methodLink RX10 275 yX6_isKnown ∈ lw_g := wd_c5 159 rfl rfl
set_option maxRecDepth 20000 in
theorem wd_1221 : Cond.methodLink RX10 278 yX6_hasTeacher ∈ lw_g := wd_c5 160 rfl rfl
set_option maxRecDepth 20000 in
theorem wd_1222 : Cond.instanceMethod yX6_hasTeacher ∈ lw_g := wd_c5 161 rfl rfl
set_option maxRecDepth 20000 in
theorem wd_1223 : Cond.selects RX6 yX6_hasTeacher yX6_hasTeacher ∈ lw_g := wd_c5 162 rfl rfl
set_option maxRecDepth 20000 in
theorem wd_1224 : Cond.code yX6_hasTeacher cX6_hasTeacher (4 : Nat) (Option.some FieldType.boolean) ∈ lw_g := wd_c5 163 rfl rfl
set_option maxRecDepth 20000 in
theorem wd_1225 : Cond.methodLink RX10 281 yX6_hoursToLearn ∈ lw_g := wd_c5 164 rfl rfl
set_option maxRecDepth 20000 in
theorem wd_1226 : Cond.instanceMethod yX6_hoursToLearn ∈ lw_g := wd_c5 165 rfl rfl
set_option maxRecDepth 20000 in
theorem wd_1227 : Cond.selects RX6 yX6_hoursToLearn yX6_hoursToLearn ∈ lw_g := wd_c5 166 rfl rfl
set_option maxRecDepth 20000 in
theorem wd_1228 : Cond.code yX6_hoursToLearn cX6_hoursToLearn (5 : Nat) (Option.some FieldType.int) ∈ lw_g := wd_c5 167 rfl rfl
set_option maxRecDepth 20000 in
theorem wd_1229 : Cond.methodLink RX6 149 yX4_likeness ∈ lw_g := wd_c5 168 rfl rfl
set_option maxRecDepth 20000 in
theorem wd_1230 : Cond.methodLink RL 146 yX10_rehearse ∈ lw_g := wd_c5 169 rfl rfl
set_option maxRecDepth 20000 in
theorem wd_1231 : Cond.instanceMethod yX10_rehearse ∈ lw_g := wd_c5 170 rfl rfl
set_option maxRecDepth 20000 in
theorem wd_1232 : Cond.selects RX10 yX10_rehearse yX10_rehearse ∈ lw_g := wd_c5 171 rfl rfl
set_option maxRecDepth 20000 in
theorem wd_1233 : Cond.code yX10_rehearse cX10_rehearse (3 : Nat) (Option.some FieldType.int) ∈ lw_g := wd_c5 172 rfl rfl
set_option maxRecDepth 20000 in
theorem wd_1234 : Cond.methodLink RX10 284 yX8_add ∈ lw_g := wd_c5 173 rfl rfl
set_option maxRecDepth 20000 in
theorem wd_1235 : Cond.instanceMethod yX8_add ∈ lw_g := wd_c5 174 rfl rfl
set_option maxRecDepth 20000 in
theorem wd_1236 : Cond.selects RX8 yX8_add yX8_add ∈ lw_g := wd_c5 175 rfl rfl
set_option maxRecDepth 20000 in
theorem wd_1237 : Cond.code yX8_add cX8_add (3 : Nat) (Option.some FieldType.int) ∈ lw_g := wd_c5 176 rfl rfl
set_option maxRecDepth 20000 in
theorem wd_1238 : Cond.methodLink RL 150 yX10_rooms ∈ lw_g := wd_c5 177 rfl rfl
set_option maxRecDepth 20000 in
theorem wd_1239 : Cond.instanceMethod yX10_rooms ∈ lw_g := wd_c5 178 rfl rfl
set_option maxRecDepth 20000 in
theorem wd_1240 : Cond.selects RX10 yX10_rooms yX10_rooms ∈ lw_g := wd_c5 179 rfl rfl
set_option maxRecDepth 20000 in
theorem wd_1241 : Cond.code yX10_rooms cX10_rooms (2 : Nat) (Option.some FieldType.boolean) ∈ lw_g := wd_c5 180 rfl rfl
set_option maxRecDepth 20000 in
theorem wd_1242 : Cond.methodLink RL 154 yX10_week ∈ lw_g := wd_c5 181 rfl rfl
set_option maxRecDepth 20000 in
theorem wd_1243 : Cond.instanceMethod yX10_week ∈ lw_g := wd_c5 182 rfl rfl
set_option maxRecDepth 20000 in
theorem wd_1244 : Cond.selects RX10 yX10_week yX10_week ∈ lw_g := wd_c5 183 rfl rfl
set_option maxRecDepth 20000 in
theorem wd_1245 : Cond.code yX10_week cX10_week (4 : Nat) (Option.some FieldType.int) ∈ lw_g := wd_c5 184 rfl rfl
set_option maxRecDepth 20000 in
theorem wd_1246 : Cond.methodLink RX10 299 yX8_plan ∈ lw_g := wd_c5 185 rfl rfl
set_option maxRecDepth 20000 in
theorem wd_1247 : Cond.instanceMethod yX8_plan ∈ lw_g := wd_c5 186 rfl rfl
set_option maxRecDepth 20000 in
theorem wd_1248 : Cond.selects RX8 yX8_plan yX8_plan ∈ lw_g := wd_c5 187 rfl rfl
set_option maxRecDepth 20000 in
theorem wd_1249 : Cond.code yX8_plan cX8_plan (2 : Nat) (Option.some FieldType.int) ∈ lw_g := wd_c5 188 rfl rfl
set_option maxRecDepth 20000 in
theorem wd_1250 : Cond.methodLink RX8 37 yX8_fits ∈ lw_g := wd_c5 189 rfl rfl
set_option maxRecDepth 20000 in
theorem wd_1252 : Cond.instanceMethod yX8_fits ∈ lw_g := wd_c5 191 rfl rfl
set_option maxRecDepth 20000 in
theorem wd_1253 : Cond.code yX8_fits cX8_fits (5 : Nat) (Option.some FieldType.boolean) ∈ lw_g := wd_c5 192 rfl rfl
set_option maxRecDepth 20000 in
theorem wd_1254 : Cond.methodLink RX8 41 yJ9_max_7cf53 ∈ lw_g := wd_c5 193 rfl rfl
set_option maxRecDepth 20000 in
theorem wd_1255 : Cond.methodLink RL 158 yX10_hour ∈ lw_g := wd_c5 194 rfl rfl
set_option maxRecDepth 20000 in
theorem wd_1256 : Cond.instanceMethod yX10_hour ∈ lw_g := wd_c5 195 rfl rfl
set_option maxRecDepth 20000 in
theorem wd_1257 : Cond.selects RX10 yX10_hour yX10_hour ∈ lw_g := wd_c5 196 rfl rfl
set_option maxRecDepth 20000 in
theorem wd_1258 : Cond.code yX10_hour cX10_hour (3 : Nat) (Option.some FieldType.int) ∈ lw_g := wd_c5 197 rfl rfl
set_option maxRecDepth 20000 in
theorem wd_1259 : Cond.methodLink RX10 302 yX10_week ∈ lw_g := wd_c5 198 rfl rfl
set_option maxRecDepth 20000 in
theorem wd_1260 : Cond.methodLink RL 162 yX10_live ∈ lw_g := wd_c5 199 rfl rfl
set_option maxRecDepth 20000 in
theorem wd_1261 : Cond.instanceMethod yX10_live ∈ lw_g := wd_c5 200 rfl rfl
set_option maxRecDepth 20000 in
theorem wd_1262 : Cond.selects RX10 yX10_live yX10_live ∈ lw_g := wd_c5 201 rfl rfl
set_option maxRecDepth 20000 in
theorem wd_1263 : Cond.code yX10_live cX10_live (4 : Nat) (Option.some FieldType.int) ∈ lw_g := wd_c5 202 rfl rfl
set_option maxRecDepth 20000 in
theorem wd_1264 : Cond.methodLink RX10 311 yX6_living ∈ lw_g := wd_c5 203 rfl rfl
set_option maxRecDepth 20000 in
theorem wd_1265 : Cond.instanceMethod yX6_living ∈ lw_g := wd_c5 204 rfl rfl
set_option maxRecDepth 20000 in
theorem wd_1266 : Cond.selects RX6 yX6_living yX6_living ∈ lw_g := wd_c5 205 rfl rfl
set_option maxRecDepth 20000 in
theorem wd_1267 : Cond.code yX6_living cX6_living (4 : Nat) (Option.some FieldType.int) ∈ lw_g := wd_c5 206 rfl rfl
set_option maxRecDepth 20000 in
theorem wd_1268 : Cond.methodLink RX6 156 yX6_missing ∈ lw_g := wd_c5 207 rfl rfl
set_option maxRecDepth 20000 in
theorem wd_1270 : Cond.instanceMethod yX6_missing ∈ lw_g := wd_c5 209 rfl rfl
set_option maxRecDepth 20000 in
theorem wd_1271 : Cond.code yX6_missing cX6_missing (5 : Nat) (Option.some FieldType.int) ∈ lw_g := wd_c5 210 rfl rfl
set_option maxRecDepth 20000 in
theorem wd_1272 : Cond.methodLink RX6 168 yX6_isKept ∈ lw_g := wd_c5 211 rfl rfl
set_option maxRecDepth 20000 in
theorem wd_1274 : Cond.instanceMethod yX6_isKept ∈ lw_g := wd_c5 213 rfl rfl
set_option maxRecDepth 20000 in
theorem wd_1275 : Cond.code yX6_isKept cX6_isKept (3 : Nat) (Option.some FieldType.boolean) ∈ lw_g := wd_c5 214 rfl rfl
set_option maxRecDepth 20000 in
theorem wd_1276 : Cond.methodLink RL 166 yX10_note ∈ lw_g := wd_c5 215 rfl rfl
set_option maxRecDepth 20000 in
theorem wd_1277 : Cond.instanceMethod yX10_note ∈ lw_g := wd_c5 216 rfl rfl
set_option maxRecDepth 20000 in
theorem wd_1278 : Cond.selects RX10 yX10_note yX10_note ∈ lw_g := wd_c5 217 rfl rfl
set_option maxRecDepth 20000 in
theorem wd_1279 : Cond.code yX10_note cX10_note (4 : Nat) (Option.some FieldType.int) ∈ lw_g := wd_c5 218 rfl rfl
set_option maxRecDepth 20000 in
theorem wd_1280 : Cond.methodLink RX10 314 yX6_firstNoted ∈ lw_g := wd_c5 219 rfl rfl
set_option maxRecDepth 20000 in
theorem wd_1281 : Cond.instanceMethod yX6_firstNoted ∈ lw_g := wd_c5 220 rfl rfl
set_option maxRecDepth 20000 in
theorem wd_1282 : Cond.selects RX6 yX6_firstNoted yX6_firstNoted ∈ lw_g := wd_c5 221 rfl rfl
set_option maxRecDepth 20000 in
theorem wd_1283 : Cond.code yX6_firstNoted cX6_firstNoted (8 : Nat) (Option.some FieldType.int) ∈ lw_g := wd_c5 222 rfl rfl
set_option maxRecDepth 20000 in
theorem wd_1284 : Cond.methodLink RX6 171 yX6_living ∈ lw_g := wd_c5 223 rfl rfl
set_option maxRecDepth 20000 in
theorem wd_1285 : Cond.methodLink RX6 174 yX6_missingOf ∈ lw_g := wd_c5 224 rfl rfl
set_option maxRecDepth 20000 in
theorem wd_1287 : Cond.instanceMethod yX6_missingOf ∈ lw_g := wd_c5 226 rfl rfl
set_option maxRecDepth 20000 in
theorem wd_1288 : Cond.code yX6_missingOf cX6_missingOf (4 : Nat) (Option.some FieldType.int) ∈ lw_g := wd_c5 227 rfl rfl
set_option maxRecDepth 20000 in
theorem wd_1289 : Cond.methodLink RX6 177 yJ6_bitCount_0f7a4 ∈ lw_g := wd_c5 228 rfl rfl
set_option maxRecDepth 20000 in
theorem wd_1290 : Cond.methodLink RL 170 yX10_about ∈ lw_g := wd_c5 229 rfl rfl
set_option maxRecDepth 20000 in
theorem wd_1291 : Cond.instanceMethod yX10_about ∈ lw_g := wd_c5 230 rfl rfl
set_option maxRecDepth 20000 in
theorem wd_1292 : Cond.selects RX10 yX10_about yX10_about ∈ lw_g := wd_c5 231 rfl rfl
set_option maxRecDepth 20000 in
theorem wd_1293 : Cond.code yX10_about cX10_about (2 : Nat) (Option.some FieldType.int) ∈ lw_g := wd_c5 232 rfl rfl
set_option maxRecDepth 20000 in
theorem wd_1294 : Cond.classLink RL 10 RX11 ∈ lw_g := wd_c5 233 rfl rfl
set_option maxRecDepth 20000 in
theorem wd_1295 : Cond.instantiable RX11 82 ∈ lw_g := wd_c5 234 rfl rfl
set_option maxRecDepth 20000 in
theorem wd_1296 : Cond.methodLink RL 12 yX11_init ∈ lw_g := wd_c5 235 rfl rfl
set_option maxRecDepth 20000 in
theorem wd_1297 : Cond.instanceMethod yX11_init ∈ lw_g := wd_c5 236 rfl rfl
set_option maxRecDepth 20000 in
theorem wd_1298 : Cond.code yX11_init cX11_init (1 : Nat) (Option.none : Option FieldType) ∈ lw_g := wd_c5 237 rfl rfl
set_option maxRecDepth 20000 in
theorem wd_1299 : Cond.methodLink RX11 1 ⟨"java/lang/Object", "<init>", "()V"⟩ ∈ lw_g := wd_c5 238 rfl rfl
set_option maxRecDepth 20000 in
theorem wd_1300 : Cond.fieldLink RX11 7 "DanceCompanyModel" "tape" "[B" ∈ lw_g := wd_c5 239 rfl rfl
set_option maxRecDepth 20000 in
theorem wd_1301 : Cond.fieldLink RX11 13 "DanceCompanyModel" "text" "[B" ∈ lw_g := wd_c6 0 rfl rfl
set_option maxRecDepth 20000 in
theorem wd_1302 : Cond.fieldLink RX11 260 "DanceCompanyModel" "taped" "I" ∈ lw_g := wd_c6 1 rfl rfl
set_option maxRecDepth 20000 in
theorem wd_1303 : Cond.fieldLink RX11 164 "DanceCompanyModel" "size" "I" ∈ lw_g := wd_c6 2 rfl rfl
set_option maxRecDepth 20000 in
theorem wd_1304 : Cond.fieldLink RX11 167 "DanceCompanyModel" "faultKind" "I" ∈ lw_g := wd_c6 3 rfl rfl
set_option maxRecDepth 20000 in
theorem wd_1305 : Cond.fieldLink RX11 16 "DanceCompanyModel" "faultPlace" "I" ∈ lw_g := wd_c6 4 rfl rfl
set_option maxRecDepth 20000 in
theorem wd_1306 : Cond.fieldLink RX11 215 "DanceCompanyModel" "at" "I" ∈ lw_g := wd_c6 5 rfl rfl
set_option maxRecDepth 20000 in
theorem wd_1307 : Cond.fieldLink RX11 212 "DanceCompanyModel" "end" "I" ∈ lw_g := wd_c6 6 rfl rfl
set_option maxRecDepth 20000 in
theorem wd_1308 : Cond.fieldLink RX11 222 "DanceCompanyModel" "token" "I" ∈ lw_g := wd_c6 7 rfl rfl
set_option maxRecDepth 20000 in
theorem wd_1309 : Cond.fieldLink RX11 240 "DanceCompanyModel" "number" "I" ∈ lw_g := wd_c6 8 rfl rfl
set_option maxRecDepth 20000 in
theorem wd_1310 : Cond.fieldLink RX11 229 "DanceCompanyModel" "name" "J" ∈ lw_g := wd_c6 9 rfl rfl
set_option maxRecDepth 20000 in
theorem wd_1311 : Cond.fieldLink RX11 20 "DanceCompanyModel" "lineMany" "[I" ∈ lw_g := wd_c6 10 rfl rfl
set_option maxRecDepth 20000 in
theorem wd_1312 : Cond.fieldLink RX11 24 "DanceCompanyModel" "workMany" "[I" ∈ lw_g := wd_c6 11 rfl rfl
set_option maxRecDepth 20000 in
theorem wd_1313 : Cond.fieldLink RX11 27 "DanceCompanyModel" "partMany" "[I" ∈ lw_g := wd_c6 12 rfl rfl
set_option maxRecDepth 20000 in
theorem wd_1314 : Cond.fieldLink RX11 30 "DanceCompanyModel" "nameMany" "[I" ∈ lw_g := wd_c6 13 rfl rfl
set_option maxRecDepth 20000 in
theorem wd_1315 : Cond.fieldLink RX11 33 "DanceCompanyModel" "wide" "[I" ∈ lw_g := wd_c6 14 rfl rfl
set_option maxRecDepth 20000 in
theorem wd_1316 : Cond.fieldLink RX11 36 "DanceCompanyModel" "deep" "[I" ∈ lw_g := wd_c6 15 rfl rfl
set_option maxRecDepth 20000 in
theorem wd_1317 : Cond.fieldLink RX11 39 "DanceCompanyModel" "hard" "[I" ∈ lw_g := wd_c6 16 rfl rfl
set_option maxRecDepth 20000 in
theorem wd_1318 : Cond.fieldLink RX11 42 "DanceCompanyModel" "pWork" "[I" ∈ lw_g := wd_c6 17 rfl rfl
set_option maxRecDepth 20000 in
theorem wd_1319 : Cond.fieldLink RX11 45 "DanceCompanyModel" "pX" "[I" ∈ lw_g := wd_c6 18 rfl rfl
set_option maxRecDepth 20000 in
theorem wd_1320 : Cond.fieldLink RX11 48 "DanceCompanyModel" "pY" "[I" ∈ lw_g := wd_c6 19 rfl rfl
set_option maxRecDepth 20000 in
theorem wd_1321 : Cond.fieldLink RX11 51 "DanceCompanyModel" "pCounts" "[I" ∈ lw_g := wd_c6 20 rfl rfl
set_option maxRecDepth 20000 in
theorem wd_1322 : Cond.fieldLink RX11 54 "DanceCompanyModel" "pSteps" "[I" ∈ lw_g := wd_c6 21 rfl rfl
set_option maxRecDepth 20000 in
theorem wd_1323 : Cond.fieldLink RX11 57 "DanceCompanyModel" "inWork" "[I" ∈ lw_g := wd_c6 22 rfl rfl
set_option maxRecDepth 20000 in
theorem wd_1324 : Cond.fieldLink RX11 60 "DanceCompanyModel" "isNote" "[Z" ∈ lw_g := wd_c6 23 rfl rfl
set_option maxRecDepth 20000 in
theorem wd_1325 : Cond.fieldLink RX11 64 "DanceCompanyModel" "hasFloor" "[Z" ∈ lw_g := wd_c6 24 rfl rfl
set_option maxRecDepth 20000 in
theorem wd_1326 : Cond.fieldLink RX11 67 "DanceCompanyModel" "names" "[J" ∈ lw_g := wd_c6 25 rfl rfl
set_option maxRecDepth 20000 in
theorem wd_1327 : Cond.fieldLink RX11 266 "DanceCompanyModel" "bank" "I" ∈ lw_g := wd_c6 26 rfl rfl
set_option maxRecDepth 20000 in
theorem wd_1328 : Cond.fieldLink RX11 269 "DanceCompanyModel" "rb" "I" ∈ lw_g := wd_c6 27 rfl rfl
set_option maxRecDepth 20000 in
theorem wd_1329 : Cond.fieldLink RX11 71 "DanceCompanyModel" "signs" "[I" ∈ lw_g := wd_c6 28 rfl rfl
set_option maxRecDepth 20000 in
theorem wd_1330 : Cond.fieldLink RX11 349 "DanceCompanyModel" "spotX" "I" ∈ lw_g := wd_c6 29 rfl rfl
set_option maxRecDepth 20000 in
theorem wd_1331 : Cond.fieldLink RX11 352 "DanceCompanyModel" "spotY" "I" ∈ lw_g := wd_c6 30 rfl rfl
set_option maxRecDepth 20000 in
theorem wd_1332 : Cond.fieldLink RX11 74 "DanceCompanyModel" "ruleDay" "[I" ∈ lw_g := wd_c6 31 rfl rfl
set_option maxRecDepth 20000 in
theorem wd_1333 : Cond.fieldLink RX11 77 "DanceCompanyModel" "uFrom" "[I" ∈ lw_g := wd_c6 32 rfl rfl
set_option maxRecDepth 20000 in
theorem wd_1334 : Cond.fieldLink RX11 80 "DanceCompanyModel" "uTo" "[I" ∈ lw_g := wd_c6 33 rfl rfl
set_option maxRecDepth 20000 in
theorem wd_1335 : Cond.fieldLink RX11 83 "DanceCompanyModel" "code" "[I" ∈ lw_g := wd_c6 34 rfl rfl
set_option maxRecDepth 20000 in
theorem wd_1336 : Cond.fieldLink RX11 86 "DanceCompanyModel" "codeNumber" "[I" ∈ lw_g := wd_c6 35 rfl rfl
set_option maxRecDepth 20000 in
theorem wd_1337 : Cond.fieldLink RX11 89 "DanceCompanyModel" "eWhat" "[I" ∈ lw_g := wd_c6 36 rfl rfl
set_option maxRecDepth 20000 in
theorem wd_1338 : Cond.fieldLink RX11 92 "DanceCompanyModel" "eSign" "[I" ∈ lw_g := wd_c6 37 rfl rfl
set_option maxRecDepth 20000 in
theorem wd_1339 : Cond.fieldLink RX11 95 "DanceCompanyModel" "pile" "[I" ∈ lw_g := wd_c6 38 rfl rfl
set_option maxRecDepth 20000 in
theorem wd_1340 : Cond.fieldLink RX11 98 "DanceCompanyModel" "hasE" "[Z" ∈ lw_g := wd_c6 39 rfl rfl
set_option maxRecDepth 20000 in
theorem wd_1341 : Cond.fieldLink RX11 374 "DanceCompanyModel" "ruleMany" "I" ∈ lw_g := wd_c6 40 rfl rfl
set_option maxRecDepth 20000 in
theorem wd_1342 : Cond.fieldLink RX11 377 "DanceCompanyModel" "codes" "I" ∈ lw_g := wd_c6 41 rfl rfl
set_option maxRecDepth 20000 in
theorem wd_1343 : Cond.fieldLink RX11 380 "DanceCompanyModel" "units" "I" ∈ lw_g := wd_c6 42 rfl rfl
set_option maxRecDepth 20000 in
theorem wd_1344 : Cond.fieldLink RX11 392 "DanceCompanyModel" "within" "I" ∈ lw_g := wd_c6 43 rfl rfl
set_option maxRecDepth 20000 in
theorem wd_1345 : Cond.fieldLink RX11 389 "DanceCompanyModel" "piled" "I" ∈ lw_g := wd_c6 44 rfl rfl
set_option maxRecDepth 20000 in
theorem wd_1346 : Cond.fieldLink RX11 101 "DanceCompanyModel" "fKind" "[I" ∈ lw_g := wd_c6 45 rfl rfl
set_option maxRecDepth 20000 in
theorem wd_1347 : Cond.fieldLink RX11 104 "DanceCompanyModel" "fOne" "[I" ∈ lw_g := wd_c6 46 rfl rfl
set_option maxRecDepth 20000 in
theorem wd_1348 : Cond.fieldLink RX11 107 "DanceCompanyModel" "fTwo" "[I" ∈ lw_g := wd_c6 47 rfl rfl
set_option maxRecDepth 20000 in
theorem wd_1349 : Cond.fieldLink RX11 110 "DanceCompanyModel" "fThree" "[I" ∈ lw_g := wd_c6 48 rfl rfl
set_option maxRecDepth 20000 in
theorem wd_1350 : Cond.fieldLink RX11 113 "DanceCompanyModel" "fTold" "[I" ∈ lw_g := wd_c6 49 rfl rfl
set_option maxRecDepth 20000 in
theorem wd_1351 : Cond.fieldLink RX11 116 "DanceCompanyModel" "fUntold" "[I" ∈ lw_g := wd_c6 50 rfl rfl
set_option maxRecDepth 20000 in
theorem wd_1352 : Cond.fieldLink RX11 416 "DanceCompanyModel" "bodies" "I" ∈ lw_g := wd_c6 51 rfl rfl
set_option maxRecDepth 20000 in
theorem wd_1353 : Cond.fieldLink RX11 275 "DanceCompanyModel" "facts" "I" ∈ lw_g := wd_c6 52 rfl rfl
set_option maxRecDepth 20000 in
theorem wd_1354 : Cond.fieldLink RX11 419 "DanceCompanyModel" "time" "I" ∈ lw_g := wd_c6 53 rfl rfl
set_option maxRecDepth 20000 in
theorem wd_1355 : Cond.fieldLink RX11 434 "DanceCompanyModel" "qBody" "I" ∈ lw_g := wd_c6 54 rfl rfl
set_option maxRecDepth 20000 in
theorem wd_1356 : Cond.fieldLink RX11 437 "DanceCompanyModel" "qPart" "I" ∈ lw_g := wd_c6 55 rfl rfl
set_option maxRecDepth 20000 in
theorem wd_1357 : Cond.fieldLink RX11 443 "DanceCompanyModel" "qKnown" "I" ∈ lw_g := wd_c6 56 rfl rfl
set_option maxRecDepth 20000 in
theorem wd_1358 : Cond.fieldLink RX11 446 "DanceCompanyModel" "qLast" "I" ∈ lw_g := wd_c6 57 rfl rfl
set_option maxRecDepth 20000 in
theorem wd_1359 : Cond.fieldLink RX11 449 "DanceCompanyModel" "qLoad" "I" ∈ lw_g := wd_c6 58 rfl rfl
set_option maxRecDepth 20000 in
theorem wd_1360 : Cond.fieldLink RX11 452 "DanceCompanyModel" "qIdle" "I" ∈ lw_g := wd_c6 59 rfl rfl
set_option maxRecDepth 20000 in
theorem wd_1361 : Cond.fieldLink RX11 440 "DanceCompanyModel" "qDay" "I" ∈ lw_g := wd_c6 60 rfl rfl
set_option maxRecDepth 20000 in
theorem wd_1362 : Cond.fieldLink RX11 119 "DanceCompanyModel" "canDo" "[Z" ∈ lw_g := wd_c6 61 rfl rfl
set_option maxRecDepth 20000 in
theorem wd_1363 : Cond.fieldLink RX11 122 "DanceCompanyModel" "costs" "[I" ∈ lw_g := wd_c6 62 rfl rfl
set_option maxRecDepth 20000 in
theorem wd_1364 : Cond.fieldLink RX11 125 "DanceCompanyModel" "cast" "[I" ∈ lw_g := wd_c6 63 rfl rfl
set_option maxRecDepth 20000 in
theorem wd_1365 : Cond.fieldLink RX11 128 "DanceCompanyModel" "newCast" "[I" ∈ lw_g := wd_c6 64 rfl rfl
set_option maxRecDepth 20000 in
theorem wd_1366 : Cond.fieldLink RX11 131 "DanceCompanyModel" "those" "[I" ∈ lw_g := wd_c6 65 rfl rfl
set_option maxRecDepth 20000 in
theorem wd_1367 : Cond.fieldLink RX11 134 "DanceCompanyModel" "first" "[I" ∈ lw_g := wd_c6 66 rfl rfl
set_option maxRecDepth 20000 in
theorem wd_1368 : Cond.fieldLink RX11 137 "DanceCompanyModel" "least" "[J" ∈ lw_g := wd_c6 67 rfl rfl
set_option maxRecDepth 20000 in
theorem wd_1369 : Cond.fieldLink RX11 140 "DanceCompanyModel" "fewest" "[I" ∈ lw_g := wd_c6 68 rfl rfl
set_option maxRecDepth 20000 in
theorem wd_1370 : Cond.fieldLink RX11 483 "DanceCompanyModel" "many" "I" ∈ lw_g := wd_c6 69 rfl rfl
set_option maxRecDepth 20000 in
theorem wd_1371 : Cond.fieldLink RX11 491 "DanceCompanyModel" "changed" "I" ∈ lw_g := wd_c6 70 rfl rfl
set_option maxRecDepth 20000 in
theorem wd_1372 : Cond.fieldLink RX11 488 "DanceCompanyModel" "castCost" "J" ∈ lw_g := wd_c6 71 rfl rfl
set_option maxRecDepth 20000 in
theorem wd_1373 : Cond.fieldLink RX11 143 "DanceCompanyModel" "rWork" "[I" ∈ lw_g := wd_c6 72 rfl rfl
set_option maxRecDepth 20000 in
theorem wd_1374 : Cond.fieldLink RX11 146 "DanceCompanyModel" "rDay" "[I" ∈ lw_g := wd_c6 73 rfl rfl
set_option maxRecDepth 20000 in
theorem wd_1375 : Cond.fieldLink RX11 149 "DanceCompanyModel" "rBodies" "[I" ∈ lw_g := wd_c6 74 rfl rfl
set_option maxRecDepth 20000 in
theorem wd_1376 : Cond.fieldLink RX11 152 "DanceCompanyModel" "hourOf" "[I" ∈ lw_g := wd_c6 75 rfl rfl
set_option maxRecDepth 20000 in
theorem wd_1377 : Cond.fieldLink RX11 155 "DanceCompanyModel" "inHour" "[I" ∈ lw_g := wd_c6 76 rfl rfl
set_option maxRecDepth 20000 in
theorem wd_1378 : Cond.fieldLink RX11 158 "DanceCompanyModel" "hourBodies" "[I" ∈ lw_g := wd_c6 77 rfl rfl
set_option maxRecDepth 20000 in
theorem wd_1379 : Cond.fieldLink RX11 278 "DanceCompanyModel" "rehearsals" "I" ∈ lw_g := wd_c6 78 rfl rfl
set_option maxRecDepth 20000 in
theorem wd_1380 : Cond.fieldLink RX11 161 "DanceCompanyModel" "rooms" "I" ∈ lw_g := wd_c6 79 rfl rfl
set_option maxRecDepth 20000 in
theorem wd_1381 : Cond.fieldLink RX11 509 "DanceCompanyModel" "hours" "I" ∈ lw_g := wd_c6 80 rfl rfl
set_option maxRecDepth 20000 in
theorem wd_1382 : Cond.laysFinal "DanceCompanyModel" "DanceCompanyModel" "tape" "[B" ∈ lw_g := wd_c6 81 rfl rfl
set_option maxRecDepth 20000 in
theorem wd_1384 : Cond.laysFinal "DanceCompanyModel" "DanceCompanyModel" "text" "[B" ∈ lw_g := wd_c6 83 rfl rfl
set_option maxRecDepth 20000 in
theorem wd_1386 : Cond.lays "DanceCompanyModel" "DanceCompanyModel" "taped" "I" ∈ lw_g := wd_c6 85 rfl rfl
set_option maxRecDepth 20000 in
theorem wd_1388 : Cond.lays "DanceCompanyModel" "DanceCompanyModel" "size" "I" ∈ lw_g := wd_c6 87 rfl rfl
set_option maxRecDepth 20000 in
theorem wd_1390 : Cond.lays "DanceCompanyModel" "DanceCompanyModel" "faultKind" "I" ∈ lw_g := wd_c6 89 rfl rfl
set_option maxRecDepth 20000 in
theorem wd_1392 : Cond.lays "DanceCompanyModel" "DanceCompanyModel" "faultPlace" "I" ∈ lw_g := wd_c6 91 rfl rfl
set_option maxRecDepth 20000 in
theorem wd_1394 : Cond.lays "DanceCompanyModel" "DanceCompanyModel" "at" "I" ∈ lw_g := wd_c6 93 rfl rfl
set_option maxRecDepth 20000 in
theorem wd_1396 : Cond.lays "DanceCompanyModel" "DanceCompanyModel" "end" "I" ∈ lw_g := wd_c6 95 rfl rfl
set_option maxRecDepth 20000 in
theorem wd_1398 : Cond.lays "DanceCompanyModel" "DanceCompanyModel" "token" "I" ∈ lw_g := wd_c6 97 rfl rfl
set_option maxRecDepth 20000 in
theorem wd_1400 : Cond.lays "DanceCompanyModel" "DanceCompanyModel" "number" "I" ∈ lw_g := wd_c6 99 rfl rfl
set_option maxRecDepth 20000 in
theorem wd_1402 : Cond.lays "DanceCompanyModel" "DanceCompanyModel" "name" "J" ∈ lw_g := wd_c6 101 rfl rfl
set_option maxRecDepth 20000 in
theorem wd_1404 : Cond.laysFinal "DanceCompanyModel" "DanceCompanyModel" "lineMany" "[I" ∈ lw_g := wd_c6 103 rfl rfl
set_option maxRecDepth 20000 in
theorem wd_1406 : Cond.laysFinal "DanceCompanyModel" "DanceCompanyModel" "workMany" "[I" ∈ lw_g := wd_c6 105 rfl rfl
set_option maxRecDepth 20000 in
theorem wd_1408 : Cond.laysFinal "DanceCompanyModel" "DanceCompanyModel" "partMany" "[I" ∈ lw_g := wd_c6 107 rfl rfl
set_option maxRecDepth 20000 in
theorem wd_1410 : Cond.laysFinal "DanceCompanyModel" "DanceCompanyModel" "nameMany" "[I" ∈ lw_g := wd_c6 109 rfl rfl
set_option maxRecDepth 20000 in
theorem wd_1412 : Cond.laysFinal "DanceCompanyModel" "DanceCompanyModel" "wide" "[I" ∈ lw_g := wd_c6 111 rfl rfl
set_option maxRecDepth 20000 in
theorem wd_1414 : Cond.laysFinal "DanceCompanyModel" "DanceCompanyModel" "deep" "[I" ∈ lw_g := wd_c6 113 rfl rfl
set_option maxRecDepth 20000 in
theorem wd_1416 : Cond.laysFinal "DanceCompanyModel" "DanceCompanyModel" "hard" "[I" ∈ lw_g := wd_c6 115 rfl rfl
set_option maxRecDepth 20000 in
theorem wd_1418 : Cond.laysFinal "DanceCompanyModel" "DanceCompanyModel" "pWork" "[I" ∈ lw_g := wd_c6 117 rfl rfl
set_option maxRecDepth 20000 in
theorem wd_1420 : Cond.laysFinal "DanceCompanyModel" "DanceCompanyModel" "pX" "[I" ∈ lw_g := wd_c6 119 rfl rfl
set_option maxRecDepth 20000 in
theorem wd_1422 : Cond.laysFinal "DanceCompanyModel" "DanceCompanyModel" "pY" "[I" ∈ lw_g := wd_c6 121 rfl rfl
set_option maxRecDepth 20000 in
theorem wd_1424 : Cond.laysFinal "DanceCompanyModel" "DanceCompanyModel" "pCounts" "[I" ∈ lw_g := wd_c6 123 rfl rfl
set_option maxRecDepth 20000 in
theorem wd_1426 : Cond.laysFinal "DanceCompanyModel" "DanceCompanyModel" "pSteps" "[I" ∈ lw_g := wd_c6 125 rfl rfl
set_option maxRecDepth 20000 in
theorem wd_1428 : Cond.laysFinal "DanceCompanyModel" "DanceCompanyModel" "inWork" "[I" ∈ lw_g := wd_c6 127 rfl rfl
set_option maxRecDepth 20000 in
theorem wd_1430 : Cond.laysFinal "DanceCompanyModel" "DanceCompanyModel" "isNote" "[Z" ∈ lw_g := wd_c6 129 rfl rfl
set_option maxRecDepth 20000 in
theorem wd_1432 : Cond.laysFinal "DanceCompanyModel" "DanceCompanyModel" "hasFloor" "[Z" ∈ lw_g := wd_c6 131 rfl rfl
set_option maxRecDepth 20000 in
theorem wd_1434 : Cond.laysFinal "DanceCompanyModel" "DanceCompanyModel" "names" "[J" ∈ lw_g := wd_c6 133 rfl rfl
set_option maxRecDepth 20000 in
theorem wd_1436 : Cond.lays "DanceCompanyModel" "DanceCompanyModel" "bank" "I" ∈ lw_g := wd_c6 135 rfl rfl
set_option maxRecDepth 20000 in
theorem wd_1438 : Cond.lays "DanceCompanyModel" "DanceCompanyModel" "rb" "I" ∈ lw_g := wd_c6 137 rfl rfl
set_option maxRecDepth 20000 in
theorem wd_1440 : Cond.laysFinal "DanceCompanyModel" "DanceCompanyModel" "signs" "[I" ∈ lw_g := wd_c6 139 rfl rfl
set_option maxRecDepth 20000 in
theorem wd_1442 : Cond.lays "DanceCompanyModel" "DanceCompanyModel" "spotX" "I" ∈ lw_g := wd_c6 141 rfl rfl
set_option maxRecDepth 20000 in
theorem wd_1444 : Cond.lays "DanceCompanyModel" "DanceCompanyModel" "spotY" "I" ∈ lw_g := wd_c6 143 rfl rfl
set_option maxRecDepth 20000 in
theorem wd_1446 : Cond.laysFinal "DanceCompanyModel" "DanceCompanyModel" "ruleDay" "[I" ∈ lw_g := wd_c6 145 rfl rfl
set_option maxRecDepth 20000 in
theorem wd_1448 : Cond.laysFinal "DanceCompanyModel" "DanceCompanyModel" "uFrom" "[I" ∈ lw_g := wd_c6 147 rfl rfl
set_option maxRecDepth 20000 in
theorem wd_1450 : Cond.laysFinal "DanceCompanyModel" "DanceCompanyModel" "uTo" "[I" ∈ lw_g := wd_c6 149 rfl rfl
set_option maxRecDepth 20000 in
theorem wd_1452 : Cond.laysFinal "DanceCompanyModel" "DanceCompanyModel" "code" "[I" ∈ lw_g := wd_c6 151 rfl rfl
set_option maxRecDepth 20000 in
theorem wd_1454 : Cond.laysFinal "DanceCompanyModel" "DanceCompanyModel" "codeNumber" "[I" ∈ lw_g := wd_c6 153 rfl rfl
set_option maxRecDepth 20000 in
theorem wd_1456 : Cond.laysFinal "DanceCompanyModel" "DanceCompanyModel" "eWhat" "[I" ∈ lw_g := wd_c6 155 rfl rfl
set_option maxRecDepth 20000 in
theorem wd_1458 : Cond.laysFinal "DanceCompanyModel" "DanceCompanyModel" "eSign" "[I" ∈ lw_g := wd_c6 157 rfl rfl
set_option maxRecDepth 20000 in
theorem wd_1460 : Cond.laysFinal "DanceCompanyModel" "DanceCompanyModel" "pile" "[I" ∈ lw_g := wd_c6 159 rfl rfl
set_option maxRecDepth 20000 in
theorem wd_1462 : Cond.laysFinal "DanceCompanyModel" "DanceCompanyModel" "hasE" "[Z" ∈ lw_g := wd_c6 161 rfl rfl
set_option maxRecDepth 20000 in
theorem wd_1464 : Cond.lays "DanceCompanyModel" "DanceCompanyModel" "ruleMany" "I" ∈ lw_g := wd_c6 163 rfl rfl
set_option maxRecDepth 20000 in
theorem wd_1466 : Cond.lays "DanceCompanyModel" "DanceCompanyModel" "codes" "I" ∈ lw_g := wd_c6 165 rfl rfl
set_option maxRecDepth 20000 in
theorem wd_1468 : Cond.lays "DanceCompanyModel" "DanceCompanyModel" "units" "I" ∈ lw_g := wd_c6 167 rfl rfl
set_option maxRecDepth 20000 in
theorem wd_1470 : Cond.lays "DanceCompanyModel" "DanceCompanyModel" "within" "I" ∈ lw_g := wd_c6 169 rfl rfl
set_option maxRecDepth 20000 in
theorem wd_1472 : Cond.lays "DanceCompanyModel" "DanceCompanyModel" "piled" "I" ∈ lw_g := wd_c6 171 rfl rfl
set_option maxRecDepth 20000 in
theorem wd_1474 : Cond.laysFinal "DanceCompanyModel" "DanceCompanyModel" "fKind" "[I" ∈ lw_g := wd_c6 173 rfl rfl
set_option maxRecDepth 20000 in
theorem wd_1476 : Cond.laysFinal "DanceCompanyModel" "DanceCompanyModel" "fOne" "[I" ∈ lw_g := wd_c6 175 rfl rfl
set_option maxRecDepth 20000 in
theorem wd_1478 : Cond.laysFinal "DanceCompanyModel" "DanceCompanyModel" "fTwo" "[I" ∈ lw_g := wd_c6 177 rfl rfl
set_option maxRecDepth 20000 in
theorem wd_1480 : Cond.laysFinal "DanceCompanyModel" "DanceCompanyModel" "fThree" "[I" ∈ lw_g := wd_c6 179 rfl rfl
set_option maxRecDepth 20000 in
theorem wd_1482 : Cond.laysFinal "DanceCompanyModel" "DanceCompanyModel" "fTold" "[I" ∈ lw_g := wd_c6 181 rfl rfl
set_option maxRecDepth 20000 in
theorem wd_1484 : Cond.laysFinal "DanceCompanyModel" "DanceCompanyModel" "fUntold" "[I" ∈ lw_g := wd_c6 183 rfl rfl
set_option maxRecDepth 20000 in
theorem wd_1486 : Cond.lays "DanceCompanyModel" "DanceCompanyModel" "bodies" "I" ∈ lw_g := wd_c6 185 rfl rfl
set_option maxRecDepth 20000 in
theorem wd_1488 : Cond.lays "DanceCompanyModel" "DanceCompanyModel" "facts" "I" ∈ lw_g := wd_c6 187 rfl rfl
set_option maxRecDepth 20000 in
theorem wd_1490 : Cond.lays "DanceCompanyModel" "DanceCompanyModel" "time" "I" ∈ lw_g := wd_c6 189 rfl rfl
set_option maxRecDepth 20000 in
theorem wd_1492 : Cond.lays "DanceCompanyModel" "DanceCompanyModel" "qBody" "I" ∈ lw_g := wd_c6 191 rfl rfl
set_option maxRecDepth 20000 in
theorem wd_1494 : Cond.lays "DanceCompanyModel" "DanceCompanyModel" "qPart" "I" ∈ lw_g := wd_c6 193 rfl rfl
set_option maxRecDepth 20000 in
theorem wd_1496 : Cond.lays "DanceCompanyModel" "DanceCompanyModel" "qKnown" "I" ∈ lw_g := wd_c6 195 rfl rfl
set_option maxRecDepth 20000 in
theorem wd_1498 : Cond.lays "DanceCompanyModel" "DanceCompanyModel" "qLast" "I" ∈ lw_g := wd_c6 197 rfl rfl
set_option maxRecDepth 20000 in
theorem wd_1500 : Cond.lays "DanceCompanyModel" "DanceCompanyModel" "qLoad" "I" ∈ lw_g := wd_c6 199 rfl rfl
set_option maxRecDepth 20000 in
theorem wd_1502 : Cond.lays "DanceCompanyModel" "DanceCompanyModel" "qIdle" "I" ∈ lw_g := wd_c6 201 rfl rfl
set_option maxRecDepth 20000 in
theorem wd_1504 : Cond.lays "DanceCompanyModel" "DanceCompanyModel" "qDay" "I" ∈ lw_g := wd_c6 203 rfl rfl
set_option maxRecDepth 20000 in
theorem wd_1506 : Cond.laysFinal "DanceCompanyModel" "DanceCompanyModel" "canDo" "[Z" ∈ lw_g := wd_c6 205 rfl rfl
set_option maxRecDepth 20000 in
theorem wd_1508 : Cond.laysFinal "DanceCompanyModel" "DanceCompanyModel" "costs" "[I" ∈ lw_g := wd_c6 207 rfl rfl
set_option maxRecDepth 20000 in
theorem wd_1510 : Cond.laysFinal "DanceCompanyModel" "DanceCompanyModel" "cast" "[I" ∈ lw_g := wd_c6 209 rfl rfl
set_option maxRecDepth 20000 in
theorem wd_1512 : Cond.laysFinal "DanceCompanyModel" "DanceCompanyModel" "newCast" "[I" ∈ lw_g := wd_c6 211 rfl rfl
set_option maxRecDepth 20000 in
theorem wd_1514 : Cond.laysFinal "DanceCompanyModel" "DanceCompanyModel" "those" "[I" ∈ lw_g := wd_c6 213 rfl rfl
set_option maxRecDepth 20000 in
theorem wd_1516 : Cond.laysFinal "DanceCompanyModel" "DanceCompanyModel" "first" "[I" ∈ lw_g := wd_c6 215 rfl rfl
set_option maxRecDepth 20000 in
theorem wd_1518 : Cond.laysFinal "DanceCompanyModel" "DanceCompanyModel" "least" "[J" ∈ lw_g := wd_c6 217 rfl rfl
set_option maxRecDepth 20000 in
theorem wd_1520 : Cond.laysFinal "DanceCompanyModel" "DanceCompanyModel" "fewest" "[I" ∈ lw_g := wd_c6 219 rfl rfl
set_option maxRecDepth 20000 in
theorem wd_1522 : Cond.lays "DanceCompanyModel" "DanceCompanyModel" "many" "I" ∈ lw_g := wd_c6 221 rfl rfl
set_option maxRecDepth 20000 in
theorem wd_1524 : Cond.lays "DanceCompanyModel" "DanceCompanyModel" "changed" "I" ∈ lw_g := wd_c6 223 rfl rfl
set_option maxRecDepth 20000 in
theorem wd_1526 : Cond.lays "DanceCompanyModel" "DanceCompanyModel" "castCost" "J" ∈ lw_g := wd_c6 225 rfl rfl
set_option maxRecDepth 20000 in
theorem wd_1528 : Cond.laysFinal "DanceCompanyModel" "DanceCompanyModel" "rWork" "[I" ∈ lw_g := wd_c6 227 rfl rfl
set_option maxRecDepth 20000 in
theorem wd_1530 : Cond.laysFinal "DanceCompanyModel" "DanceCompanyModel" "rDay" "[I" ∈ lw_g := wd_c6 229 rfl rfl
set_option maxRecDepth 20000 in
theorem wd_1532 : Cond.laysFinal "DanceCompanyModel" "DanceCompanyModel" "rBodies" "[I" ∈ lw_g := wd_c6 231 rfl rfl
set_option maxRecDepth 20000 in
theorem wd_1534 : Cond.laysFinal "DanceCompanyModel" "DanceCompanyModel" "hourOf" "[I" ∈ lw_g := wd_c6 233 rfl rfl
set_option maxRecDepth 20000 in
theorem wd_1536 : Cond.laysFinal "DanceCompanyModel" "DanceCompanyModel" "inHour" "[I" ∈ lw_g := wd_c6 235 rfl rfl
set_option maxRecDepth 20000 in
theorem wd_1538 : Cond.laysFinal "DanceCompanyModel" "DanceCompanyModel" "hourBodies" "[I" ∈ lw_g := wd_c6 237 rfl rfl
set_option maxRecDepth 20000 in
theorem wd_1540 : Cond.lays "DanceCompanyModel" "DanceCompanyModel" "rehearsals" "I" ∈ lw_g := wd_c6 239 rfl rfl
set_option maxRecDepth 20000 in
theorem wd_1542 : Cond.lays "DanceCompanyModel" "DanceCompanyModel" "rooms" "I" ∈ lw_g := wd_c7 1 rfl rfl
set_option maxRecDepth 20000 in
theorem wd_1544 : Cond.lays "DanceCompanyModel" "DanceCompanyModel" "hours" "I" ∈ lw_g := wd_c7 3 rfl rfl
set_option maxRecDepth 20000 in
theorem wd_1547 : Cond.methodLink RL 27 yX11_works ∈ lw_g := wd_c7 6 rfl rfl
set_option maxRecDepth 20000 in
theorem wd_1548 : Cond.instanceMethod yX11_works ∈ lw_g := wd_c7 7 rfl rfl
set_option maxRecDepth 20000 in
theorem wd_1549 : Cond.selects RX11 yX11_works yX11_works ∈ lw_g := wd_c7 8 rfl rfl
set_option maxRecDepth 20000 in
theorem wd_1550 : Cond.code yX11_works cX11_works (2 : Nat) (Option.some FieldType.int) ∈ lw_g := wd_c7 9 rfl rfl
set_option maxRecDepth 20000 in
theorem wd_1551 : Cond.methodLink RX11 263 yX11_takeTape ∈ lw_g := wd_c7 10 rfl rfl
set_option maxRecDepth 20000 in
theorem wd_1553 : Cond.instanceMethod yX11_takeTape ∈ lw_g := wd_c7 12 rfl rfl
set_option maxRecDepth 20000 in
theorem wd_1554 : Cond.code yX11_takeTape cX11_takeTape (2 : Nat) (Option.none : Option FieldType) ∈ lw_g := wd_c7 13 rfl rfl
set_option maxRecDepth 20000 in
theorem wd_1555 : Cond.methodLink RX11 254 yX11_next ∈ lw_g := wd_c7 14 rfl rfl
set_option maxRecDepth 20000 in
theorem wd_1557 : Cond.instanceMethod yX11_next ∈ lw_g := wd_c7 16 rfl rfl
set_option maxRecDepth 20000 in
theorem wd_1558 : Cond.code yX11_next cX11_next (3 : Nat) (Option.none : Option FieldType) ∈ lw_g := wd_c7 17 rfl rfl
set_option maxRecDepth 20000 in
theorem wd_1559 : Cond.methodLink RX11 218 yX11_sign ∈ lw_g := wd_c7 18 rfl rfl
set_option maxRecDepth 20000 in
theorem wd_1561 : Cond.instanceMethod yX11_sign ∈ lw_g := wd_c7 20 rfl rfl
set_option maxRecDepth 20000 in
theorem wd_1562 : Cond.code yX11_sign cX11_sign (2 : Nat) (Option.some FieldType.int) ∈ lw_g := wd_c7 21 rfl rfl
set_option maxRecDepth 20000 in
theorem wd_1563 : Cond.methodLink RX11 225 yX11_isLetter ∈ lw_g := wd_c7 22 rfl rfl
set_option maxRecDepth 20000 in
theorem wd_1564 : Cond.static yX11_isLetter ∈ lw_g := wd_c7 23 rfl rfl
set_option maxRecDepth 20000 in
theorem wd_1565 : Cond.code yX11_isLetter cX11_isLetter (1 : Nat) (Option.some FieldType.boolean) ∈ lw_g := wd_c7 24 rfl rfl
set_option maxRecDepth 20000 in
theorem wd_1566 : Cond.methodLink RX11 233 yX11_isKept ∈ lw_g := wd_c7 25 rfl rfl
set_option maxRecDepth 20000 in
theorem wd_1567 : Cond.static yX11_isKept ∈ lw_g := wd_c7 26 rfl rfl
set_option maxRecDepth 20000 in
theorem wd_1568 : Cond.code yX11_isKept cX11_isKept (3 : Nat) (Option.some FieldType.boolean) ∈ lw_g := wd_c7 27 rfl rfl
set_option maxRecDepth 20000 in
theorem wd_1569 : Cond.constantLong RX11 170 (Int64.ofInt (439905906546)) ∈ lw_g := wd_c7 28 rfl rfl
set_option maxRecDepth 20000 in
theorem wd_1570 : Cond.constantLong RX11 172 (Int64.ofInt (1751216740)) ∈ lw_g := wd_c7 29 rfl rfl
set_option maxRecDepth 20000 in
theorem wd_1571 : Cond.constantLong RX11 174 (Int64.ofInt (2003792491)) ∈ lw_g := wd_c7 30 rfl rfl
set_option maxRecDepth 20000 in
theorem wd_1572 : Cond.constantLong RX11 176 (Int64.ofInt (1885434484)) ∈ lw_g := wd_c7 31 rfl rfl
set_option maxRecDepth 20000 in
theorem wd_1573 : Cond.constantLong RX11 178 (Int64.ofInt (1852798053)) ∈ lw_g := wd_c7 32 rfl rfl
set_option maxRecDepth 20000 in
theorem wd_1574 : Cond.constantLong RX11 180 (Int64.ofInt (24948)) ∈ lw_g := wd_c7 33 rfl rfl
set_option maxRecDepth 20000 in
theorem wd_1575 : Cond.constantLong RX11 182 (Int64.ofInt (7168377)) ∈ lw_g := wd_c7 34 rfl rfl
set_option maxRecDepth 20000 in
theorem wd_1576 : Cond.constantLong RX11 184 (Int64.ofInt (1668248436)) ∈ lw_g := wd_c7 35 rfl rfl
set_option maxRecDepth 20000 in
theorem wd_1577 : Cond.constantLong RX11 186 (Int64.ofInt (499917087592)) ∈ lw_g := wd_c7 36 rfl rfl
set_option maxRecDepth 20000 in
theorem wd_1578 : Cond.constantLong RX11 188 (Int64.ofInt (2003330414)) ∈ lw_g := wd_c7 37 rfl rfl
set_option maxRecDepth 20000 in
theorem wd_1579 : Cond.constantLong RX11 190 (Int64.ofInt (6385252)) ∈ lw_g := wd_c7 38 rfl rfl
set_option maxRecDepth 20000 in
theorem wd_1580 : Cond.constantLong RX11 192 (Int64.ofInt (28530)) ∈ lw_g := wd_c7 39 rfl rfl
set_option maxRecDepth 20000 in
theorem wd_1581 : Cond.constantLong RX11 194 (Int64.ofInt (7237492)) ∈ lw_g := wd_c7 40 rfl rfl
set_option maxRecDepth 20000 in
theorem wd_1582 : Cond.constantLong RX11 196 (Int64.ofInt (1651467385)) ∈ lw_g := wd_c7 41 rfl rfl
set_option maxRecDepth 20000 in
theorem wd_1583 : Cond.constantLong RX11 198 (Int64.ofInt (461414299502)) ∈ lw_g := wd_c7 42 rfl rfl
set_option maxRecDepth 20000 in
theorem wd_1584 : Cond.constantLong RX11 200 (Int64.ofInt (1818325876)) ∈ lw_g := wd_c7 43 rfl rfl
set_option maxRecDepth 20000 in
theorem wd_1585 : Cond.constantLong RX11 202 (Int64.ofInt (1819238756)) ∈ lw_g := wd_c7 44 rfl rfl
set_option maxRecDepth 20000 in
theorem wd_1586 : Cond.constantLong RX11 204 (Int64.ofInt (1768189029)) ∈ lw_g := wd_c7 45 rfl rfl
set_option maxRecDepth 20000 in
theorem wd_1587 : Cond.constantLong RX11 206 (Int64.ofInt (448377484921)) ∈ lw_g := wd_c7 46 rfl rfl
set_option maxRecDepth 20000 in
theorem wd_1588 : Cond.constantLong RX11 208 (Int64.ofInt (6578553)) ∈ lw_g := wd_c7 47 rfl rfl
set_option maxRecDepth 20000 in
theorem wd_1589 : Cond.constantLong RX11 210 (Int64.ofInt (109330362692723)) ∈ lw_g := wd_c7 48 rfl rfl
set_option maxRecDepth 20000 in
theorem wd_1590 : Cond.methodLink RX11 237 yX11_isDigit ∈ lw_g := wd_c7 49 rfl rfl
set_option maxRecDepth 20000 in
theorem wd_1591 : Cond.static yX11_isDigit ∈ lw_g := wd_c7 50 rfl rfl
set_option maxRecDepth 20000 in
theorem wd_1592 : Cond.code yX11_isDigit cX11_isDigit (1 : Nat) (Option.some FieldType.boolean) ∈ lw_g := wd_c7 51 rfl rfl
set_option maxRecDepth 20000 in
theorem wd_1593 : Cond.methodLink RX11 243 yX11_isSign ∈ lw_g := wd_c7 52 rfl rfl
set_option maxRecDepth 20000 in
theorem wd_1594 : Cond.static yX11_isSign ∈ lw_g := wd_c7 53 rfl rfl
set_option maxRecDepth 20000 in
theorem wd_1595 : Cond.code yX11_isSign cX11_isSign (1 : Nat) (Option.some FieldType.boolean) ∈ lw_g := wd_c7 54 rfl rfl
set_option maxRecDepth 20000 in
theorem wd_1596 : Cond.methodLink RX11 250 yX11_isGood ∈ lw_g := wd_c7 55 rfl rfl
set_option maxRecDepth 20000 in
theorem wd_1598 : Cond.instanceMethod yX11_isGood ∈ lw_g := wd_c7 57 rfl rfl
set_option maxRecDepth 20000 in
theorem wd_1599 : Cond.code yX11_isGood cX11_isGood (1 : Nat) (Option.some FieldType.boolean) ∈ lw_g := wd_c7 58 rfl rfl
set_option maxRecDepth 20000 in
theorem wd_1600 : Cond.methodLink RX11 272 yX11_readWorks ∈ lw_g := wd_c7 59 rfl rfl
set_option maxRecDepth 20000 in
theorem wd_1602 : Cond.instanceMethod yX11_readWorks ∈ lw_g := wd_c7 61 rfl rfl
set_option maxRecDepth 20000 in
theorem wd_1603 : Cond.code yX11_readWorks cX11_readWorks (4 : Nat) (Option.none : Option FieldType) ∈ lw_g := wd_c7 62 rfl rfl
set_option maxRecDepth 20000 in
theorem wd_1604 : Cond.methodLink RX11 281 yX11_isWord ∈ lw_g := wd_c7 63 rfl rfl
set_option maxRecDepth 20000 in
theorem wd_1606 : Cond.instanceMethod yX11_isWord ∈ lw_g := wd_c7 65 rfl rfl
set_option maxRecDepth 20000 in
theorem wd_1607 : Cond.code yX11_isWord cX11_isWord (3 : Nat) (Option.some FieldType.boolean) ∈ lw_g := wd_c7 66 rfl rfl
set_option maxRecDepth 20000 in
theorem wd_1608 : Cond.methodLink RX11 284 yX11_isFull ∈ lw_g := wd_c7 67 rfl rfl
set_option maxRecDepth 20000 in
theorem wd_1610 : Cond.instanceMethod yX11_isFull ∈ lw_g := wd_c7 69 rfl rfl
set_option maxRecDepth 20000 in
theorem wd_1611 : Cond.code yX11_isFull cX11_isFull (3 : Nat) (Option.some FieldType.boolean) ∈ lw_g := wd_c7 70 rfl rfl
set_option maxRecDepth 20000 in
theorem wd_1612 : Cond.methodLink RX11 257 yX11_wrong ∈ lw_g := wd_c7 71 rfl rfl
set_option maxRecDepth 20000 in
theorem wd_1614 : Cond.instanceMethod yX11_wrong ∈ lw_g := wd_c7 73 rfl rfl
set_option maxRecDepth 20000 in
theorem wd_1615 : Cond.code yX11_wrong cX11_wrong (1 : Nat) (Option.none : Option FieldType) ∈ lw_g := wd_c7 74 rfl rfl
set_option maxRecDepth 20000 in
theorem wd_1616 : Cond.methodLink RX11 246 yX11_fails ∈ lw_g := wd_c7 75 rfl rfl
set_option maxRecDepth 20000 in
theorem wd_1618 : Cond.instanceMethod yX11_fails ∈ lw_g := wd_c7 77 rfl rfl
set_option maxRecDepth 20000 in
theorem wd_1619 : Cond.code yX11_fails cX11_fails (3 : Nat) (Option.none : Option FieldType) ∈ lw_g := wd_c7 78 rfl rfl
set_option maxRecDepth 20000 in
theorem wd_1620 : Cond.methodLink RX11 288 yX11_readFloor ∈ lw_g := wd_c7 79 rfl rfl
set_option maxRecDepth 20000 in
theorem wd_1622 : Cond.instanceMethod yX11_readFloor ∈ lw_g := wd_c7 81 rfl rfl
set_option maxRecDepth 20000 in
theorem wd_1623 : Cond.code yX11_readFloor cX11_readFloor (1 : Nat) (Option.none : Option FieldType) ∈ lw_g := wd_c7 82 rfl rfl
set_option maxRecDepth 20000 in
theorem wd_1624 : Cond.methodLink RX11 304 yX11_numeral ∈ lw_g := wd_c7 83 rfl rfl
set_option maxRecDepth 20000 in
theorem wd_1626 : Cond.instanceMethod yX11_numeral ∈ lw_g := wd_c7 85 rfl rfl
set_option maxRecDepth 20000 in
theorem wd_1627 : Cond.code yX11_numeral cX11_numeral (4 : Nat) (Option.some FieldType.int) ∈ lw_g := wd_c7 86 rfl rfl
set_option maxRecDepth 20000 in
theorem wd_1628 : Cond.methodLink RX11 301 yX11_must ∈ lw_g := wd_c7 87 rfl rfl
set_option maxRecDepth 20000 in
theorem wd_1630 : Cond.instanceMethod yX11_must ∈ lw_g := wd_c7 89 rfl rfl
set_option maxRecDepth 20000 in
theorem wd_1631 : Cond.code yX11_must cX11_must (2 : Nat) (Option.none : Option FieldType) ∈ lw_g := wd_c7 90 rfl rfl
set_option maxRecDepth 20000 in
theorem wd_1632 : Cond.methodLink RX11 291 yX11_readWork ∈ lw_g := wd_c7 91 rfl rfl
set_option maxRecDepth 20000 in
theorem wd_1634 : Cond.instanceMethod yX11_readWork ∈ lw_g := wd_c7 93 rfl rfl
set_option maxRecDepth 20000 in
theorem wd_1635 : Cond.code yX11_readWork cX11_readWork (1 : Nat) (Option.none : Option FieldType) ∈ lw_g := wd_c7 94 rfl rfl
set_option maxRecDepth 20000 in
theorem wd_1636 : Cond.methodLink RX11 308 yX11_freshName ∈ lw_g := wd_c7 95 rfl rfl
set_option maxRecDepth 20000 in
theorem wd_1638 : Cond.instanceMethod yX11_freshName ∈ lw_g := wd_c7 97 rfl rfl
set_option maxRecDepth 20000 in
theorem wd_1639 : Cond.code yX11_freshName cX11_freshName (2 : Nat) (Option.none : Option FieldType) ∈ lw_g := wd_c7 98 rfl rfl
set_option maxRecDepth 20000 in
theorem wd_1640 : Cond.methodLink RX11 294 yX11_readPart ∈ lw_g := wd_c7 99 rfl rfl
set_option maxRecDepth 20000 in
theorem wd_1642 : Cond.instanceMethod yX11_readPart ∈ lw_g := wd_c7 101 rfl rfl
set_option maxRecDepth 20000 in
theorem wd_1643 : Cond.code yX11_readPart cX11_readPart (3 : Nat) (Option.none : Option FieldType) ∈ lw_g := wd_c7 102 rfl rfl
set_option maxRecDepth 20000 in
theorem wd_1644 : Cond.methodLink RX11 311 yX11_readSteps ∈ lw_g := wd_c7 103 rfl rfl
set_option maxRecDepth 20000 in
theorem wd_1646 : Cond.instanceMethod yX11_readSteps ∈ lw_g := wd_c7 105 rfl rfl
set_option maxRecDepth 20000 in
theorem wd_1647 : Cond.code yX11_readSteps cX11_readSteps (5 : Nat) (Option.none : Option FieldType) ∈ lw_g := wd_c7 106 rfl rfl
set_option maxRecDepth 20000 in
theorem wd_1648 : Cond.methodLink RX11 315 yX11_stepOf ∈ lw_g := wd_c7 107 rfl rfl
set_option maxRecDepth 20000 in
theorem wd_1649 : Cond.static yX11_stepOf ∈ lw_g := wd_c7 108 rfl rfl
set_option maxRecDepth 20000 in
theorem wd_1650 : Cond.code yX11_stepOf cX11_stepOf (2 : Nat) (Option.some FieldType.int) ∈ lw_g := wd_c7 109 rfl rfl
set_option maxRecDepth 20000 in
theorem wd_1651 : Cond.methodLink RX11 298 yX11_is ∈ lw_g := wd_c7 110 rfl rfl
set_option maxRecDepth 20000 in
theorem wd_1653 : Cond.instanceMethod yX11_is ∈ lw_g := wd_c7 112 rfl rfl
set_option maxRecDepth 20000 in
theorem wd_1654 : Cond.code yX11_is cX11_is (2 : Nat) (Option.some FieldType.boolean) ∈ lw_g := wd_c7 113 rfl rfl
set_option maxRecDepth 20000 in
theorem wd_1655 : Cond.methodLink RL 35 yX11_fault ∈ lw_g := wd_c7 114 rfl rfl
set_option maxRecDepth 20000 in
theorem wd_1656 : Cond.instanceMethod yX11_fault ∈ lw_g := wd_c7 115 rfl rfl
set_option maxRecDepth 20000 in
theorem wd_1657 : Cond.selects RX11 yX11_fault yX11_fault ∈ lw_g := wd_c7 116 rfl rfl
set_option maxRecDepth 20000 in
theorem wd_1658 : Cond.code yX11_fault cX11_fault (2 : Nat) (Option.some FieldType.int) ∈ lw_g := wd_c7 117 rfl rfl
set_option maxRecDepth 20000 in
theorem wd_1659 : Cond.methodLink RL 40 yX11_part ∈ lw_g := wd_c7 118 rfl rfl
set_option maxRecDepth 20000 in
theorem wd_1660 : Cond.instanceMethod yX11_part ∈ lw_g := wd_c7 119 rfl rfl
set_option maxRecDepth 20000 in
theorem wd_1661 : Cond.selects RX11 yX11_part yX11_part ∈ lw_g := wd_c7 120 rfl rfl
set_option maxRecDepth 20000 in
theorem wd_1662 : Cond.code yX11_part cX11_part (3 : Nat) (Option.some FieldType.int) ∈ lw_g := wd_c7 121 rfl rfl
set_option maxRecDepth 20000 in
theorem wd_1663 : Cond.methodLink RX11 333 yX11_isPart ∈ lw_g := wd_c7 122 rfl rfl
set_option maxRecDepth 20000 in
theorem wd_1665 : Cond.instanceMethod yX11_isPart ∈ lw_g := wd_c7 124 rfl rfl
set_option maxRecDepth 20000 in
theorem wd_1666 : Cond.code yX11_isPart cX11_isPart (2 : Nat) (Option.some FieldType.boolean) ∈ lw_g := wd_c7 125 rfl rfl
set_option maxRecDepth 20000 in
theorem wd_1667 : Cond.methodLink RX11 319 yX11_parts ∈ lw_g := wd_c7 126 rfl rfl
set_option maxRecDepth 20000 in
theorem wd_1669 : Cond.instanceMethod yX11_parts ∈ lw_g := wd_c7 128 rfl rfl
set_option maxRecDepth 20000 in
theorem wd_1670 : Cond.code yX11_parts cX11_parts (1 : Nat) (Option.some FieldType.int) ∈ lw_g := wd_c7 129 rfl rfl
set_option maxRecDepth 20000 in
theorem wd_1671 : Cond.methodLink RX11 323 yX11_isIn ∈ lw_g := wd_c7 130 rfl rfl
set_option maxRecDepth 20000 in
theorem wd_1672 : Cond.static yX11_isIn ∈ lw_g := wd_c7 131 rfl rfl
set_option maxRecDepth 20000 in
theorem wd_1673 : Cond.code yX11_isIn cX11_isIn (3 : Nat) (Option.some FieldType.boolean) ∈ lw_g := wd_c7 132 rfl rfl
set_option maxRecDepth 20000 in
theorem wd_1674 : Cond.methodLink RX11 336 yX11_workOf ∈ lw_g := wd_c7 133 rfl rfl
set_option maxRecDepth 20000 in
theorem wd_1676 : Cond.instanceMethod yX11_workOf ∈ lw_g := wd_c7 135 rfl rfl
set_option maxRecDepth 20000 in
theorem wd_1677 : Cond.code yX11_workOf cX11_workOf (2 : Nat) (Option.some FieldType.int) ∈ lw_g := wd_c7 136 rfl rfl
set_option maxRecDepth 20000 in
theorem wd_1678 : Cond.methodLink RX11 330 yX11_at0 ∈ lw_g := wd_c7 137 rfl rfl
set_option maxRecDepth 20000 in
theorem wd_1680 : Cond.instanceMethod yX11_at0 ∈ lw_g := wd_c7 139 rfl rfl
set_option maxRecDepth 20000 in
theorem wd_1681 : Cond.code yX11_at0 cX11_at0 (2 : Nat) (Option.some FieldType.int) ∈ lw_g := wd_c7 140 rfl rfl
set_option maxRecDepth 20000 in
theorem wd_1682 : Cond.methodLink RX11 339 yX11_countsOf ∈ lw_g := wd_c7 141 rfl rfl
set_option maxRecDepth 20000 in
theorem wd_1684 : Cond.instanceMethod yX11_countsOf ∈ lw_g := wd_c7 143 rfl rfl
set_option maxRecDepth 20000 in
theorem wd_1685 : Cond.code yX11_countsOf cX11_countsOf (2 : Nat) (Option.some FieldType.int) ∈ lw_g := wd_c7 144 rfl rfl
set_option maxRecDepth 20000 in
theorem wd_1686 : Cond.methodLink RL 45 yX11_reads ∈ lw_g := wd_c7 145 rfl rfl
set_option maxRecDepth 20000 in
theorem wd_1687 : Cond.instanceMethod yX11_reads ∈ lw_g := wd_c7 146 rfl rfl
set_option maxRecDepth 20000 in
theorem wd_1688 : Cond.selects RX11 yX11_reads yX11_reads ∈ lw_g := wd_c7 147 rfl rfl
set_option maxRecDepth 20000 in
theorem wd_1689 : Cond.code yX11_reads cX11_reads (4 : Nat) (Option.some FieldType.boolean) ∈ lw_g := wd_c7 148 rfl rfl
set_option maxRecDepth 20000 in
theorem wd_1690 : Cond.methodLink RX11 342 yX11_isReader ∈ lw_g := wd_c7 149 rfl rfl
set_option maxRecDepth 20000 in
theorem wd_1691 : Cond.static yX11_isReader ∈ lw_g := wd_c7 150 rfl rfl
set_option maxRecDepth 20000 in
theorem wd_1692 : Cond.code yX11_isReader cX11_isReader (1 : Nat) (Option.some FieldType.boolean) ∈ lw_g := wd_c7 151 rfl rfl
set_option maxRecDepth 20000 in
theorem wd_1693 : Cond.methodLink RL 50 yX11_step ∈ lw_g := wd_c7 152 rfl rfl
set_option maxRecDepth 20000 in
theorem wd_1694 : Cond.instanceMethod yX11_step ∈ lw_g := wd_c7 153 rfl rfl
set_option maxRecDepth 20000 in
theorem wd_1695 : Cond.selects RX11 yX11_step yX11_step ∈ lw_g := wd_c7 154 rfl rfl
set_option maxRecDepth 20000 in
theorem wd_1696 : Cond.code yX11_step cX11_step (4 : Nat) (Option.some FieldType.int) ∈ lw_g := wd_c7 155 rfl rfl
set_option maxRecDepth 20000 in
theorem wd_1697 : Cond.methodLink RX11 345 yX11_stepAt ∈ lw_g := wd_c7 156 rfl rfl
set_option maxRecDepth 20000 in
theorem wd_1699 : Cond.instanceMethod yX11_stepAt ∈ lw_g := wd_c7 158 rfl rfl
set_option maxRecDepth 20000 in
theorem wd_1700 : Cond.code yX11_stepAt cX11_stepAt (5 : Nat) (Option.some FieldType.int) ∈ lw_g := wd_c7 159 rfl rfl
set_option maxRecDepth 20000 in
theorem wd_1701 : Cond.methodLink RL 54 yX11_where ∈ lw_g := wd_c7 160 rfl rfl
set_option maxRecDepth 20000 in
theorem wd_1702 : Cond.instanceMethod yX11_where ∈ lw_g := wd_c7 161 rfl rfl
set_option maxRecDepth 20000 in
theorem wd_1703 : Cond.selects RX11 yX11_where yX11_where ∈ lw_g := wd_c7 162 rfl rfl
set_option maxRecDepth 20000 in
theorem wd_1704 : Cond.code yX11_where cX11_where (4 : Nat) (Option.some FieldType.int) ∈ lw_g := wd_c7 163 rfl rfl
set_option maxRecDepth 20000 in
theorem wd_1705 : Cond.methodLink RX11 355 yX11_go ∈ lw_g := wd_c7 164 rfl rfl
set_option maxRecDepth 20000 in
theorem wd_1707 : Cond.instanceMethod yX11_go ∈ lw_g := wd_c7 166 rfl rfl
set_option maxRecDepth 20000 in
theorem wd_1708 : Cond.code yX11_go cX11_go (6 : Nat) (Option.none : Option FieldType) ∈ lw_g := wd_c7 167 rfl rfl
set_option maxRecDepth 20000 in
theorem wd_1709 : Cond.methodLink RL 58 yX11_meet ∈ lw_g := wd_c7 168 rfl rfl
set_option maxRecDepth 20000 in
theorem wd_1710 : Cond.instanceMethod yX11_meet ∈ lw_g := wd_c7 169 rfl rfl
set_option maxRecDepth 20000 in
theorem wd_1711 : Cond.selects RX11 yX11_meet yX11_meet ∈ lw_g := wd_c7 170 rfl rfl
set_option maxRecDepth 20000 in
theorem wd_1712 : Cond.code yX11_meet cX11_meet (8 : Nat) (Option.some FieldType.int) ∈ lw_g := wd_c7 171 rfl rfl
set_option maxRecDepth 20000 in
theorem wd_1713 : Cond.methodLink RX11 359 yX11_isWork ∈ lw_g := wd_c7 172 rfl rfl
set_option maxRecDepth 20000 in
theorem wd_1715 : Cond.instanceMethod yX11_isWork ∈ lw_g := wd_c7 174 rfl rfl
set_option maxRecDepth 20000 in
theorem wd_1716 : Cond.code yX11_isWork cX11_isWork (2 : Nat) (Option.some FieldType.boolean) ∈ lw_g := wd_c7 175 rfl rfl
set_option maxRecDepth 20000 in
theorem wd_1717 : Cond.methodLink RX11 327 yX11_works0 ∈ lw_g := wd_c7 176 rfl rfl
set_option maxRecDepth 20000 in
theorem wd_1719 : Cond.instanceMethod yX11_works0 ∈ lw_g := wd_c7 178 rfl rfl
set_option maxRecDepth 20000 in
theorem wd_1720 : Cond.code yX11_works0 cX11_works0 (1 : Nat) (Option.some FieldType.int) ∈ lw_g := wd_c7 179 rfl rfl
set_option maxRecDepth 20000 in
theorem wd_1721 : Cond.methodLink RL 63 yX11_breaks ∈ lw_g := wd_c7 180 rfl rfl
set_option maxRecDepth 20000 in
theorem wd_1722 : Cond.instanceMethod yX11_breaks ∈ lw_g := wd_c7 181 rfl rfl
set_option maxRecDepth 20000 in
theorem wd_1723 : Cond.selects RX11 yX11_breaks yX11_breaks ∈ lw_g := wd_c7 182 rfl rfl
set_option maxRecDepth 20000 in
theorem wd_1724 : Cond.code yX11_breaks cX11_breaks (7 : Nat) (Option.some FieldType.int) ∈ lw_g := wd_c7 183 rfl rfl
set_option maxRecDepth 20000 in
theorem wd_1725 : Cond.methodLink RL 67 yX11_load ∈ lw_g := wd_c7 184 rfl rfl
set_option maxRecDepth 20000 in
theorem wd_1726 : Cond.instanceMethod yX11_load ∈ lw_g := wd_c7 185 rfl rfl
set_option maxRecDepth 20000 in
theorem wd_1727 : Cond.selects RX11 yX11_load yX11_load ∈ lw_g := wd_c7 186 rfl rfl
set_option maxRecDepth 20000 in
theorem wd_1728 : Cond.code yX11_load cX11_load (3 : Nat) (Option.some FieldType.int) ∈ lw_g := wd_c7 187 rfl rfl
set_option maxRecDepth 20000 in
theorem wd_1729 : Cond.methodLink RX11 362 yX11_loadOf ∈ lw_g := wd_c7 188 rfl rfl
set_option maxRecDepth 20000 in
theorem wd_1731 : Cond.instanceMethod yX11_loadOf ∈ lw_g := wd_c7 190 rfl rfl
set_option maxRecDepth 20000 in
theorem wd_1732 : Cond.code yX11_loadOf cX11_loadOf (6 : Nat) (Option.some FieldType.int) ∈ lw_g := wd_c7 191 rfl rfl
set_option maxRecDepth 20000 in
theorem wd_1733 : Cond.methodLink RL 71 yX11_like ∈ lw_g := wd_c7 192 rfl rfl
set_option maxRecDepth 20000 in
theorem wd_1734 : Cond.instanceMethod yX11_like ∈ lw_g := wd_c7 193 rfl rfl
set_option maxRecDepth 20000 in
theorem wd_1735 : Cond.selects RX11 yX11_like yX11_like ∈ lw_g := wd_c7 194 rfl rfl
set_option maxRecDepth 20000 in
theorem wd_1736 : Cond.code yX11_like cX11_like (4 : Nat) (Option.some FieldType.int) ∈ lw_g := wd_c7 195 rfl rfl
set_option maxRecDepth 20000 in
theorem wd_1737 : Cond.methodLink RX11 365 yX11_likeOf ∈ lw_g := wd_c7 196 rfl rfl
set_option maxRecDepth 20000 in
theorem wd_1739 : Cond.instanceMethod yX11_likeOf ∈ lw_g := wd_c7 198 rfl rfl
set_option maxRecDepth 20000 in
theorem wd_1740 : Cond.code yX11_likeOf cX11_likeOf (6 : Nat) (Option.some FieldType.int) ∈ lw_g := wd_c7 199 rfl rfl
set_option maxRecDepth 20000 in
theorem wd_1741 : Cond.methodLink RL 75 yX11_rival ∈ lw_g := wd_c7 200 rfl rfl
set_option maxRecDepth 20000 in
theorem wd_1742 : Cond.instanceMethod yX11_rival ∈ lw_g := wd_c7 201 rfl rfl
set_option maxRecDepth 20000 in
theorem wd_1743 : Cond.selects RX11 yX11_rival yX11_rival ∈ lw_g := wd_c7 202 rfl rfl
set_option maxRecDepth 20000 in
theorem wd_1744 : Cond.code yX11_rival cX11_rival (3 : Nat) (Option.some FieldType.int) ∈ lw_g := wd_c7 203 rfl rfl
set_option maxRecDepth 20000 in
theorem wd_1745 : Cond.methodLink RX11 368 yX11_isNoted ∈ lw_g := wd_c7 204 rfl rfl
set_option maxRecDepth 20000 in
theorem wd_1747 : Cond.instanceMethod yX11_isNoted ∈ lw_g := wd_c7 206 rfl rfl
set_option maxRecDepth 20000 in
theorem wd_1748 : Cond.code yX11_isNoted cX11_isNoted (2 : Nat) (Option.some FieldType.boolean) ∈ lw_g := wd_c7 207 rfl rfl
set_option maxRecDepth 20000 in
theorem wd_1749 : Cond.methodLink RL 31 yX11_rules ∈ lw_g := wd_c7 208 rfl rfl
set_option maxRecDepth 20000 in
theorem wd_1750 : Cond.instanceMethod yX11_rules ∈ lw_g := wd_c7 209 rfl rfl
set_option maxRecDepth 20000 in
theorem wd_1751 : Cond.selects RX11 yX11_rules yX11_rules ∈ lw_g := wd_c7 210 rfl rfl
set_option maxRecDepth 20000 in
theorem wd_1752 : Cond.code yX11_rules cX11_rules (3 : Nat) (Option.some FieldType.int) ∈ lw_g := wd_c7 211 rfl rfl
set_option maxRecDepth 20000 in
theorem wd_1753 : Cond.methodLink RX11 371 yX11_isDay ∈ lw_g := wd_c7 212 rfl rfl
set_option maxRecDepth 20000 in
theorem wd_1754 : Cond.static yX11_isDay ∈ lw_g := wd_c7 213 rfl rfl
set_option maxRecDepth 20000 in
theorem wd_1755 : Cond.code yX11_isDay cX11_isDay (1 : Nat) (Option.some FieldType.boolean) ∈ lw_g := wd_c7 214 rfl rfl
set_option maxRecDepth 20000 in
theorem wd_1756 : Cond.methodLink RX11 383 yX11_readRule ∈ lw_g := wd_c7 215 rfl rfl
set_option maxRecDepth 20000 in
theorem wd_1758 : Cond.instanceMethod yX11_readRule ∈ lw_g := wd_c7 217 rfl rfl
set_option maxRecDepth 20000 in
theorem wd_1759 : Cond.code yX11_readRule cX11_readRule (2 : Nat) (Option.none : Option FieldType) ∈ lw_g := wd_c7 218 rfl rfl
set_option maxRecDepth 20000 in
theorem wd_1760 : Cond.methodLink RX11 386 yX11_e ∈ lw_g := wd_c7 219 rfl rfl
set_option maxRecDepth 20000 in
theorem wd_1762 : Cond.instanceMethod yX11_e ∈ lw_g := wd_c7 221 rfl rfl
set_option maxRecDepth 20000 in
theorem wd_1763 : Cond.code yX11_e cX11_e (2 : Nat) (Option.none : Option FieldType) ∈ lw_g := wd_c7 222 rfl rfl
set_option maxRecDepth 20000 in
theorem wd_1764 : Cond.methodLink RX11 395 yX11_put ∈ lw_g := wd_c7 223 rfl rfl
set_option maxRecDepth 20000 in
theorem wd_1766 : Cond.instanceMethod yX11_put ∈ lw_g := wd_c7 225 rfl rfl
set_option maxRecDepth 20000 in
theorem wd_1767 : Cond.code yX11_put cX11_put (3 : Nat) (Option.none : Option FieldType) ∈ lw_g := wd_c7 226 rfl rfl
set_option maxRecDepth 20000 in
theorem wd_1768 : Cond.methodLink RX11 398 yX11_unit ∈ lw_g := wd_c7 227 rfl rfl
set_option maxRecDepth 20000 in
theorem wd_1770 : Cond.instanceMethod yX11_unit ∈ lw_g := wd_c7 229 rfl rfl
set_option maxRecDepth 20000 in
theorem wd_1771 : Cond.code yX11_unit cX11_unit (6 : Nat) (Option.some FieldType.boolean) ∈ lw_g := wd_c7 230 rfl rfl
set_option maxRecDepth 20000 in
theorem wd_1772 : Cond.methodLink RX11 404 yX11_wordHere ∈ lw_g := wd_c7 231 rfl rfl
set_option maxRecDepth 20000 in
theorem wd_1774 : Cond.instanceMethod yX11_wordHere ∈ lw_g := wd_c7 233 rfl rfl
set_option maxRecDepth 20000 in
theorem wd_1775 : Cond.code yX11_wordHere cX11_wordHere (1 : Nat) (Option.some FieldType.int) ∈ lw_g := wd_c7 234 rfl rfl
set_option maxRecDepth 20000 in
theorem wd_1776 : Cond.methodLink RX11 407 yX11_sign0 ∈ lw_g := wd_c7 235 rfl rfl
set_option maxRecDepth 20000 in
theorem wd_1778 : Cond.instanceMethod yX11_sign0 ∈ lw_g := wd_c7 237 rfl rfl
set_option maxRecDepth 20000 in
theorem wd_1779 : Cond.code yX11_sign0 cX11_sign0 (3 : Nat) (Option.none : Option FieldType) ∈ lw_g := wd_c7 238 rfl rfl
set_option maxRecDepth 20000 in
theorem wd_1780 : Cond.methodLink RX11 401 yX11_behind ∈ lw_g := wd_c7 239 rfl rfl
set_option maxRecDepth 20000 in
theorem wd_1782 : Cond.instanceMethod yX11_behind ∈ lw_g := wd_c8 1 rfl rfl
set_option maxRecDepth 20000 in
theorem wd_1783 : Cond.code yX11_behind cX11_behind (2 : Nat) (Option.some FieldType.boolean) ∈ lw_g := wd_c8 2 rfl rfl
set_option maxRecDepth 20000 in
theorem wd_1784 : Cond.methodLink RX11 410 yX11_rankHere ∈ lw_g := wd_c8 3 rfl rfl
set_option maxRecDepth 20000 in
theorem wd_1786 : Cond.instanceMethod yX11_rankHere ∈ lw_g := wd_c8 5 rfl rfl
set_option maxRecDepth 20000 in
theorem wd_1787 : Cond.code yX11_rankHere cX11_rankHere (1 : Nat) (Option.some FieldType.int) ∈ lw_g := wd_c8 6 rfl rfl
set_option maxRecDepth 20000 in
theorem wd_1788 : Cond.methodLink RX11 413 yX11_isCompared ∈ lw_g := wd_c8 7 rfl rfl
set_option maxRecDepth 20000 in
theorem wd_1790 : Cond.instanceMethod yX11_isCompared ∈ lw_g := wd_c8 9 rfl rfl
set_option maxRecDepth 20000 in
theorem wd_1791 : Cond.code yX11_isCompared cX11_isCompared (2 : Nat) (Option.some FieldType.boolean) ∈ lw_g := wd_c8 10 rfl rfl
set_option maxRecDepth 20000 in
theorem wd_1792 : Cond.methodLink RL 79 yX11_body ∈ lw_g := wd_c8 11 rfl rfl
set_option maxRecDepth 20000 in
theorem wd_1793 : Cond.instanceMethod yX11_body ∈ lw_g := wd_c8 12 rfl rfl
set_option maxRecDepth 20000 in
theorem wd_1794 : Cond.selects RX11 yX11_body yX11_body ∈ lw_g := wd_c8 13 rfl rfl
set_option maxRecDepth 20000 in
theorem wd_1795 : Cond.code yX11_body cX11_body (1 : Nat) (Option.some FieldType.int) ∈ lw_g := wd_c8 14 rfl rfl
set_option maxRecDepth 20000 in
theorem wd_1796 : Cond.methodLink RL 83 yX11_knows ∈ lw_g := wd_c8 15 rfl rfl
set_option maxRecDepth 20000 in
theorem wd_1797 : Cond.instanceMethod yX11_knows ∈ lw_g := wd_c8 16 rfl rfl
set_option maxRecDepth 20000 in
theorem wd_1798 : Cond.selects RX11 yX11_knows yX11_knows ∈ lw_g := wd_c8 17 rfl rfl
set_option maxRecDepth 20000 in
theorem wd_1799 : Cond.code yX11_knows cX11_knows (4 : Nat) (Option.some FieldType.int) ∈ lw_g := wd_c8 18 rfl rfl
set_option maxRecDepth 20000 in
theorem wd_1800 : Cond.methodLink RX11 422 yX11_isBody ∈ lw_g := wd_c8 19 rfl rfl
set_option maxRecDepth 20000 in
theorem wd_1802 : Cond.instanceMethod yX11_isBody ∈ lw_g := wd_c8 21 rfl rfl
set_option maxRecDepth 20000 in
theorem wd_1803 : Cond.code yX11_isBody cX11_isBody (2 : Nat) (Option.some FieldType.boolean) ∈ lw_g := wd_c8 22 rfl rfl
set_option maxRecDepth 20000 in
theorem wd_1804 : Cond.methodLink RX11 425 yX11_tell ∈ lw_g := wd_c8 23 rfl rfl
set_option maxRecDepth 20000 in
theorem wd_1806 : Cond.instanceMethod yX11_tell ∈ lw_g := wd_c8 25 rfl rfl
set_option maxRecDepth 20000 in
theorem wd_1807 : Cond.code yX11_tell cX11_tell (5 : Nat) (Option.some FieldType.int) ∈ lw_g := wd_c8 26 rfl rfl
set_option maxRecDepth 20000 in
theorem wd_1808 : Cond.methodLink RL 87 yX11_danced ∈ lw_g := wd_c8 27 rfl rfl
set_option maxRecDepth 20000 in
theorem wd_1809 : Cond.instanceMethod yX11_danced ∈ lw_g := wd_c8 28 rfl rfl
set_option maxRecDepth 20000 in
theorem wd_1810 : Cond.selects RX11 yX11_danced yX11_danced ∈ lw_g := wd_c8 29 rfl rfl
set_option maxRecDepth 20000 in
theorem wd_1811 : Cond.code yX11_danced cX11_danced (4 : Nat) (Option.some FieldType.int) ∈ lw_g := wd_c8 30 rfl rfl
set_option maxRecDepth 20000 in
theorem wd_1812 : Cond.methodLink RL 91 yX11_out ∈ lw_g := wd_c8 31 rfl rfl
set_option maxRecDepth 20000 in
theorem wd_1813 : Cond.instanceMethod yX11_out ∈ lw_g := wd_c8 32 rfl rfl
set_option maxRecDepth 20000 in
theorem wd_1814 : Cond.selects RX11 yX11_out yX11_out ∈ lw_g := wd_c8 33 rfl rfl
set_option maxRecDepth 20000 in
theorem wd_1815 : Cond.code yX11_out cX11_out (4 : Nat) (Option.some FieldType.int) ∈ lw_g := wd_c8 34 rfl rfl
set_option maxRecDepth 20000 in
theorem wd_1816 : Cond.methodLink RL 95 yX11_leaves ∈ lw_g := wd_c8 35 rfl rfl
set_option maxRecDepth 20000 in
theorem wd_1817 : Cond.instanceMethod yX11_leaves ∈ lw_g := wd_c8 36 rfl rfl
set_option maxRecDepth 20000 in
theorem wd_1818 : Cond.selects RX11 yX11_leaves yX11_leaves ∈ lw_g := wd_c8 37 rfl rfl
set_option maxRecDepth 20000 in
theorem wd_1819 : Cond.code yX11_leaves cX11_leaves (3 : Nat) (Option.some FieldType.int) ∈ lw_g := wd_c8 38 rfl rfl
set_option maxRecDepth 20000 in
theorem wd_1820 : Cond.methodLink RL 99 yX11_film ∈ lw_g := wd_c8 39 rfl rfl
set_option maxRecDepth 20000 in
theorem wd_1821 : Cond.instanceMethod yX11_film ∈ lw_g := wd_c8 40 rfl rfl
set_option maxRecDepth 20000 in
theorem wd_1822 : Cond.selects RX11 yX11_film yX11_film ∈ lw_g := wd_c8 41 rfl rfl
set_option maxRecDepth 20000 in
theorem wd_1823 : Cond.code yX11_film cX11_film (4 : Nat) (Option.some FieldType.int) ∈ lw_g := wd_c8 42 rfl rfl
set_option maxRecDepth 20000 in
theorem wd_1824 : Cond.methodLink RL 104 yX11_untell ∈ lw_g := wd_c8 43 rfl rfl
set_option maxRecDepth 20000 in
theorem wd_1825 : Cond.instanceMethod yX11_untell ∈ lw_g := wd_c8 44 rfl rfl
set_option maxRecDepth 20000 in
theorem wd_1826 : Cond.selects RX11 yX11_untell yX11_untell ∈ lw_g := wd_c8 45 rfl rfl
set_option maxRecDepth 20000 in
theorem wd_1827 : Cond.code yX11_untell cX11_untell (2 : Nat) (Option.some FieldType.boolean) ∈ lw_g := wd_c8 46 rfl rfl
set_option maxRecDepth 20000 in
theorem wd_1828 : Cond.methodLink RL 108 yX11_later ∈ lw_g := wd_c8 47 rfl rfl
set_option maxRecDepth 20000 in
theorem wd_1829 : Cond.instanceMethod yX11_later ∈ lw_g := wd_c8 48 rfl rfl
set_option maxRecDepth 20000 in
theorem wd_1830 : Cond.selects RX11 yX11_later yX11_later ∈ lw_g := wd_c8 49 rfl rfl
set_option maxRecDepth 20000 in
theorem wd_1831 : Cond.code yX11_later cX11_later (2 : Nat) (Option.some FieldType.int) ∈ lw_g := wd_c8 50 rfl rfl
set_option maxRecDepth 20000 in
theorem wd_1832 : Cond.constant RX11 429 (Int32.ofInt (100000)) ∈ lw_g := wd_c8 51 rfl rfl
set_option maxRecDepth 20000 in
theorem wd_1833 : Cond.methodLink RL 112 yX11_borne ∈ lw_g := wd_c8 52 rfl rfl
set_option maxRecDepth 20000 in
theorem wd_1834 : Cond.instanceMethod yX11_borne ∈ lw_g := wd_c8 53 rfl rfl
set_option maxRecDepth 20000 in
theorem wd_1835 : Cond.selects RX11 yX11_borne yX11_borne ∈ lw_g := wd_c8 54 rfl rfl
set_option maxRecDepth 20000 in
theorem wd_1836 : Cond.code yX11_borne cX11_borne (6 : Nat) (Option.some FieldType.int) ∈ lw_g := wd_c8 55 rfl rfl
set_option maxRecDepth 20000 in
theorem wd_1837 : Cond.methodLink RX11 430 yX11_isFact ∈ lw_g := wd_c8 56 rfl rfl
set_option maxRecDepth 20000 in
theorem wd_1839 : Cond.instanceMethod yX11_isFact ∈ lw_g := wd_c8 58 rfl rfl
set_option maxRecDepth 20000 in
theorem wd_1840 : Cond.code yX11_isFact cX11_isFact (5 : Nat) (Option.some FieldType.boolean) ∈ lw_g := wd_c8 59 rfl rfl
set_option maxRecDepth 20000 in
theorem wd_1841 : Cond.methodLink RL 116 yX11_asked ∈ lw_g := wd_c8 60 rfl rfl
set_option maxRecDepth 20000 in
theorem wd_1842 : Cond.instanceMethod yX11_asked ∈ lw_g := wd_c8 61 rfl rfl
set_option maxRecDepth 20000 in
theorem wd_1843 : Cond.selects RX11 yX11_asked yX11_asked ∈ lw_g := wd_c8 62 rfl rfl
set_option maxRecDepth 20000 in
theorem wd_1844 : Cond.code yX11_asked cX11_asked (6 : Nat) (Option.some FieldType.int) ∈ lw_g := wd_c8 63 rfl rfl
set_option maxRecDepth 20000 in
theorem wd_1845 : Cond.methodLink RX11 455 yX11_ask ∈ lw_g := wd_c8 64 rfl rfl
set_option maxRecDepth 20000 in
theorem wd_1847 : Cond.instanceMethod yX11_ask ∈ lw_g := wd_c8 66 rfl rfl
set_option maxRecDepth 20000 in
theorem wd_1848 : Cond.code yX11_ask cX11_ask (8 : Nat) (Option.none : Option FieldType) ∈ lw_g := wd_c8 67 rfl rfl
set_option maxRecDepth 20000 in
theorem wd_1849 : Cond.methodLink RL 120 yX11_can ∈ lw_g := wd_c8 68 rfl rfl
set_option maxRecDepth 20000 in
theorem wd_1850 : Cond.instanceMethod yX11_can ∈ lw_g := wd_c8 69 rfl rfl
set_option maxRecDepth 20000 in
theorem wd_1851 : Cond.selects RX11 yX11_can yX11_can ∈ lw_g := wd_c8 70 rfl rfl
set_option maxRecDepth 20000 in
theorem wd_1852 : Cond.code yX11_can cX11_can (5 : Nat) (Option.some FieldType.int) ∈ lw_g := wd_c8 71 rfl rfl
set_option maxRecDepth 20000 in
theorem wd_1853 : Cond.methodLink RX11 480 yX11_canBe ∈ lw_g := wd_c8 72 rfl rfl
set_option maxRecDepth 20000 in
theorem wd_1855 : Cond.instanceMethod yX11_canBe ∈ lw_g := wd_c8 74 rfl rfl
set_option maxRecDepth 20000 in
theorem wd_1856 : Cond.code yX11_canBe cX11_canBe (5 : Nat) (Option.some FieldType.boolean) ∈ lw_g := wd_c8 75 rfl rfl
set_option maxRecDepth 20000 in
theorem wd_1857 : Cond.methodLink RX11 468 yX11_knowsIt ∈ lw_g := wd_c8 76 rfl rfl
set_option maxRecDepth 20000 in
theorem wd_1859 : Cond.instanceMethod yX11_knowsIt ∈ lw_g := wd_c8 78 rfl rfl
set_option maxRecDepth 20000 in
theorem wd_1860 : Cond.code yX11_knowsIt cX11_knowsIt (6 : Nat) (Option.some FieldType.boolean) ∈ lw_g := wd_c8 79 rfl rfl
set_option maxRecDepth 20000 in
theorem wd_1861 : Cond.methodLink RX11 471 yX11_isOut ∈ lw_g := wd_c8 80 rfl rfl
set_option maxRecDepth 20000 in
theorem wd_1863 : Cond.instanceMethod yX11_isOut ∈ lw_g := wd_c8 82 rfl rfl
set_option maxRecDepth 20000 in
theorem wd_1864 : Cond.code yX11_isOut cX11_isOut (5 : Nat) (Option.some FieldType.boolean) ∈ lw_g := wd_c8 83 rfl rfl
set_option maxRecDepth 20000 in
theorem wd_1865 : Cond.methodLink RX11 474 yX11_isGone ∈ lw_g := wd_c8 84 rfl rfl
set_option maxRecDepth 20000 in
theorem wd_1867 : Cond.instanceMethod yX11_isGone ∈ lw_g := wd_c8 86 rfl rfl
set_option maxRecDepth 20000 in
theorem wd_1868 : Cond.code yX11_isGone cX11_isGone (5 : Nat) (Option.some FieldType.boolean) ∈ lw_g := wd_c8 87 rfl rfl
set_option maxRecDepth 20000 in
theorem wd_1869 : Cond.methodLink RX11 477 yX11_work ∈ lw_g := wd_c8 88 rfl rfl
set_option maxRecDepth 20000 in
theorem wd_1871 : Cond.instanceMethod yX11_work ∈ lw_g := wd_c8 90 rfl rfl
set_option maxRecDepth 20000 in
theorem wd_1872 : Cond.code yX11_work cX11_work (7 : Nat) (Option.some FieldType.int) ∈ lw_g := wd_c8 91 rfl rfl
set_option maxRecDepth 20000 in
theorem wd_1873 : Cond.methodLink RX11 459 yX11_inForce ∈ lw_g := wd_c8 92 rfl rfl
set_option maxRecDepth 20000 in
theorem wd_1875 : Cond.instanceMethod yX11_inForce ∈ lw_g := wd_c8 94 rfl rfl
set_option maxRecDepth 20000 in
theorem wd_1876 : Cond.code yX11_inForce cX11_inForce (4 : Nat) (Option.some FieldType.int) ∈ lw_g := wd_c8 95 rfl rfl
set_option maxRecDepth 20000 in
theorem wd_1877 : Cond.methodLink RX11 462 yX11_term ∈ lw_g := wd_c8 96 rfl rfl
set_option maxRecDepth 20000 in
theorem wd_1879 : Cond.instanceMethod yX11_term ∈ lw_g := wd_c8 98 rfl rfl
set_option maxRecDepth 20000 in
theorem wd_1880 : Cond.code yX11_term cX11_term (3 : Nat) (Option.some FieldType.int) ∈ lw_g := wd_c8 99 rfl rfl
set_option maxRecDepth 20000 in
theorem wd_1881 : Cond.methodLink RX11 465 yX11_two ∈ lw_g := wd_c8 100 rfl rfl
set_option maxRecDepth 20000 in
theorem wd_1882 : Cond.static yX11_two ∈ lw_g := wd_c8 101 rfl rfl
set_option maxRecDepth 20000 in
theorem wd_1883 : Cond.code yX11_two cX11_two (3 : Nat) (Option.some FieldType.int) ∈ lw_g := wd_c8 102 rfl rfl
set_option maxRecDepth 20000 in
theorem wd_1884 : Cond.methodLink RL 125 yX11_cost ∈ lw_g := wd_c8 103 rfl rfl
set_option maxRecDepth 20000 in
theorem wd_1885 : Cond.instanceMethod yX11_cost ∈ lw_g := wd_c8 104 rfl rfl
set_option maxRecDepth 20000 in
theorem wd_1886 : Cond.selects RX11 yX11_cost yX11_cost ∈ lw_g := wd_c8 105 rfl rfl
set_option maxRecDepth 20000 in
theorem wd_1887 : Cond.code yX11_cost cX11_cost (4 : Nat) (Option.some FieldType.long) ∈ lw_g := wd_c8 106 rfl rfl
set_option maxRecDepth 20000 in
theorem wd_1888 : Cond.methodLink RX11 501 yX11_hasCast ∈ lw_g := wd_c8 107 rfl rfl
set_option maxRecDepth 20000 in
theorem wd_1890 : Cond.instanceMethod yX11_hasCast ∈ lw_g := wd_c8 109 rfl rfl
set_option maxRecDepth 20000 in
theorem wd_1891 : Cond.code yX11_hasCast cX11_hasCast (4 : Nat) (Option.some FieldType.boolean) ∈ lw_g := wd_c8 110 rfl rfl
set_option maxRecDepth 20000 in
theorem wd_1892 : Cond.methodLink RX11 494 yX11_weigh ∈ lw_g := wd_c8 111 rfl rfl
set_option maxRecDepth 20000 in
theorem wd_1894 : Cond.instanceMethod yX11_weigh ∈ lw_g := wd_c8 113 rfl rfl
set_option maxRecDepth 20000 in
theorem wd_1895 : Cond.code yX11_weigh cX11_weigh (6 : Nat) (Option.none : Option FieldType) ∈ lw_g := wd_c8 114 rfl rfl
set_option maxRecDepth 20000 in
theorem wd_1896 : Cond.methodLink RX11 497 yX11_seekCast ∈ lw_g := wd_c8 115 rfl rfl
set_option maxRecDepth 20000 in
theorem wd_1898 : Cond.instanceMethod yX11_seekCast ∈ lw_g := wd_c8 117 rfl rfl
set_option maxRecDepth 20000 in
theorem wd_1899 : Cond.code yX11_seekCast cX11_seekCast (12 : Nat) (Option.some FieldType.boolean) ∈ lw_g := wd_c8 118 rfl rfl
set_option maxRecDepth 20000 in
theorem wd_1900 : Cond.constantLong RX11 486 (Int64.ofInt (1000000000000000)) ∈ lw_g := wd_c8 119 rfl rfl
set_option maxRecDepth 20000 in
theorem wd_1901 : Cond.constantLong RX11 504 (Int64.ofInt (-1000000000000)) ∈ lw_g := wd_c8 120 rfl rfl
set_option maxRecDepth 20000 in
theorem wd_1902 : Cond.methodLink RL 129 yX11_cast ∈ lw_g := wd_c8 121 rfl rfl
set_option maxRecDepth 20000 in
theorem wd_1903 : Cond.instanceMethod yX11_cast ∈ lw_g := wd_c8 122 rfl rfl
set_option maxRecDepth 20000 in
theorem wd_1904 : Cond.selects RX11 yX11_cast yX11_cast ∈ lw_g := wd_c8 123 rfl rfl
set_option maxRecDepth 20000 in
theorem wd_1905 : Cond.code yX11_cast cX11_cast (4 : Nat) (Option.some FieldType.int) ∈ lw_g := wd_c8 124 rfl rfl
set_option maxRecDepth 20000 in
theorem wd_1906 : Cond.methodLink RL 133 yX11_covers ∈ lw_g := wd_c8 125 rfl rfl
set_option maxRecDepth 20000 in
theorem wd_1907 : Cond.instanceMethod yX11_covers ∈ lw_g := wd_c8 126 rfl rfl
set_option maxRecDepth 20000 in
theorem wd_1908 : Cond.selects RX11 yX11_covers yX11_covers ∈ lw_g := wd_c8 127 rfl rfl
set_option maxRecDepth 20000 in
theorem wd_1909 : Cond.code yX11_covers cX11_covers (9 : Nat) (Option.some FieldType.int) ∈ lw_g := wd_c8 128 rfl rfl
set_option maxRecDepth 20000 in
theorem wd_1910 : Cond.methodLink RL 137 yX11_fall ∈ lw_g := wd_c8 129 rfl rfl
set_option maxRecDepth 20000 in
theorem wd_1911 : Cond.instanceMethod yX11_fall ∈ lw_g := wd_c8 130 rfl rfl
set_option maxRecDepth 20000 in
theorem wd_1912 : Cond.selects RX11 yX11_fall yX11_fall ∈ lw_g := wd_c8 131 rfl rfl
set_option maxRecDepth 20000 in
theorem wd_1913 : Cond.code yX11_fall cX11_fall (5 : Nat) (Option.some FieldType.int) ∈ lw_g := wd_c8 132 rfl rfl
set_option maxRecDepth 20000 in
theorem wd_1914 : Cond.methodLink RX11 506 yX11_falling ∈ lw_g := wd_c8 133 rfl rfl
set_option maxRecDepth 20000 in
theorem wd_1916 : Cond.instanceMethod yX11_falling ∈ lw_g := wd_c8 135 rfl rfl
set_option maxRecDepth 20000 in
theorem wd_1917 : Cond.code yX11_falling cX11_falling (6 : Nat) (Option.some FieldType.boolean) ∈ lw_g := wd_c8 136 rfl rfl
set_option maxRecDepth 20000 in
theorem wd_1918 : Cond.methodLink RL 141 yX11_falls ∈ lw_g := wd_c8 137 rfl rfl
set_option maxRecDepth 20000 in
theorem wd_1919 : Cond.instanceMethod yX11_falls ∈ lw_g := wd_c8 138 rfl rfl
set_option maxRecDepth 20000 in
theorem wd_1920 : Cond.selects RX11 yX11_falls yX11_falls ∈ lw_g := wd_c8 139 rfl rfl
set_option maxRecDepth 20000 in
theorem wd_1921 : Cond.code yX11_falls cX11_falls (5 : Nat) (Option.some FieldType.int) ∈ lw_g := wd_c8 140 rfl rfl
set_option maxRecDepth 20000 in
theorem wd_1922 : Cond.methodLink RL 145 yX11_learn ∈ lw_g := wd_c8 141 rfl rfl
set_option maxRecDepth 20000 in
theorem wd_1923 : Cond.instanceMethod yX11_learn ∈ lw_g := wd_c8 142 rfl rfl
set_option maxRecDepth 20000 in
theorem wd_1924 : Cond.selects RX11 yX11_learn yX11_learn ∈ lw_g := wd_c8 143 rfl rfl
set_option maxRecDepth 20000 in
theorem wd_1925 : Cond.code yX11_learn cX11_learn (9 : Nat) (Option.some FieldType.int) ∈ lw_g := wd_c8 144 rfl rfl
set_option maxRecDepth 20000 in
theorem wd_1926 : Cond.methodLink RL 149 yX11_rehearse ∈ lw_g := wd_c8 145 rfl rfl
set_option maxRecDepth 20000 in
theorem wd_1927 : Cond.instanceMethod yX11_rehearse ∈ lw_g := wd_c8 146 rfl rfl
set_option maxRecDepth 20000 in
theorem wd_1928 : Cond.selects RX11 yX11_rehearse yX11_rehearse ∈ lw_g := wd_c8 147 rfl rfl
set_option maxRecDepth 20000 in
theorem wd_1929 : Cond.code yX11_rehearse cX11_rehearse (3 : Nat) (Option.some FieldType.int) ∈ lw_g := wd_c8 148 rfl rfl
set_option maxRecDepth 20000 in
theorem wd_1930 : Cond.methodLink RL 153 yX11_rooms ∈ lw_g := wd_c8 149 rfl rfl
set_option maxRecDepth 20000 in
theorem wd_1931 : Cond.instanceMethod yX11_rooms ∈ lw_g := wd_c8 150 rfl rfl
set_option maxRecDepth 20000 in
theorem wd_1932 : Cond.selects RX11 yX11_rooms yX11_rooms ∈ lw_g := wd_c8 151 rfl rfl
set_option maxRecDepth 20000 in
theorem wd_1933 : Cond.code yX11_rooms cX11_rooms (2 : Nat) (Option.some FieldType.boolean) ∈ lw_g := wd_c8 152 rfl rfl
set_option maxRecDepth 20000 in
theorem wd_1934 : Cond.methodLink RL 157 yX11_week ∈ lw_g := wd_c8 153 rfl rfl
set_option maxRecDepth 20000 in
theorem wd_1935 : Cond.instanceMethod yX11_week ∈ lw_g := wd_c8 154 rfl rfl
set_option maxRecDepth 20000 in
theorem wd_1936 : Cond.selects RX11 yX11_week yX11_week ∈ lw_g := wd_c8 155 rfl rfl
set_option maxRecDepth 20000 in
theorem wd_1937 : Cond.code yX11_week cX11_week (5 : Nat) (Option.some FieldType.int) ∈ lw_g := wd_c8 156 rfl rfl
set_option maxRecDepth 20000 in
theorem wd_1938 : Cond.methodLink RX11 512 yX11_fits ∈ lw_g := wd_c8 157 rfl rfl
set_option maxRecDepth 20000 in
theorem wd_1940 : Cond.instanceMethod yX11_fits ∈ lw_g := wd_c8 159 rfl rfl
set_option maxRecDepth 20000 in
theorem wd_1941 : Cond.code yX11_fits cX11_fits (3 : Nat) (Option.some FieldType.boolean) ∈ lw_g := wd_c8 160 rfl rfl
set_option maxRecDepth 20000 in
theorem wd_1942 : Cond.methodLink RL 161 yX11_hour ∈ lw_g := wd_c8 161 rfl rfl
set_option maxRecDepth 20000 in
theorem wd_1943 : Cond.instanceMethod yX11_hour ∈ lw_g := wd_c8 162 rfl rfl
set_option maxRecDepth 20000 in
theorem wd_1944 : Cond.selects RX11 yX11_hour yX11_hour ∈ lw_g := wd_c8 163 rfl rfl
set_option maxRecDepth 20000 in
theorem wd_1945 : Cond.code yX11_hour cX11_hour (4 : Nat) (Option.some FieldType.int) ∈ lw_g := wd_c8 164 rfl rfl
set_option maxRecDepth 20000 in
theorem wd_1946 : Cond.methodLink RX11 515 yX11_week ∈ lw_g := wd_c8 165 rfl rfl
set_option maxRecDepth 20000 in
theorem wd_1947 : Cond.methodLink RL 165 yX11_live ∈ lw_g := wd_c8 166 rfl rfl
set_option maxRecDepth 20000 in
theorem wd_1948 : Cond.instanceMethod yX11_live ∈ lw_g := wd_c8 167 rfl rfl
set_option maxRecDepth 20000 in
theorem wd_1949 : Cond.selects RX11 yX11_live yX11_live ∈ lw_g := wd_c8 168 rfl rfl
set_option maxRecDepth 20000 in
theorem wd_1950 : Cond.code yX11_live cX11_live (4 : Nat) (Option.some FieldType.int) ∈ lw_g := wd_c8 169 rfl rfl
set_option maxRecDepth 20000 in
theorem wd_1951 : Cond.methodLink RX11 518 yX11_keptOn ∈ lw_g := wd_c8 170 rfl rfl
set_option maxRecDepth 20000 in
theorem wd_1953 : Cond.instanceMethod yX11_keptOn ∈ lw_g := wd_c8 172 rfl rfl
set_option maxRecDepth 20000 in
theorem wd_1954 : Cond.code yX11_keptOn cX11_keptOn (7 : Nat) (Option.some FieldType.int) ∈ lw_g := wd_c8 173 rfl rfl
set_option maxRecDepth 20000 in
theorem wd_1955 : Cond.methodLink RX11 521 yX11_livesBy ∈ lw_g := wd_c8 174 rfl rfl
set_option maxRecDepth 20000 in
theorem wd_1957 : Cond.instanceMethod yX11_livesBy ∈ lw_g := wd_c8 176 rfl rfl
set_option maxRecDepth 20000 in
theorem wd_1958 : Cond.code yX11_livesBy cX11_livesBy (7 : Nat) (Option.some FieldType.int) ∈ lw_g := wd_c8 177 rfl rfl
set_option maxRecDepth 20000 in
theorem wd_1959 : Cond.methodLink RL 169 yX11_note ∈ lw_g := wd_c8 178 rfl rfl
set_option maxRecDepth 20000 in
theorem wd_1960 : Cond.instanceMethod yX11_note ∈ lw_g := wd_c8 179 rfl rfl
set_option maxRecDepth 20000 in
theorem wd_1961 : Cond.selects RX11 yX11_note yX11_note ∈ lw_g := wd_c8 180 rfl rfl
set_option maxRecDepth 20000 in
theorem wd_1962 : Cond.code yX11_note cX11_note (9 : Nat) (Option.some FieldType.int) ∈ lw_g := wd_c8 181 rfl rfl
set_option maxRecDepth 20000 in
theorem wd_1963 : Cond.methodLink RX11 524 yX11_bitsOf ∈ lw_g := wd_c8 182 rfl rfl
set_option maxRecDepth 20000 in
theorem wd_1964 : Cond.static yX11_bitsOf ∈ lw_g := wd_c8 183 rfl rfl
set_option maxRecDepth 20000 in
theorem wd_1965 : Cond.code yX11_bitsOf cX11_bitsOf (3 : Nat) (Option.some FieldType.int) ∈ lw_g := wd_c8 184 rfl rfl
set_option maxRecDepth 20000 in
theorem wd_1966 : Cond.methodLink RL 173 yX11_about ∈ lw_g := wd_c8 185 rfl rfl
set_option maxRecDepth 20000 in
theorem wd_1967 : Cond.instanceMethod yX11_about ∈ lw_g := wd_c8 186 rfl rfl
set_option maxRecDepth 20000 in
theorem wd_1968 : Cond.selects RX11 yX11_about yX11_about ∈ lw_g := wd_c8 187 rfl rfl
set_option maxRecDepth 20000 in
theorem wd_1969 : Cond.code yX11_about cX11_about (2 : Nat) (Option.some FieldType.int) ∈ lw_g := wd_c8 188 rfl rfl
set_option maxRecDepth 20000 in
theorem wd_1970 : Cond.methodLink RL 17 yX11_feed ∈ lw_g := wd_c8 189 rfl rfl
set_option maxRecDepth 20000 in
theorem wd_1971 : Cond.instanceMethod yX11_feed ∈ lw_g := wd_c8 190 rfl rfl
set_option maxRecDepth 20000 in
theorem wd_1972 : Cond.selects RX11 yX11_feed yX11_feed ∈ lw_g := wd_c8 191 rfl rfl
set_option maxRecDepth 20000 in
theorem wd_1973 : Cond.code yX11_feed cX11_feed (8 : Nat) (Option.some FieldType.int) ∈ lw_g := wd_c8 192 rfl rfl
set_option maxRecDepth 20000 in
theorem wd_1974 : Cond.methodLink RL 22 yX11_end ∈ lw_g := wd_c8 193 rfl rfl
set_option maxRecDepth 20000 in
theorem wd_1975 : Cond.instanceMethod yX11_end ∈ lw_g := wd_c8 194 rfl rfl
set_option maxRecDepth 20000 in
theorem wd_1976 : Cond.selects RX11 yX11_end yX11_end ∈ lw_g := wd_c8 195 rfl rfl
set_option maxRecDepth 20000 in
theorem wd_1977 : Cond.code yX11_end cX11_end (2 : Nat) (Option.some FieldType.int) ∈ lw_g := wd_c8 196 rfl rfl
set_option maxRecDepth 20000 in
theorem wd_1978 : Cond.fieldLink RJ0 9 "java/lang/String" "value" "[B" ∈ lw_g := wd_c8 197 rfl rfl
set_option maxRecDepth 20000 in
theorem wd_1979 : Cond.fieldLink RJ0 15 "java/lang/String" "coder" "B" ∈ lw_g := wd_c8 198 rfl rfl
