theorem tb_1 {w : Cond} (h : w ∈ tables_1_1) : w ∈ lw_tbl := List.mem_append_right _ (List.mem_append_left _ h)
theorem tb_2 {w : Cond} (h : w ∈ tables_1_2) : w ∈ lw_tbl := List.mem_append_right _ (List.mem_append_right _ (List.mem_append_left _ h))
theorem tb_3 {w : Cond} (h : w ∈ tables_1_3) : w ∈ lw_tbl := List.mem_append_right _ (List.mem_append_right _ (List.mem_append_right _ (List.mem_append_left _ h)))
theorem tb_4 {w : Cond} (h : w ∈ tables_1_4) : w ∈ lw_tbl := List.mem_append_right _ (List.mem_append_right _ (List.mem_append_right _ (List.mem_append_right _ (List.mem_append_left _ h))))
theorem tb_5 {w : Cond} (h : w ∈ tables_1_5) : w ∈ lw_tbl := List.mem_append_right _ (List.mem_append_right _ (List.mem_append_right _ (List.mem_append_right _ (List.mem_append_right _ (List.mem_append_left _ h)))))
theorem tb_6 {w : Cond} (h : w ∈ tables_1_6) : w ∈ lw_tbl := List.mem_append_right _ (List.mem_append_right _ (List.mem_append_right _ (List.mem_append_right _ (List.mem_append_right _ (List.mem_append_right _ (List.mem_append_left _ h))))))
theorem tb_7 {w : Cond} (h : w ∈ tables_1_7) : w ∈ lw_tbl := List.mem_append_right _ (List.mem_append_right _ (List.mem_append_right _ (List.mem_append_right _ (List.mem_append_right _ (List.mem_append_right _ (List.mem_append_right _ (h)))))))
set_option maxRecDepth 100000 in
theorem k_0 : Cond.selects "TwinTables$State" yX6_isWorkedWithin yX6_isWorkedWithin ∈ Tw := tw_of (List.mem_of_getElem? (i := 0) rfl) rfl
set_option maxRecDepth 100000 in
theorem k_1 : Cond.selects "TwinTables$Tape" yX7_forward yX7_forward ∈ Tw := tw_of (List.mem_of_getElem? (i := 1) rfl) rfl
set_option maxRecDepth 100000 in
theorem k_2 : Cond.selects "TwinTables$Tape" yX7_sortAt yX7_sortAt ∈ Tw := tw_of (List.mem_of_getElem? (i := 2) rfl) rfl
set_option maxRecDepth 100000 in
theorem k_3 : Cond.selects "TwinTables$Tape" yX7_readHead yX7_readHead ∈ Tw := tw_of (List.mem_of_getElem? (i := 3) rfl) rfl
set_option maxRecDepth 100000 in
theorem k_4 : Cond.selects "TwinTables$Tape" yX7_keyHere yX7_keyHere ∈ Tw := tw_of (List.mem_of_getElem? (i := 4) rfl) rfl
set_option maxRecDepth 100000 in
theorem k_5 : Cond.selects "TwinTables$Tape" yX7_isWordHere yX7_isWordHere ∈ Tw := tw_of (List.mem_of_getElem? (i := 5) rfl) rfl
set_option maxRecDepth 100000 in
theorem k_6 : Cond.selects "TwinTables$Tape" yX7_isNumberHere yX7_isNumberHere ∈ Tw := tw_of (List.mem_of_getElem? (i := 6) rfl) rfl
set_option maxRecDepth 100000 in
theorem k_7 : Cond.selects "TwinTables$Tape" yX7_numberHere yX7_numberHere ∈ Tw := tw_of (List.mem_of_getElem? (i := 7) rfl) rfl
set_option maxRecDepth 100000 in
theorem k_8 : Cond.selects "TwinTables$Tape" yX7_readLevel yX7_readLevel ∈ Tw := tw_of (List.mem_of_getElem? (i := 8) rfl) rfl
set_option maxRecDepth 100000 in
theorem k_9 : Cond.selects "TwinTables$Tape" yX7_readPiece yX7_readPiece ∈ Tw := tw_of (List.mem_of_getElem? (i := 9) rfl) rfl
set_option maxRecDepth 100000 in
theorem k_10 : Cond.selects "TwinTables$Tape" yX7_signHere yX7_signHere ∈ Tw := tw_of (List.mem_of_getElem? (i := 10) rfl) rfl
set_option maxRecDepth 100000 in
theorem k_11 : Cond.selects "TwinTables$Tape" yX7_put yX7_put ∈ Tw := tw_of (List.mem_of_getElem? (i := 11) rfl) rfl
set_option maxRecDepth 100000 in
theorem k_12 : Cond.selects "TwinTables$Tape" yX7_readClosing yX7_readClosing ∈ Tw := tw_of (List.mem_of_getElem? (i := 12) rfl) rfl
set_option maxRecDepth 100000 in
theorem k_13 : Cond.selects "TwinTables$Tape" yX7_readLeaf yX7_readLeaf ∈ Tw := tw_of (List.mem_of_getElem? (i := 13) rfl) rfl
set_option maxRecDepth 100000 in
theorem k_14 : Cond.selects "TwinTables$Tape" yX7_nameHere yX7_nameHere ∈ Tw := tw_of (List.mem_of_getElem? (i := 14) rfl) rfl
set_option maxRecDepth 100000 in
theorem k_15 : Cond.selects "TwinTables$Life" yX2_goOneRoadOn yX2_goOneRoadOn ∈ Tw := tw_of (List.mem_of_getElem? (i := 15) rfl) rfl
set_option maxRecDepth 100000 in
theorem k_16 : Cond.selects "TwinTables$Life" yX2_canGo yX2_canGo ∈ Tw := tw_of (List.mem_of_getElem? (i := 16) rfl) rfl
set_option maxRecDepth 100000 in
theorem k_17 : Cond.selects "TwinTables$Leaning" yX1_mostLeft yX1_mostLeft ∈ Tw := tw_of (List.mem_of_getElem? (i := 17) rfl) rfl
set_option maxRecDepth 100000 in
theorem k_18 : Cond.selects "TwinTables$State" yX6_draw yX6_draw ∈ Tw := tw_of (List.mem_of_getElem? (i := 18) rfl) rfl
set_option maxRecDepth 100000 in
theorem k_19 : Cond.selects "TwinTablesModel" yX10_isTable yX10_isTable ∈ Tw := tw_of (List.mem_of_getElem? (i := 19) rfl) rfl
set_option maxRecDepth 100000 in
theorem k_20 : Cond.selects "TwinTablesModel" yX10_isFigure yX10_isFigure ∈ Tw := tw_of (List.mem_of_getElem? (i := 20) rfl) rfl
set_option maxRecDepth 100000 in
theorem k_21 : Cond.selects "TwinTablesModel" yX10_figureAt yX10_figureAt ∈ Tw := tw_of (List.mem_of_getElem? (i := 21) rfl) rfl
set_option maxRecDepth 100000 in
theorem k_22 : Cond.selects "TwinTablesModel" yX10_newFigure yX10_newFigure ∈ Tw := tw_of (List.mem_of_getElem? (i := 22) rfl) rfl
set_option maxRecDepth 100000 in
theorem k_23 : Cond.selects "TwinTablesModel" yX10_fits yX10_fits ∈ Tw := tw_of (List.mem_of_getElem? (i := 23) rfl) rfl
set_option maxRecDepth 100000 in
theorem k_24 : Cond.selects "TwinTablesModel" yX10_counts yX10_counts ∈ Tw := tw_of (List.mem_of_getElem? (i := 24) rfl) rfl
set_option maxRecDepth 100000 in
theorem k_25 : Cond.selects "TwinTablesModel" yX10_textAt yX10_textAt ∈ Tw := tw_of (List.mem_of_getElem? (i := 25) rfl) rfl
set_option maxRecDepth 100000 in
theorem k_26 : Cond.selects "TwinTablesModel" yX10_spreadOf yX10_spreadOf ∈ Tw := tw_of (List.mem_of_getElem? (i := 26) rfl) rfl
set_option maxRecDepth 100000 in
theorem k_27 : Cond.selects "TwinTablesModel" yX10_yearOf yX10_yearOf ∈ Tw := tw_of (List.mem_of_getElem? (i := 27) rfl) rfl
set_option maxRecDepth 100000 in
theorem k_28 : Cond.selects "TwinTablesModel" yX10_spreadFor yX10_spreadFor ∈ Tw := tw_of (List.mem_of_getElem? (i := 28) rfl) rfl
set_option maxRecDepth 100000 in
theorem k_29 : Cond.selects "TwinTablesModel" yX10_worked yX10_worked ∈ Tw := tw_of (List.mem_of_getElem? (i := 29) rfl) rfl
set_option maxRecDepth 100000 in
theorem k_30 : Cond.selects "TwinTablesModel" yX10_workedOf yX10_workedOf ∈ Tw := tw_of (List.mem_of_getElem? (i := 30) rfl) rfl
set_option maxRecDepth 100000 in
theorem k_31 : Cond.selects "TwinTablesModel" yX10_becomes yX10_becomes ∈ Tw := tw_of (List.mem_of_getElem? (i := 31) rfl) rfl
set_option maxRecDepth 100000 in
theorem k_32 : Cond.selects "TwinTablesModel" yX10_parse yX10_parse ∈ Tw := tw_of (List.mem_of_getElem? (i := 32) rfl) rfl
set_option maxRecDepth 100000 in
theorem k_33 : Cond.selects "TwinTablesModel" yX10_goesOn yX10_goesOn ∈ Tw := tw_of (List.mem_of_getElem? (i := 33) rfl) rfl
set_option maxRecDepth 100000 in
theorem k_34 : Cond.selects "TwinTablesModel" yX10_isLetter yX10_isLetter ∈ Tw := tw_of (List.mem_of_getElem? (i := 34) rfl) rfl
set_option maxRecDepth 100000 in
theorem k_35 : Cond.selects "TwinTablesModel" yX10_isDigit yX10_isDigit ∈ Tw := tw_of (List.mem_of_getElem? (i := 35) rfl) rfl
set_option maxRecDepth 100000 in
theorem k_36 : Cond.selects "TwinTablesModel" yX10_key yX10_key ∈ Tw := tw_of (List.mem_of_getElem? (i := 36) rfl) rfl
set_option maxRecDepth 100000 in
theorem k_37 : Cond.selects "TwinTablesModel" yX10_isLong yX10_isLong ∈ Tw := tw_of (List.mem_of_getElem? (i := 37) rfl) rfl
set_option maxRecDepth 100000 in
theorem k_38 : Cond.selects "TwinTablesModel" yX10_isWordAt yX10_isWordAt ∈ Tw := tw_of (List.mem_of_getElem? (i := 38) rfl) rfl
set_option maxRecDepth 100000 in
theorem k_39 : Cond.selects "TwinTablesModel" yX10_isWorking yX10_isWorking ∈ Tw := tw_of (List.mem_of_getElem? (i := 39) rfl) rfl
set_option maxRecDepth 100000 in
theorem k_40 : Cond.selects "TwinTablesModel" yX10_either yX10_either ∈ Tw := tw_of (List.mem_of_getElem? (i := 40) rfl) rfl
set_option maxRecDepth 100000 in
theorem k_41 : Cond.selects "TwinTablesModel" yX10_both yX10_both ∈ Tw := tw_of (List.mem_of_getElem? (i := 41) rfl) rfl
set_option maxRecDepth 100000 in
theorem k_42 : Cond.selects "TwinTablesModel" yX10_test yX10_test ∈ Tw := tw_of (List.mem_of_getElem? (i := 42) rfl) rfl
set_option maxRecDepth 100000 in
theorem k_43 : Cond.selects "TwinTablesModel" yX10_sum yX10_sum ∈ Tw := tw_of (List.mem_of_getElem? (i := 43) rfl) rfl
set_option maxRecDepth 100000 in
theorem k_44 : Cond.selects "TwinTablesModel" yX10_term yX10_term ∈ Tw := tw_of (List.mem_of_getElem? (i := 44) rfl) rfl
set_option maxRecDepth 100000 in
theorem k_45 : Cond.selects "TwinTablesModel" yX10_part0 yX10_part0 ∈ Tw := tw_of (List.mem_of_getElem? (i := 45) rfl) rfl
set_option maxRecDepth 100000 in
theorem k_46 : Cond.selects "TwinTablesModel" yX10_step yX10_step ∈ Tw := tw_of (List.mem_of_getElem? (i := 46) rfl) rfl
set_option maxRecDepth 100000 in
theorem k_47 : Cond.selects "TwinTablesModel" yX10_isSign yX10_isSign ∈ Tw := tw_of (List.mem_of_getElem? (i := 47) rfl) rfl
set_option maxRecDepth 100000 in
theorem k_48 : Cond.selects "TwinTablesModel" yX10_isText yX10_isText ∈ Tw := tw_of (List.mem_of_getElem? (i := 48) rfl) rfl
set_option maxRecDepth 100000 in
theorem k_49 : Cond.selects "TwinTablesModel" yX10_lineAt yX10_lineAt ∈ Tw := tw_of (List.mem_of_getElem? (i := 49) rfl) rfl
set_option maxRecDepth 100000 in
theorem k_50 : Cond.selects "TwinTablesModel" yX10_findRun yX10_findRun ∈ Tw := tw_of (List.mem_of_getElem? (i := 50) rfl) rfl
set_option maxRecDepth 100000 in
theorem k_51 : Cond.selects "TwinTablesModel" yX10_inLine yX10_inLine ∈ Tw := tw_of (List.mem_of_getElem? (i := 51) rfl) rfl
set_option maxRecDepth 100000 in
theorem k_52 : Cond.selects "TwinTablesModel" yX10_oddsOf yX10_oddsOf ∈ Tw := tw_of (List.mem_of_getElem? (i := 52) rfl) rfl
set_option maxRecDepth 100000 in
theorem k_53 : Cond.selects "TwinTablesModel" yX10_digitOf yX10_digitOf ∈ Tw := tw_of (List.mem_of_getElem? (i := 53) rfl) rfl
set_option maxRecDepth 100000 in
theorem k_54 : Cond.selects "TwinTablesModel" yX10_tries yX10_tries ∈ Tw := tw_of (List.mem_of_getElem? (i := 54) rfl) rfl
set_option maxRecDepth 100000 in
theorem k_55 : Cond.selects "TwinTablesModel" yX10_daysFrom yX10_daysFrom ∈ Tw := tw_of (List.mem_of_getElem? (i := 55) rfl) rfl
set_option maxRecDepth 100000 in
theorem k_56 : Cond.selects "TwinTablesModel" yX10_hasDay yX10_hasDay ∈ Tw := tw_of (List.mem_of_getElem? (i := 56) rfl) rfl
set_option maxRecDepth 100000 in
theorem k_57 : Cond.selects "TwinTablesModel" yX10_isNear yX10_isNear ∈ Tw := tw_of (List.mem_of_getElem? (i := 57) rfl) rfl
set_option maxRecDepth 100000 in
theorem k_58 : Cond.selects "TwinTablesModel" yX10_fallen yX10_fallen ∈ Tw := tw_of (List.mem_of_getElem? (i := 58) rfl) rfl
set_option maxRecDepth 100000 in
theorem k_59 : Cond.selects "TwinTablesModel" yX10_leftBy yX10_leftBy ∈ Tw := tw_of (List.mem_of_getElem? (i := 59) rfl) rfl
set_option maxRecDepth 100000 in
theorem k_60 : Cond.selects "TwinTablesModel" yX10_drawn yX10_drawn ∈ Tw := tw_of (List.mem_of_getElem? (i := 60) rfl) rfl
set_option maxRecDepth 100000 in
theorem k_61 : Cond.selects "TwinTablesModel" yX10_setAside yX10_setAside ∈ Tw := tw_of (List.mem_of_getElem? (i := 61) rfl) rfl
set_option maxRecDepth 100000 in
theorem k_62 : Cond.initialized "TwinTablesLaw" ∈ Tw := tw_of (tb_1 (List.mem_of_getElem? (i := 0) rfl)) rfl
set_option maxRecDepth 100000 in
theorem k_63 : Cond.initialized "TwinTables" ∈ Tw := tw_of (tb_1 (List.mem_of_getElem? (i := 1) rfl)) rfl
set_option maxRecDepth 100000 in
theorem k_64 : Cond.initialized "TwinTables$State" ∈ Tw := tw_of (tb_1 (List.mem_of_getElem? (i := 2) rfl)) rfl
set_option maxRecDepth 100000 in
theorem k_65 : Cond.initialized "TwinTables$Figures" ∈ Tw := tw_of (tb_1 (List.mem_of_getElem? (i := 3) rfl)) rfl
set_option maxRecDepth 100000 in
theorem k_66 : Cond.initialized "TwinTables$Texts" ∈ Tw := tw_of (tb_1 (List.mem_of_getElem? (i := 4) rfl)) rfl
set_option maxRecDepth 100000 in
theorem k_67 : Cond.initialized "TwinTables$Lines" ∈ Tw := tw_of (tb_1 (List.mem_of_getElem? (i := 5) rfl)) rfl
set_option maxRecDepth 100000 in
theorem k_68 : Cond.initialized "TwinTables$Life" ∈ Tw := tw_of (tb_1 (List.mem_of_getElem? (i := 6) rfl)) rfl
set_option maxRecDepth 100000 in
theorem k_69 : Cond.initialized "TwinTables$Leaning" ∈ Tw := tw_of (tb_1 (List.mem_of_getElem? (i := 7) rfl)) rfl
set_option maxRecDepth 100000 in
theorem k_70 : Cond.initialized "TwinTables$Tape" ∈ Tw := tw_of (tb_1 (List.mem_of_getElem? (i := 8) rfl)) rfl
set_option maxRecDepth 100000 in
theorem k_71 : Cond.initialized "TwinTables$Sheet" ∈ Tw := tw_of (tb_1 (List.mem_of_getElem? (i := 9) rfl)) rfl
set_option maxRecDepth 100000 in
theorem k_72 : Cond.initialized "TwinTables$Slot" ∈ Tw := tw_of (tb_1 (List.mem_of_getElem? (i := 10) rfl)) rfl
set_option maxRecDepth 100000 in
theorem k_73 : Cond.initialized "TwinTablesModel" ∈ Tw := tw_of (tb_1 (List.mem_of_getElem? (i := 11) rfl)) rfl
set_option maxRecDepth 100000 in
theorem k_74 : Cond.initialized "java/lang/Math" ∈ Tw := tw_of (tb_1 (List.mem_of_getElem? (i := 12) rfl)) rfl
set_option maxRecDepth 100000 in
theorem k_75 : Cond.initialized "java/lang/String" ∈ Tw := tw_of (tb_1 (List.mem_of_getElem? (i := 13) rfl)) rfl
set_option maxRecDepth 100000 in
theorem k_76 : Cond.initialized "java/lang/StringLatin1" ∈ Tw := tw_of (tb_1 (List.mem_of_getElem? (i := 14) rfl)) rfl
set_option maxRecDepth 100000 in
theorem k_77 : Cond.initialized "jdk/internal/util/Preconditions" ∈ Tw := tw_of (tb_1 (List.mem_of_getElem? (i := 15) rfl)) rfl
set_option maxRecDepth 100000 in
theorem k_78 : Cond.initialized "java/lang/StringUTF16" ∈ Tw := tw_of (tb_1 (List.mem_of_getElem? (i := 16) rfl)) rfl
set_option maxRecDepth 100000 in
theorem k_79 : Cond.initialized "java/lang/Character" ∈ Tw := tw_of (tb_1 (List.mem_of_getElem? (i := 17) rfl)) rfl
set_option maxRecDepth 100000 in
theorem k_80 : Cond.initialized "java/lang/System" ∈ Tw := tw_of (tb_1 (List.mem_of_getElem? (i := 18) rfl)) rfl
set_option maxRecDepth 100000 in
theorem k_81 : Cond.initialized "java/lang/Integer" ∈ Tw := tw_of (tb_1 (List.mem_of_getElem? (i := 19) rfl)) rfl
set_option maxRecDepth 100000 in
theorem k_82 : Cond.classLink "TwinTablesLaw" 7 "TwinTables" ∈ Tw := tw_of (tb_1 (List.mem_of_getElem? (i := 20) rfl)) rfl
set_option maxRecDepth 100000 in
theorem k_83 : Cond.instantiable "TwinTables" 8 ∈ Tw := tw_of (tb_1 (List.mem_of_getElem? (i := 21) rfl)) rfl
set_option maxRecDepth 100000 in
theorem k_84 : Cond.methodLink "TwinTablesLaw" 9 yX9_init ∈ Tw := tw_of (tb_1 (List.mem_of_getElem? (i := 22) rfl)) rfl
set_option maxRecDepth 100000 in
theorem k_85 : Cond.instanceMethod yX9_init ∈ Tw := tw_of (tb_1 (List.mem_of_getElem? (i := 23) rfl)) rfl
set_option maxRecDepth 100000 in
theorem k_86 : Cond.code yX9_init prog_1_method_1_code 2 none ∈ Tw := tw_of (tb_1 (List.mem_of_getElem? (i := 24) rfl)) rfl
set_option maxRecDepth 100000 in
theorem k_87 : Cond.methodLink "TwinTables" 1 ⟨"java/lang/Object", "<init>", "()V"⟩ ∈ Tw := tw_of (tb_1 (List.mem_of_getElem? (i := 25) rfl)) rfl
set_option maxRecDepth 100000 in
theorem k_88 : Cond.instanceMethod ⟨"java/lang/Object", "<init>", "()V"⟩ ∈ Tw := tw_of (tb_1 (List.mem_of_getElem? (i := 26) rfl)) rfl
set_option maxRecDepth 100000 in
theorem k_89 : Cond.code ⟨"java/lang/Object", "<init>", "()V"⟩ object_method_1_code 1 none ∈ Tw := tw_of (tb_1 (List.mem_of_getElem? (i := 27) rfl)) rfl
set_option maxRecDepth 100000 in
theorem k_90 : Cond.classLink "TwinTables" 7 "TwinTables$State" ∈ Tw := tw_of (tb_1 (List.mem_of_getElem? (i := 28) rfl)) rfl
set_option maxRecDepth 100000 in
theorem k_91 : Cond.instantiable "TwinTables$State" 10 ∈ Tw := tw_of (tb_1 (List.mem_of_getElem? (i := 29) rfl)) rfl
set_option maxRecDepth 100000 in
theorem k_92 : Cond.methodLinkNest "TwinTables" 9 yX6_init "TwinTables" ∈ lw_tbl := tb_1 (List.mem_of_getElem? (i := 30) rfl)
set_option maxRecDepth 100000 in
theorem k_93 : Cond.instanceMethod yX6_init ∈ Tw := tw_of (tb_1 (List.mem_of_getElem? (i := 31) rfl)) rfl
set_option maxRecDepth 100000 in
theorem k_94 : Cond.code yX6_init prog_8_method_1_code 1 none ∈ Tw := tw_of (tb_1 (List.mem_of_getElem? (i := 32) rfl)) rfl
set_option maxRecDepth 100000 in
theorem k_95 : Cond.methodLink "TwinTables$State" 3 ⟨"java/lang/Object", "<init>", "()V"⟩ ∈ Tw := tw_of (tb_1 (List.mem_of_getElem? (i := 33) rfl)) rfl
set_option maxRecDepth 100000 in
theorem k_96 : Cond.classLink "TwinTables$State" 9 "TwinTables$Figures" ∈ Tw := tw_of (tb_1 (List.mem_of_getElem? (i := 34) rfl)) rfl
set_option maxRecDepth 100000 in
theorem k_97 : Cond.instantiable "TwinTables$Figures" 8 ∈ Tw := tw_of (tb_1 (List.mem_of_getElem? (i := 35) rfl)) rfl
set_option maxRecDepth 100000 in
theorem k_98 : Cond.methodLinkNest "TwinTables$State" 11 yX0_init "TwinTables" ∈ lw_tbl := tb_1 (List.mem_of_getElem? (i := 36) rfl)
set_option maxRecDepth 100000 in
theorem k_99 : Cond.instanceMethod yX0_init ∈ Tw := tw_of (tb_1 (List.mem_of_getElem? (i := 37) rfl)) rfl
set_option maxRecDepth 100000 in
theorem k_100 : Cond.code yX0_init prog_2_method_1_code 1 none ∈ Tw := tw_of (tb_1 (List.mem_of_getElem? (i := 38) rfl)) rfl
set_option maxRecDepth 100000 in
theorem k_101 : Cond.methodLink "TwinTables$Figures" 3 ⟨"java/lang/Object", "<init>", "()V"⟩ ∈ Tw := tw_of (tb_1 (List.mem_of_getElem? (i := 39) rfl)) rfl
set_option maxRecDepth 100000 in
theorem k_102 : Cond.fieldLink "TwinTables$Figures" 30 "TwinTables$Figures" "tables" "I" ∈ Tw := tw_of (tb_1 (List.mem_of_getElem? (i := 40) rfl)) rfl
set_option maxRecDepth 100000 in
theorem k_103 : Cond.fieldLink "TwinTables" 237 "TwinTables$Figures" "tables" "I" ∈ Tw := tw_of (tb_1 (List.mem_of_getElem? (i := 41) rfl)) rfl
set_option maxRecDepth 100000 in
theorem k_104 : Cond.fieldLink "TwinTables$Figures" 9 "TwinTables$Figures" "year" "[I" ∈ Tw := tw_of (tb_1 (List.mem_of_getElem? (i := 42) rfl)) rfl
set_option maxRecDepth 100000 in
theorem k_105 : Cond.fieldLink "TwinTables$Figures" 40 "TwinTables$Figures" "count" "I" ∈ Tw := tw_of (tb_1 (List.mem_of_getElem? (i := 43) rfl)) rfl
set_option maxRecDepth 100000 in
theorem k_106 : Cond.fieldLink "TwinTables" 75 "TwinTables$Figures" "count" "I" ∈ Tw := tw_of (tb_1 (List.mem_of_getElem? (i := 44) rfl)) rfl
set_option maxRecDepth 100000 in
theorem k_107 : Cond.fieldLink "TwinTables$State" 148 "TwinTables$Figures" "count" "I" ∈ Tw := tw_of (tb_1 (List.mem_of_getElem? (i := 45) rfl)) rfl
set_option maxRecDepth 100000 in
theorem k_108 : Cond.fieldLink "TwinTables$Figures" 15 "TwinTables$Figures" "table" "[I" ∈ Tw := tw_of (tb_1 (List.mem_of_getElem? (i := 46) rfl)) rfl
set_option maxRecDepth 100000 in
theorem k_109 : Cond.fieldLink "TwinTables" 72 "TwinTables$Figures" "table" "[I" ∈ Tw := tw_of (tb_1 (List.mem_of_getElem? (i := 47) rfl)) rfl
set_option maxRecDepth 100000 in
theorem k_110 : Cond.fieldLink "TwinTables$State" 108 "TwinTables$Figures" "table" "[I" ∈ Tw := tw_of (tb_1 (List.mem_of_getElem? (i := 48) rfl)) rfl
set_option maxRecDepth 100000 in
theorem k_111 : Cond.fieldLink "TwinTables$Figures" 18 "TwinTables$Figures" "kind" "[I" ∈ Tw := tw_of (tb_1 (List.mem_of_getElem? (i := 49) rfl)) rfl
set_option maxRecDepth 100000 in
theorem k_112 : Cond.fieldLink "TwinTables" 84 "TwinTables$Figures" "kind" "[I" ∈ Tw := tw_of (tb_1 (List.mem_of_getElem? (i := 50) rfl)) rfl
set_option maxRecDepth 100000 in
theorem k_113 : Cond.fieldLink "TwinTables$State" 151 "TwinTables$Figures" "kind" "[I" ∈ Tw := tw_of (tb_1 (List.mem_of_getElem? (i := 51) rfl)) rfl
set_option maxRecDepth 100000 in
theorem k_114 : Cond.fieldLink "TwinTables$Figures" 21 "TwinTables$Figures" "value" "[I" ∈ Tw := tw_of (tb_1 (List.mem_of_getElem? (i := 52) rfl)) rfl
set_option maxRecDepth 100000 in
theorem k_115 : Cond.fieldLink "TwinTables" 87 "TwinTables$Figures" "value" "[I" ∈ Tw := tw_of (tb_1 (List.mem_of_getElem? (i := 53) rfl)) rfl
set_option maxRecDepth 100000 in
theorem k_116 : Cond.fieldLink "TwinTables$State" 118 "TwinTables$Figures" "value" "[I" ∈ Tw := tw_of (tb_1 (List.mem_of_getElem? (i := 54) rfl)) rfl
set_option maxRecDepth 100000 in
theorem k_117 : Cond.fieldLink "TwinTables$Figures" 24 "TwinTables$Figures" "pairs" "[I" ∈ Tw := tw_of (tb_1 (List.mem_of_getElem? (i := 55) rfl)) rfl
set_option maxRecDepth 100000 in
theorem k_118 : Cond.fieldLink "TwinTables$State" 98 "TwinTables$Figures" "pairs" "[I" ∈ Tw := tw_of (tb_1 (List.mem_of_getElem? (i := 56) rfl)) rfl
set_option maxRecDepth 100000 in
theorem k_119 : Cond.fieldLink "TwinTables" 90 "TwinTables$Figures" "pairs" "[I" ∈ Tw := tw_of (tb_1 (List.mem_of_getElem? (i := 57) rfl)) rfl
set_option maxRecDepth 100000 in
theorem k_120 : Cond.fieldLink "TwinTables$Figures" 27 "TwinTables$Figures" "from" "[I" ∈ Tw := tw_of (tb_1 (List.mem_of_getElem? (i := 58) rfl)) rfl
set_option maxRecDepth 100000 in
theorem k_121 : Cond.fieldLink "TwinTables" 93 "TwinTables$Figures" "from" "[I" ∈ Tw := tw_of (tb_1 (List.mem_of_getElem? (i := 59) rfl)) rfl
set_option maxRecDepth 100000 in
theorem k_122 : Cond.fieldLink "TwinTables$State" 111 "TwinTables$Figures" "from" "[I" ∈ Tw := tw_of (tb_1 (List.mem_of_getElem? (i := 60) rfl)) rfl
set_option maxRecDepth 100000 in
theorem k_140 : Cond.arrayClass FieldType.int ∈ Tw := tw_of (tb_1 (List.mem_of_getElem? (i := 78) rfl)) rfl
set_option maxRecDepth 100000 in
theorem k_141 : Cond.classLink "TwinTables$State" 18 "TwinTables$Texts" ∈ Tw := tw_of (tb_1 (List.mem_of_getElem? (i := 79) rfl)) rfl
set_option maxRecDepth 100000 in
theorem k_142 : Cond.instantiable "TwinTables$Texts" 7 ∈ Tw := tw_of (tb_1 (List.mem_of_getElem? (i := 80) rfl)) rfl
set_option maxRecDepth 100000 in
theorem k_143 : Cond.methodLinkNest "TwinTables$State" 20 yX8_init "TwinTables" ∈ lw_tbl := tb_1 (List.mem_of_getElem? (i := 81) rfl)
set_option maxRecDepth 100000 in
theorem k_144 : Cond.instanceMethod yX8_init ∈ Tw := tw_of (tb_1 (List.mem_of_getElem? (i := 82) rfl)) rfl
set_option maxRecDepth 100000 in
theorem k_145 : Cond.code yX8_init prog_10_method_1_code 1 none ∈ Tw := tw_of (tb_1 (List.mem_of_getElem? (i := 83) rfl)) rfl
set_option maxRecDepth 100000 in
theorem k_146 : Cond.methodLink "TwinTables$Texts" 3 ⟨"java/lang/Object", "<init>", "()V"⟩ ∈ Tw := tw_of (tb_1 (List.mem_of_getElem? (i := 84) rfl)) rfl
set_option maxRecDepth 100000 in
theorem k_147 : Cond.fieldLink "TwinTables$Texts" 30 "TwinTables$Texts" "count" "I" ∈ Tw := tw_of (tb_1 (List.mem_of_getElem? (i := 85) rfl)) rfl
set_option maxRecDepth 100000 in
theorem k_148 : Cond.fieldLink "TwinTables" 152 "TwinTables$Texts" "count" "I" ∈ Tw := tw_of (tb_1 (List.mem_of_getElem? (i := 86) rfl)) rfl
set_option maxRecDepth 100000 in
theorem k_149 : Cond.fieldLink "TwinTables$Texts" 9 "TwinTables$Texts" "key" "[I" ∈ Tw := tw_of (tb_1 (List.mem_of_getElem? (i := 87) rfl)) rfl
set_option maxRecDepth 100000 in
theorem k_150 : Cond.fieldLink "TwinTables" 153 "TwinTables$Texts" "key" "[I" ∈ Tw := tw_of (tb_1 (List.mem_of_getElem? (i := 88) rfl)) rfl
set_option maxRecDepth 100000 in
theorem k_151 : Cond.fieldLink "TwinTables$Texts" 15 "TwinTables$Texts" "table" "[I" ∈ Tw := tw_of (tb_1 (List.mem_of_getElem? (i := 89) rfl)) rfl
set_option maxRecDepth 100000 in
theorem k_152 : Cond.fieldLink "TwinTables" 156 "TwinTables$Texts" "table" "[I" ∈ Tw := tw_of (tb_1 (List.mem_of_getElem? (i := 90) rfl)) rfl
set_option maxRecDepth 100000 in
theorem k_153 : Cond.fieldLink "TwinTables$Texts" 18 "TwinTables$Texts" "leaves" "[I" ∈ Tw := tw_of (tb_1 (List.mem_of_getElem? (i := 91) rfl)) rfl
set_option maxRecDepth 100000 in
theorem k_154 : Cond.fieldLink "TwinTables" 157 "TwinTables$Texts" "leaves" "[I" ∈ Tw := tw_of (tb_1 (List.mem_of_getElem? (i := 92) rfl)) rfl
set_option maxRecDepth 100000 in
theorem k_155 : Cond.fieldLink "TwinTables$Texts" 21 "TwinTables$Texts" "length" "[I" ∈ Tw := tw_of (tb_1 (List.mem_of_getElem? (i := 93) rfl)) rfl
set_option maxRecDepth 100000 in
theorem k_156 : Cond.fieldLink "TwinTables$Texts" 24 "TwinTables$Texts" "steps" "[I" ∈ Tw := tw_of (tb_1 (List.mem_of_getElem? (i := 94) rfl)) rfl
set_option maxRecDepth 100000 in
theorem k_157 : Cond.fieldLink "TwinTables$Texts" 27 "TwinTables$Texts" "stack" "[I" ∈ Tw := tw_of (tb_1 (List.mem_of_getElem? (i := 95) rfl)) rfl
set_option maxRecDepth 100000 in
theorem k_173 : Cond.classLink "TwinTables$State" 25 "TwinTables$Lines" ∈ Tw := tw_of (tb_1 (List.mem_of_getElem? (i := 111) rfl)) rfl
set_option maxRecDepth 100000 in
theorem k_174 : Cond.instantiable "TwinTables$Lines" 2 ∈ Tw := tw_of (tb_1 (List.mem_of_getElem? (i := 112) rfl)) rfl
set_option maxRecDepth 100000 in
theorem k_175 : Cond.methodLinkNest "TwinTables$State" 27 yX3_init "TwinTables" ∈ lw_tbl := tb_1 (List.mem_of_getElem? (i := 113) rfl)
set_option maxRecDepth 100000 in
theorem k_176 : Cond.instanceMethod yX3_init ∈ Tw := tw_of (tb_1 (List.mem_of_getElem? (i := 114) rfl)) rfl
set_option maxRecDepth 100000 in
theorem k_177 : Cond.code yX3_init prog_5_method_1_code 1 none ∈ Tw := tw_of (tb_1 (List.mem_of_getElem? (i := 115) rfl)) rfl
set_option maxRecDepth 100000 in
theorem k_178 : Cond.methodLink "TwinTables$Lines" 3 ⟨"java/lang/Object", "<init>", "()V"⟩ ∈ Tw := tw_of (tb_1 (List.mem_of_getElem? (i := 116) rfl)) rfl
set_option maxRecDepth 100000 in
theorem k_179 : Cond.fieldLink "TwinTables$Lines" 9 "TwinTables$Lines" "length" "[I" ∈ Tw := tw_of (tb_1 (List.mem_of_getElem? (i := 117) rfl)) rfl
set_option maxRecDepth 100000 in
theorem k_180 : Cond.fieldLink "TwinTables$Lines" 15 "TwinTables$Lines" "figures" "[I" ∈ Tw := tw_of (tb_1 (List.mem_of_getElem? (i := 118) rfl)) rfl
set_option maxRecDepth 100000 in
theorem k_186 : Cond.classLink "TwinTables$State" 32 "TwinTables$Life" ∈ Tw := tw_of (tb_1 (List.mem_of_getElem? (i := 124) rfl)) rfl
set_option maxRecDepth 100000 in
theorem k_187 : Cond.instantiable "TwinTables$Life" 5 ∈ Tw := tw_of (tb_1 (List.mem_of_getElem? (i := 125) rfl)) rfl
set_option maxRecDepth 100000 in
theorem k_188 : Cond.methodLinkNest "TwinTables$State" 34 yX2_init "TwinTables" ∈ lw_tbl := tb_1 (List.mem_of_getElem? (i := 126) rfl)
set_option maxRecDepth 100000 in
theorem k_189 : Cond.instanceMethod yX2_init ∈ Tw := tw_of (tb_1 (List.mem_of_getElem? (i := 127) rfl)) rfl
set_option maxRecDepth 100000 in
theorem k_190 : Cond.code yX2_init prog_4_method_1_code 1 none ∈ Tw := tw_of (tb_1 (List.mem_of_getElem? (i := 128) rfl)) rfl
set_option maxRecDepth 100000 in
theorem k_191 : Cond.methodLink "TwinTables$Life" 3 ⟨"java/lang/Object", "<init>", "()V"⟩ ∈ Tw := tw_of (tb_1 (List.mem_of_getElem? (i := 129) rfl)) rfl
set_option maxRecDepth 100000 in
theorem k_192 : Cond.fieldLink "TwinTables$Life" 9 "TwinTables$Life" "roads" "[I" ∈ Tw := tw_of (tb_1 (List.mem_of_getElem? (i := 130) rfl)) rfl
set_option maxRecDepth 100000 in
theorem k_193 : Cond.fieldLink "TwinTables$Life" 30 "TwinTables$Life" "entries" "I" ∈ Tw := tw_of (tb_1 (List.mem_of_getElem? (i := 131) rfl)) rfl
set_option maxRecDepth 100000 in
theorem k_194 : Cond.fieldLink "TwinTables" 352 "TwinTables$Life" "entries" "I" ∈ Tw := tw_of (tb_1 (List.mem_of_getElem? (i := 132) rfl)) rfl
set_option maxRecDepth 100000 in
theorem k_195 : Cond.fieldLink "TwinTables$Life" 15 "TwinTables$Life" "day" "[I" ∈ Tw := tw_of (tb_1 (List.mem_of_getElem? (i := 133) rfl)) rfl
set_option maxRecDepth 100000 in
theorem k_196 : Cond.fieldLink "TwinTables$Life" 18 "TwinTables$Life" "place" "[I" ∈ Tw := tw_of (tb_1 (List.mem_of_getElem? (i := 134) rfl)) rfl
set_option maxRecDepth 100000 in
theorem k_197 : Cond.fieldLink "TwinTables$Life" 21 "TwinTables$Life" "found" "[I" ∈ Tw := tw_of (tb_1 (List.mem_of_getElem? (i := 135) rfl)) rfl
set_option maxRecDepth 100000 in
theorem k_209 : Cond.classLink "TwinTables$State" 39 "TwinTables$Leaning" ∈ Tw := tw_of (tb_1 (List.mem_of_getElem? (i := 147) rfl)) rfl
set_option maxRecDepth 100000 in
theorem k_210 : Cond.instantiable "TwinTables$Leaning" 6 ∈ Tw := tw_of (tb_1 (List.mem_of_getElem? (i := 148) rfl)) rfl
set_option maxRecDepth 100000 in
theorem k_211 : Cond.methodLinkNest "TwinTables$State" 41 yX1_init "TwinTables" ∈ lw_tbl := tb_1 (List.mem_of_getElem? (i := 149) rfl)
set_option maxRecDepth 100000 in
theorem k_212 : Cond.instanceMethod yX1_init ∈ Tw := tw_of (tb_1 (List.mem_of_getElem? (i := 150) rfl)) rfl
set_option maxRecDepth 100000 in
theorem k_213 : Cond.code yX1_init prog_3_method_1_code 1 none ∈ Tw := tw_of (tb_1 (List.mem_of_getElem? (i := 151) rfl)) rfl
set_option maxRecDepth 100000 in
theorem k_214 : Cond.methodLink "TwinTables$Leaning" 3 ⟨"java/lang/Object", "<init>", "()V"⟩ ∈ Tw := tw_of (tb_1 (List.mem_of_getElem? (i := 152) rfl)) rfl
set_option maxRecDepth 100000 in
theorem k_215 : Cond.fieldLink "TwinTables$Leaning" 24 "TwinTables$Leaning" "leaners" "I" ∈ Tw := tw_of (tb_1 (List.mem_of_getElem? (i := 153) rfl)) rfl
set_option maxRecDepth 100000 in
theorem k_216 : Cond.fieldLink "TwinTables" 243 "TwinTables$Leaning" "leaners" "I" ∈ Tw := tw_of (tb_1 (List.mem_of_getElem? (i := 154) rfl)) rfl
set_option maxRecDepth 100000 in
theorem k_217 : Cond.fieldLink "TwinTables$Leaning" 9 "TwinTables$Leaning" "onTables" "[I" ∈ Tw := tw_of (tb_1 (List.mem_of_getElem? (i := 155) rfl)) rfl
set_option maxRecDepth 100000 in
theorem k_218 : Cond.fieldLink "TwinTables$Leaning" 15 "TwinTables$Leaning" "onLeaners" "[I" ∈ Tw := tw_of (tb_1 (List.mem_of_getElem? (i := 156) rfl)) rfl
set_option maxRecDepth 100000 in
theorem k_219 : Cond.fieldLink "TwinTables$Leaning" 18 "TwinTables$Leaning" "needs" "[I" ∈ Tw := tw_of (tb_1 (List.mem_of_getElem? (i := 157) rfl)) rfl
set_option maxRecDepth 100000 in
theorem k_220 : Cond.fieldLink "TwinTables$Leaning" 34 "TwinTables$Leaning" "sources" "I" ∈ Tw := tw_of (tb_1 (List.mem_of_getElem? (i := 158) rfl)) rfl
set_option maxRecDepth 100000 in
theorem k_221 : Cond.fieldLink "TwinTables" 265 "TwinTables$Leaning" "sources" "I" ∈ Tw := tw_of (tb_1 (List.mem_of_getElem? (i := 159) rfl)) rfl
set_option maxRecDepth 100000 in
theorem k_222 : Cond.fieldLink "TwinTables$Leaning" 21 "TwinTables$Leaning" "tells" "[I" ∈ Tw := tw_of (tb_1 (List.mem_of_getElem? (i := 160) rfl)) rfl
set_option maxRecDepth 100000 in
theorem k_236 : Cond.fieldLink "TwinTables$State" 12 "TwinTables$State" "figures" "LTwinTables$Figures;" ∈ Tw := tw_of (tb_1 (List.mem_of_getElem? (i := 174) rfl)) rfl
set_option maxRecDepth 100000 in
theorem k_237 : Cond.fieldLink "TwinTables" 49 "TwinTables$State" "figures" "LTwinTables$Figures;" ∈ Tw := tw_of (tb_1 (List.mem_of_getElem? (i := 175) rfl)) rfl
set_option maxRecDepth 100000 in
theorem k_238 : Cond.fieldLink "TwinTables$State" 21 "TwinTables$State" "texts" "LTwinTables$Texts;" ∈ Tw := tw_of (tb_1 (List.mem_of_getElem? (i := 176) rfl)) rfl
set_option maxRecDepth 100000 in
theorem k_239 : Cond.fieldLink "TwinTables" 143 "TwinTables$State" "texts" "LTwinTables$Texts;" ∈ Tw := tw_of (tb_1 (List.mem_of_getElem? (i := 177) rfl)) rfl
set_option maxRecDepth 100000 in
theorem k_240 : Cond.fieldLink "TwinTables$State" 28 "TwinTables$State" "lines" "LTwinTables$Lines;" ∈ Tw := tw_of (tb_1 (List.mem_of_getElem? (i := 178) rfl)) rfl
set_option maxRecDepth 100000 in
theorem k_241 : Cond.fieldLink "TwinTables" 114 "TwinTables$State" "lines" "LTwinTables$Lines;" ∈ Tw := tw_of (tb_1 (List.mem_of_getElem? (i := 179) rfl)) rfl
set_option maxRecDepth 100000 in
theorem k_242 : Cond.fieldLink "TwinTables$State" 35 "TwinTables$State" "life" "LTwinTables$Life;" ∈ Tw := tw_of (tb_1 (List.mem_of_getElem? (i := 180) rfl)) rfl
set_option maxRecDepth 100000 in
theorem k_243 : Cond.fieldLink "TwinTables" 215 "TwinTables$State" "life" "LTwinTables$Life;" ∈ Tw := tw_of (tb_1 (List.mem_of_getElem? (i := 181) rfl)) rfl
set_option maxRecDepth 100000 in
theorem k_244 : Cond.fieldLink "TwinTables$State" 42 "TwinTables$State" "leaning" "LTwinTables$Leaning;" ∈ Tw := tw_of (tb_1 (List.mem_of_getElem? (i := 182) rfl)) rfl
set_option maxRecDepth 100000 in
theorem k_245 : Cond.fieldLink "TwinTables" 233 "TwinTables$State" "leaning" "LTwinTables$Leaning;" ∈ Tw := tw_of (tb_1 (List.mem_of_getElem? (i := 183) rfl)) rfl
set_option maxRecDepth 100000 in
theorem k_246 : Cond.fieldLink "TwinTables$State" 46 "TwinTables$State" "chosen" "[I" ∈ Tw := tw_of (tb_1 (List.mem_of_getElem? (i := 184) rfl)) rfl
set_option maxRecDepth 100000 in
theorem k_247 : Cond.fieldLink "TwinTables" 203 "TwinTables$State" "chosen" "[I" ∈ Tw := tw_of (tb_1 (List.mem_of_getElem? (i := 185) rfl)) rfl
set_option maxRecDepth 100000 in
theorem k_248 : Cond.fieldLink "TwinTables$State" 82 "TwinTables$State" "told" "I" ∈ Tw := tw_of (tb_1 (List.mem_of_getElem? (i := 186) rfl)) rfl
set_option maxRecDepth 100000 in
theorem k_249 : Cond.fieldLink "TwinTables" 200 "TwinTables$State" "told" "I" ∈ Tw := tw_of (tb_1 (List.mem_of_getElem? (i := 187) rfl)) rfl
set_option maxRecDepth 100000 in
theorem k_250 : Cond.fieldLink "TwinTables$State" 50 "TwinTables$State" "base" "I" ∈ Tw := tw_of (tb_1 (List.mem_of_getElem? (i := 188) rfl)) rfl
set_option maxRecDepth 100000 in
theorem k_251 : Cond.fieldLink "TwinTables" 130 "TwinTables$State" "base" "I" ∈ Tw := tw_of (tb_1 (List.mem_of_getElem? (i := 189) rfl)) rfl
set_option maxRecDepth 100000 in
theorem k_252 : Cond.fieldLink "TwinTables$State" 54 "TwinTables$State" "z" "I" ∈ Tw := tw_of (tb_1 (List.mem_of_getElem? (i := 190) rfl)) rfl
set_option maxRecDepth 100000 in
theorem k_253 : Cond.fieldLink "TwinTables" 271 "TwinTables$State" "z" "I" ∈ Tw := tw_of (tb_1 (List.mem_of_getElem? (i := 191) rfl)) rfl
set_option maxRecDepth 100000 in
theorem k_254 : Cond.fieldLink "TwinTables$State" 57 "TwinTables$State" "row" "[I" ∈ Tw := tw_of (tb_1 (List.mem_of_getElem? (i := 192) rfl)) rfl
set_option maxRecDepth 100000 in
theorem k_255 : Cond.fieldLink "TwinTables" 176 "TwinTables$State" "row" "[I" ∈ Tw := tw_of (tb_1 (List.mem_of_getElem? (i := 193) rfl)) rfl
set_option maxRecDepth 100000 in
theorem k_277 : Cond.classLink "TwinTables" 19 "TwinTables$Tape" ∈ Tw := tw_of (tb_1 (List.mem_of_getElem? (i := 215) rfl)) rfl
set_option maxRecDepth 100000 in
theorem k_278 : Cond.instantiable "TwinTables$Tape" 11 ∈ Tw := tw_of (tb_1 (List.mem_of_getElem? (i := 216) rfl)) rfl
set_option maxRecDepth 100000 in
theorem k_279 : Cond.methodLinkNest "TwinTables" 21 yX7_init "TwinTables" ∈ lw_tbl := tb_1 (List.mem_of_getElem? (i := 217) rfl)
set_option maxRecDepth 100000 in
theorem k_280 : Cond.instanceMethod yX7_init ∈ Tw := tw_of (tb_1 (List.mem_of_getElem? (i := 218) rfl)) rfl
set_option maxRecDepth 100000 in
theorem k_281 : Cond.code yX7_init prog_9_method_1_code 1 none ∈ Tw := tw_of (tb_1 (List.mem_of_getElem? (i := 219) rfl)) rfl
set_option maxRecDepth 100000 in
theorem k_282 : Cond.methodLink "TwinTables$Tape" 3 ⟨"java/lang/Object", "<init>", "()V"⟩ ∈ Tw := tw_of (tb_1 (List.mem_of_getElem? (i := 220) rfl)) rfl
set_option maxRecDepth 100000 in
theorem k_283 : Cond.fieldLink "TwinTables$Tape" 9 "TwinTables$Tape" "bytes" "[B" ∈ Tw := tw_of (tb_1 (List.mem_of_getElem? (i := 221) rfl)) rfl
set_option maxRecDepth 100000 in
theorem k_284 : Cond.fieldLink "TwinTables$Tape" 19 "TwinTables$Tape" "count" "I" ∈ Tw := tw_of (tb_1 (List.mem_of_getElem? (i := 222) rfl)) rfl
set_option maxRecDepth 100000 in
theorem k_285 : Cond.fieldLink "TwinTables" 133 "TwinTables$Tape" "count" "I" ∈ Tw := tw_of (tb_1 (List.mem_of_getElem? (i := 223) rfl)) rfl
set_option maxRecDepth 100000 in
theorem k_286 : Cond.fieldLink "TwinTables$Tape" 23 "TwinTables$Tape" "fault" "I" ∈ Tw := tw_of (tb_1 (List.mem_of_getElem? (i := 224) rfl)) rfl
set_option maxRecDepth 100000 in
theorem k_287 : Cond.fieldLink "TwinTables" 140 "TwinTables$Tape" "fault" "I" ∈ Tw := tw_of (tb_1 (List.mem_of_getElem? (i := 225) rfl)) rfl
set_option maxRecDepth 100000 in
theorem k_288 : Cond.fieldLink "TwinTables$Texts" 41 "TwinTables$Tape" "key" "I" ∈ Tw := tw_of (tb_1 (List.mem_of_getElem? (i := 226) rfl)) rfl
set_option maxRecDepth 100000 in
theorem k_289 : Cond.fieldLink "TwinTables$Tape" 55 "TwinTables$Tape" "key" "I" ∈ Tw := tw_of (tb_1 (List.mem_of_getElem? (i := 227) rfl)) rfl
set_option maxRecDepth 100000 in
theorem k_290 : Cond.fieldLink "TwinTables$Texts" 45 "TwinTables$Tape" "table" "I" ∈ Tw := tw_of (tb_1 (List.mem_of_getElem? (i := 228) rfl)) rfl
set_option maxRecDepth 100000 in
theorem k_291 : Cond.fieldLink "TwinTables$Tape" 59 "TwinTables$Tape" "table" "I" ∈ Tw := tw_of (tb_1 (List.mem_of_getElem? (i := 229) rfl)) rfl
set_option maxRecDepth 100000 in
theorem k_292 : Cond.fieldLink "TwinTables$Tape" 29 "TwinTables$Tape" "leaves" "I" ∈ Tw := tw_of (tb_1 (List.mem_of_getElem? (i := 230) rfl)) rfl
set_option maxRecDepth 100000 in
theorem k_293 : Cond.fieldLink "TwinTables$Texts" 47 "TwinTables$Tape" "leaves" "I" ∈ Tw := tw_of (tb_1 (List.mem_of_getElem? (i := 231) rfl)) rfl
set_option maxRecDepth 100000 in
theorem k_294 : Cond.fieldLink "TwinTables$Tape" 15 "TwinTables$Tape" "steps" "[I" ∈ Tw := tw_of (tb_1 (List.mem_of_getElem? (i := 232) rfl)) rfl
set_option maxRecDepth 100000 in
theorem k_295 : Cond.fieldLink "TwinTables$Texts" 52 "TwinTables$Tape" "steps" "[I" ∈ Tw := tw_of (tb_1 (List.mem_of_getElem? (i := 233) rfl)) rfl
set_option maxRecDepth 100000 in
theorem k_296 : Cond.fieldLink "TwinTables$Tape" 26 "TwinTables$Tape" "many" "I" ∈ Tw := tw_of (tb_1 (List.mem_of_getElem? (i := 234) rfl)) rfl
set_option maxRecDepth 100000 in
theorem k_297 : Cond.fieldLink "TwinTables$Texts" 49 "TwinTables$Tape" "many" "I" ∈ Tw := tw_of (tb_1 (List.mem_of_getElem? (i := 235) rfl)) rfl
set_option maxRecDepth 100000 in
theorem k_298 : Cond.fieldLink "TwinTables$Tape" 48 "TwinTables$Tape" "at" "I" ∈ Tw := tw_of (tb_1 (List.mem_of_getElem? (i := 236) rfl)) rfl
set_option maxRecDepth 100000 in
theorem k_299 : Cond.fieldLink "TwinTables$Tape" 32 "TwinTables$Tape" "behind" "I" ∈ Tw := tw_of (tb_1 (List.mem_of_getElem? (i := 237) rfl)) rfl
set_option maxRecDepth 100000 in
theorem k_300 : Cond.fieldLink "TwinTables$Tape" 35 "TwinTables$Tape" "sort" "I" ∈ Tw := tw_of (tb_1 (List.mem_of_getElem? (i := 238) rfl)) rfl
set_option maxRecDepth 100000 in
theorem k_324 : Cond.arrayClass FieldType.byte ∈ Tw := tw_of (tb_2 (List.mem_of_getElem? (i := 22) rfl)) rfl
set_option maxRecDepth 100000 in
theorem k_325 : Cond.classLink "TwinTables" 30 "TwinTables$Sheet" ∈ Tw := tw_of (tb_2 (List.mem_of_getElem? (i := 23) rfl)) rfl
set_option maxRecDepth 100000 in
theorem k_326 : Cond.arrayOver (FieldType.object "TwinTables$Sheet") ∈ lw_tbl := tb_2 (List.mem_of_getElem? (i := 24) rfl)
set_option maxRecDepth 100000 in
theorem k_327 : Cond.classLink "TwinTables" 36 "TwinTables$Slot" ∈ Tw := tw_of (tb_2 (List.mem_of_getElem? (i := 25) rfl)) rfl
set_option maxRecDepth 100000 in
theorem k_328 : Cond.arrayOver (FieldType.object "TwinTables$Slot") ∈ lw_tbl := tb_2 (List.mem_of_getElem? (i := 26) rfl)
set_option maxRecDepth 100000 in
theorem k_329 : Cond.instantiable "TwinTables$Sheet" 3 ∈ Tw := tw_of (tb_2 (List.mem_of_getElem? (i := 27) rfl)) rfl
set_option maxRecDepth 100000 in
theorem k_330 : Cond.methodLinkNest "TwinTables" 42 yX4_init "TwinTables" ∈ lw_tbl := tb_2 (List.mem_of_getElem? (i := 28) rfl)
set_option maxRecDepth 100000 in
theorem k_331 : Cond.instanceMethod yX4_init ∈ Tw := tw_of (tb_2 (List.mem_of_getElem? (i := 29) rfl)) rfl
set_option maxRecDepth 100000 in
theorem k_332 : Cond.code yX4_init prog_6_method_1_code 1 none ∈ Tw := tw_of (tb_2 (List.mem_of_getElem? (i := 30) rfl)) rfl
set_option maxRecDepth 100000 in
theorem k_333 : Cond.methodLink "TwinTables$Sheet" 3 ⟨"java/lang/Object", "<init>", "()V"⟩ ∈ Tw := tw_of (tb_2 (List.mem_of_getElem? (i := 31) rfl)) rfl
set_option maxRecDepth 100000 in
theorem k_334 : Cond.fieldLink "TwinTables$Sheet" 9 "TwinTables$Sheet" "sort" "I" ∈ Tw := tw_of (tb_2 (List.mem_of_getElem? (i := 32) rfl)) rfl
set_option maxRecDepth 100000 in
theorem k_335 : Cond.fieldLink "TwinTables" 288 "TwinTables$Sheet" "sort" "I" ∈ Tw := tw_of (tb_2 (List.mem_of_getElem? (i := 33) rfl)) rfl
set_option maxRecDepth 100000 in
theorem k_336 : Cond.fieldLink "TwinTables$Sheet" 19 "TwinTables$Sheet" "size" "I" ∈ Tw := tw_of (tb_2 (List.mem_of_getElem? (i := 34) rfl)) rfl
set_option maxRecDepth 100000 in
theorem k_337 : Cond.fieldLink "TwinTables$Sheet" 15 "TwinTables$Sheet" "cells" "[I" ∈ Tw := tw_of (tb_2 (List.mem_of_getElem? (i := 35) rfl)) rfl
set_option maxRecDepth 100000 in
theorem k_338 : Cond.fieldLink "TwinTables" 294 "TwinTables$Sheet" "cells" "[I" ∈ Tw := tw_of (tb_2 (List.mem_of_getElem? (i := 36) rfl)) rfl
set_option maxRecDepth 100000 in
theorem k_346 : Cond.instantiable "TwinTables$Slot" 5 ∈ Tw := tw_of (tb_2 (List.mem_of_getElem? (i := 44) rfl)) rfl
set_option maxRecDepth 100000 in
theorem k_347 : Cond.methodLinkNest "TwinTables" 43 yX5_init "TwinTables" ∈ lw_tbl := tb_2 (List.mem_of_getElem? (i := 45) rfl)
set_option maxRecDepth 100000 in
theorem k_348 : Cond.instanceMethod yX5_init ∈ Tw := tw_of (tb_2 (List.mem_of_getElem? (i := 46) rfl)) rfl
set_option maxRecDepth 100000 in
theorem k_349 : Cond.code yX5_init prog_7_method_1_code 1 none ∈ Tw := tw_of (tb_2 (List.mem_of_getElem? (i := 47) rfl)) rfl
set_option maxRecDepth 100000 in
theorem k_350 : Cond.methodLink "TwinTables$Slot" 3 ⟨"java/lang/Object", "<init>", "()V"⟩ ∈ Tw := tw_of (tb_2 (List.mem_of_getElem? (i := 48) rfl)) rfl
set_option maxRecDepth 100000 in
theorem k_351 : Cond.classLink "TwinTables$Slot" 15 "TwinTables$Sheet" ∈ Tw := tw_of (tb_2 (List.mem_of_getElem? (i := 49) rfl)) rfl
set_option maxRecDepth 100000 in
theorem k_352 : Cond.methodLinkNest "TwinTables$Slot" 17 yX4_init "TwinTables" ∈ lw_tbl := tb_2 (List.mem_of_getElem? (i := 50) rfl)
set_option maxRecDepth 100000 in
theorem k_353 : Cond.fieldLink "TwinTables$Slot" 9 "TwinTables$Slot" "thing" "I" ∈ Tw := tw_of (tb_2 (List.mem_of_getElem? (i := 51) rfl)) rfl
set_option maxRecDepth 100000 in
theorem k_354 : Cond.fieldLink "TwinTables" 315 "TwinTables$Slot" "thing" "I" ∈ Tw := tw_of (tb_2 (List.mem_of_getElem? (i := 52) rfl)) rfl
set_option maxRecDepth 100000 in
theorem k_355 : Cond.fieldLink "TwinTables$Slot" 22 "TwinTables$Slot" "kind" "I" ∈ Tw := tw_of (tb_2 (List.mem_of_getElem? (i := 53) rfl)) rfl
set_option maxRecDepth 100000 in
theorem k_356 : Cond.fieldLink "TwinTables" 332 "TwinTables$Slot" "kind" "I" ∈ Tw := tw_of (tb_2 (List.mem_of_getElem? (i := 54) rfl)) rfl
set_option maxRecDepth 100000 in
theorem k_357 : Cond.fieldLink "TwinTables$Slot" 25 "TwinTables$Slot" "pairs" "I" ∈ Tw := tw_of (tb_2 (List.mem_of_getElem? (i := 55) rfl)) rfl
set_option maxRecDepth 100000 in
theorem k_358 : Cond.fieldLink "TwinTables" 334 "TwinTables$Slot" "pairs" "I" ∈ Tw := tw_of (tb_2 (List.mem_of_getElem? (i := 56) rfl)) rfl
set_option maxRecDepth 100000 in
theorem k_359 : Cond.fieldLink "TwinTables" 329 "TwinTables$Slot" "number" "I" ∈ Tw := tw_of (tb_2 (List.mem_of_getElem? (i := 57) rfl)) rfl
set_option maxRecDepth 100000 in
theorem k_360 : Cond.fieldLink "TwinTables$Slot" 18 "TwinTables$Slot" "sheet" "LTwinTables$Sheet;" ∈ Tw := tw_of (tb_2 (List.mem_of_getElem? (i := 58) rfl)) rfl
set_option maxRecDepth 100000 in
theorem k_361 : Cond.fieldLink "TwinTables" 321 "TwinTables$Slot" "sheet" "LTwinTables$Sheet;" ∈ Tw := tw_of (tb_2 (List.mem_of_getElem? (i := 59) rfl)) rfl
set_option maxRecDepth 100000 in
theorem k_373 : Cond.fieldLink "TwinTables" 10 "TwinTables" "now" "LTwinTables$State;" ∈ Tw := tw_of (tb_2 (List.mem_of_getElem? (i := 71) rfl)) rfl
set_option maxRecDepth 100000 in
theorem k_374 : Cond.fieldLink "TwinTables" 16 "TwinTables" "image" "LTwinTables$State;" ∈ Tw := tw_of (tb_2 (List.mem_of_getElem? (i := 72) rfl)) rfl
set_option maxRecDepth 100000 in
theorem k_375 : Cond.fieldLink "TwinTables" 339 "TwinTables" "imaged" "Z" ∈ Tw := tw_of (tb_2 (List.mem_of_getElem? (i := 73) rfl)) rfl
set_option maxRecDepth 100000 in
theorem k_376 : Cond.fieldLink "TwinTables" 22 "TwinTables" "tape" "LTwinTables$Tape;" ∈ Tw := tw_of (tb_2 (List.mem_of_getElem? (i := 74) rfl)) rfl
set_option maxRecDepth 100000 in
theorem k_377 : Cond.fieldLink "TwinTables" 26 "TwinTables" "waiting" "[I" ∈ Tw := tw_of (tb_2 (List.mem_of_getElem? (i := 75) rfl)) rfl
set_option maxRecDepth 100000 in
theorem k_378 : Cond.fieldLink "TwinTables" 336 "TwinTables" "waits" "I" ∈ Tw := tw_of (tb_2 (List.mem_of_getElem? (i := 76) rfl)) rfl
set_option maxRecDepth 100000 in
theorem k_379 : Cond.fieldLink "TwinTables" 32 "TwinTables" "sheets" "[LTwinTables$Sheet;" ∈ Tw := tw_of (tb_2 (List.mem_of_getElem? (i := 77) rfl)) rfl
set_option maxRecDepth 100000 in
theorem k_380 : Cond.fieldLink "TwinTables" 38 "TwinTables" "slots" "[LTwinTables$Slot;" ∈ Tw := tw_of (tb_2 (List.mem_of_getElem? (i := 78) rfl)) rfl
set_option maxRecDepth 100000 in
theorem k_398 : Cond.methodLink "TwinTablesLaw" 13 yX9_table ∈ Tw := tw_of (tb_2 (List.mem_of_getElem? (i := 96) rfl)) rfl
set_option maxRecDepth 100000 in
theorem k_399 : Cond.instanceMethod yX9_table ∈ Tw := tw_of (tb_2 (List.mem_of_getElem? (i := 97) rfl)) rfl
set_option maxRecDepth 100000 in
theorem k_400 : Cond.selects "TwinTables" yX9_table yX9_table ∈ Tw := tw_of (tb_2 (List.mem_of_getElem? (i := 98) rfl)) rfl
set_option maxRecDepth 100000 in
theorem k_401 : Cond.code yX9_table prog_1_method_2_code 2 (some FieldType.int) ∈ Tw := tw_of (tb_2 (List.mem_of_getElem? (i := 99) rfl)) rfl
set_option maxRecDepth 100000 in
theorem k_402 : Cond.methodLink "TwinTables" 44 yX9_within ∈ Tw := tw_of (tb_2 (List.mem_of_getElem? (i := 100) rfl)) rfl
set_option maxRecDepth 100000 in
theorem k_403 : Cond.static yX9_within ∈ Tw := tw_of (tb_2 (List.mem_of_getElem? (i := 101) rfl)) rfl
set_option maxRecDepth 100000 in
theorem k_404 : Cond.code yX9_within prog_1_method_48_code 3 (some FieldType.boolean) ∈ Tw := tw_of (tb_2 (List.mem_of_getElem? (i := 102) rfl)) rfl
set_option maxRecDepth 100000 in
theorem k_405 : Cond.constant "TwinTables" 48 (-1000000001) ∈ Tw := tw_of (tb_2 (List.mem_of_getElem? (i := 103) rfl)) rfl
set_option maxRecDepth 100000 in
theorem k_406 : Cond.methodLink "TwinTables" 53 yX0_addTable ∈ Tw := tw_of (tb_2 (List.mem_of_getElem? (i := 104) rfl)) rfl
set_option maxRecDepth 100000 in
theorem k_407 : Cond.instanceMethod yX0_addTable ∈ Tw := tw_of (tb_2 (List.mem_of_getElem? (i := 105) rfl)) rfl
set_option maxRecDepth 100000 in
theorem k_408 : Cond.selects "TwinTables$Figures" yX0_addTable yX0_addTable ∈ Tw := tw_of (tb_2 (List.mem_of_getElem? (i := 106) rfl)) rfl
set_option maxRecDepth 100000 in
theorem k_409 : Cond.code yX0_addTable prog_2_method_5_code 2 (some FieldType.int) ∈ Tw := tw_of (tb_2 (List.mem_of_getElem? (i := 107) rfl)) rfl
set_option maxRecDepth 100000 in
theorem k_410 : Cond.constant "TwinTables$Figures" 43 (-1000000002) ∈ Tw := tw_of (tb_2 (List.mem_of_getElem? (i := 108) rfl)) rfl
set_option maxRecDepth 100000 in
theorem k_411 : Cond.constant "TwinTables$Figures" 44 (-1000000003) ∈ Tw := tw_of (tb_2 (List.mem_of_getElem? (i := 109) rfl)) rfl
set_option maxRecDepth 100000 in
theorem k_412 : Cond.methodLink "TwinTablesLaw" 18 yX9_figure ∈ Tw := tw_of (tb_2 (List.mem_of_getElem? (i := 110) rfl)) rfl
set_option maxRecDepth 100000 in
theorem k_413 : Cond.instanceMethod yX9_figure ∈ Tw := tw_of (tb_2 (List.mem_of_getElem? (i := 111) rfl)) rfl
set_option maxRecDepth 100000 in
theorem k_414 : Cond.selects "TwinTables" yX9_figure yX9_figure ∈ Tw := tw_of (tb_2 (List.mem_of_getElem? (i := 112) rfl)) rfl
set_option maxRecDepth 100000 in
theorem k_415 : Cond.code yX9_figure prog_1_method_3_code 7 (some FieldType.int) ∈ Tw := tw_of (tb_2 (List.mem_of_getElem? (i := 113) rfl)) rfl
set_option maxRecDepth 100000 in
theorem k_416 : Cond.methodLink "TwinTables" 59 yX0_hasTable ∈ Tw := tw_of (tb_2 (List.mem_of_getElem? (i := 114) rfl)) rfl
set_option maxRecDepth 100000 in
theorem k_417 : Cond.instanceMethod yX0_hasTable ∈ Tw := tw_of (tb_2 (List.mem_of_getElem? (i := 115) rfl)) rfl
set_option maxRecDepth 100000 in
theorem k_418 : Cond.selects "TwinTables$Figures" yX0_hasTable yX0_hasTable ∈ Tw := tw_of (tb_2 (List.mem_of_getElem? (i := 116) rfl)) rfl
set_option maxRecDepth 100000 in
theorem k_419 : Cond.code yX0_hasTable prog_2_method_3_code 2 (some FieldType.boolean) ∈ Tw := tw_of (tb_2 (List.mem_of_getElem? (i := 117) rfl)) rfl
set_option maxRecDepth 100000 in
theorem k_420 : Cond.methodLink "TwinTables" 63 yX9_isKind ∈ Tw := tw_of (tb_2 (List.mem_of_getElem? (i := 118) rfl)) rfl
set_option maxRecDepth 100000 in
theorem k_421 : Cond.static yX9_isKind ∈ Tw := tw_of (tb_2 (List.mem_of_getElem? (i := 119) rfl)) rfl
set_option maxRecDepth 100000 in
theorem k_422 : Cond.code yX9_isKind prog_1_method_50_code 1 (some FieldType.boolean) ∈ Tw := tw_of (tb_2 (List.mem_of_getElem? (i := 120) rfl)) rfl
set_option maxRecDepth 100000 in
theorem k_423 : Cond.methodLink "TwinTables" 66 yX9_arePairs ∈ Tw := tw_of (tb_2 (List.mem_of_getElem? (i := 121) rfl)) rfl
set_option maxRecDepth 100000 in
theorem k_424 : Cond.static yX9_arePairs ∈ Tw := tw_of (tb_2 (List.mem_of_getElem? (i := 122) rfl)) rfl
set_option maxRecDepth 100000 in
theorem k_425 : Cond.code yX9_arePairs prog_1_method_51_code 1 (some FieldType.boolean) ∈ Tw := tw_of (tb_2 (List.mem_of_getElem? (i := 123) rfl)) rfl
set_option maxRecDepth 100000 in
theorem k_426 : Cond.methodLink "TwinTables" 69 yX0_has ∈ Tw := tw_of (tb_2 (List.mem_of_getElem? (i := 124) rfl)) rfl
set_option maxRecDepth 100000 in
theorem k_427 : Cond.instanceMethod yX0_has ∈ Tw := tw_of (tb_2 (List.mem_of_getElem? (i := 125) rfl)) rfl
set_option maxRecDepth 100000 in
theorem k_428 : Cond.selects "TwinTables$Figures" yX0_has yX0_has ∈ Tw := tw_of (tb_2 (List.mem_of_getElem? (i := 126) rfl)) rfl
set_option maxRecDepth 100000 in
theorem k_429 : Cond.code yX0_has prog_2_method_4_code 2 (some FieldType.boolean) ∈ Tw := tw_of (tb_2 (List.mem_of_getElem? (i := 127) rfl)) rfl
set_option maxRecDepth 100000 in
theorem k_430 : Cond.constant "TwinTables" 79 (-1000000003) ∈ Tw := tw_of (tb_2 (List.mem_of_getElem? (i := 128) rfl)) rfl
set_option maxRecDepth 100000 in
theorem k_431 : Cond.methodLink "TwinTables" 80 yX0_add ∈ Tw := tw_of (tb_2 (List.mem_of_getElem? (i := 129) rfl)) rfl
set_option maxRecDepth 100000 in
theorem k_432 : Cond.instanceMethod yX0_add ∈ Tw := tw_of (tb_2 (List.mem_of_getElem? (i := 130) rfl)) rfl
set_option maxRecDepth 100000 in
theorem k_433 : Cond.selects "TwinTables$Figures" yX0_add yX0_add ∈ Tw := tw_of (tb_2 (List.mem_of_getElem? (i := 131) rfl)) rfl
set_option maxRecDepth 100000 in
theorem k_434 : Cond.code yX0_add prog_2_method_6_code 6 (some FieldType.int) ∈ Tw := tw_of (tb_2 (List.mem_of_getElem? (i := 132) rfl)) rfl
set_option maxRecDepth 100000 in
theorem k_435 : Cond.methodLink "TwinTablesLaw" 23 yX9_told ∈ Tw := tw_of (tb_2 (List.mem_of_getElem? (i := 133) rfl)) rfl
set_option maxRecDepth 100000 in
theorem k_436 : Cond.instanceMethod yX9_told ∈ Tw := tw_of (tb_2 (List.mem_of_getElem? (i := 134) rfl)) rfl
set_option maxRecDepth 100000 in
theorem k_437 : Cond.selects "TwinTables" yX9_told yX9_told ∈ Tw := tw_of (tb_2 (List.mem_of_getElem? (i := 135) rfl)) rfl
set_option maxRecDepth 100000 in
theorem k_438 : Cond.code yX9_told prog_1_method_4_code 4 (some FieldType.int) ∈ Tw := tw_of (tb_2 (List.mem_of_getElem? (i := 136) rfl)) rfl
set_option maxRecDepth 100000 in
theorem k_439 : Cond.constant "TwinTables" 96 (-1000000005) ∈ Tw := tw_of (tb_2 (List.mem_of_getElem? (i := 137) rfl)) rfl
set_option maxRecDepth 100000 in
theorem k_440 : Cond.methodLink "TwinTables" 97 yX6_fits ∈ Tw := tw_of (tb_2 (List.mem_of_getElem? (i := 138) rfl)) rfl
set_option maxRecDepth 100000 in
theorem k_441 : Cond.instanceMethod yX6_fits ∈ Tw := tw_of (tb_2 (List.mem_of_getElem? (i := 139) rfl)) rfl
set_option maxRecDepth 100000 in
theorem k_442 : Cond.selects "TwinTables$State" yX6_fits yX6_fits ∈ Tw := tw_of (tb_2 (List.mem_of_getElem? (i := 140) rfl)) rfl
set_option maxRecDepth 100000 in
theorem k_443 : Cond.code yX6_fits prog_8_method_8_code 6 (some FieldType.boolean) ∈ Tw := tw_of (tb_2 (List.mem_of_getElem? (i := 141) rfl)) rfl
set_option maxRecDepth 100000 in
theorem k_444 : Cond.methodLink "TwinTables$State" 114 yX0_has ∈ Tw := tw_of (tb_2 (List.mem_of_getElem? (i := 142) rfl)) rfl
set_option maxRecDepth 100000 in
theorem k_445 : Cond.methodLink "TwinTables$State" 130 yJ9_abs_0f7a4 ∈ Tw := tw_of (tb_2 (List.mem_of_getElem? (i := 143) rfl)) rfl
set_option maxRecDepth 100000 in
theorem k_446 : Cond.static yJ9_abs_0f7a4 ∈ Tw := tw_of (tb_2 (List.mem_of_getElem? (i := 144) rfl)) rfl
set_option maxRecDepth 100000 in
theorem k_447 : Cond.code yJ9_abs_0f7a4 prog_15_method_59_code 1 (some FieldType.int) ∈ Tw := tw_of (tb_2 (List.mem_of_getElem? (i := 145) rfl)) rfl
set_option maxRecDepth 100000 in
theorem k_448 : Cond.methodLink "TwinTables$State" 135 yX6_spreadOf ∈ Tw := tw_of (tb_2 (List.mem_of_getElem? (i := 146) rfl)) rfl
set_option maxRecDepth 100000 in
theorem k_449 : Cond.instanceMethod yX6_spreadOf ∈ Tw := tw_of (tb_2 (List.mem_of_getElem? (i := 147) rfl)) rfl
set_option maxRecDepth 100000 in
theorem k_450 : Cond.selects "TwinTables$State" yX6_spreadOf yX6_spreadOf ∈ Tw := tw_of (tb_2 (List.mem_of_getElem? (i := 148) rfl)) rfl
set_option maxRecDepth 100000 in
theorem k_451 : Cond.code yX6_spreadOf prog_8_method_4_code 2 (some FieldType.int) ∈ Tw := tw_of (tb_2 (List.mem_of_getElem? (i := 149) rfl)) rfl
set_option maxRecDepth 100000 in
theorem k_452 : Cond.methodLink "TwinTables$State" 101 yX0_yearOf ∈ Tw := tw_of (tb_2 (List.mem_of_getElem? (i := 150) rfl)) rfl
set_option maxRecDepth 100000 in
theorem k_453 : Cond.instanceMethod yX0_yearOf ∈ Tw := tw_of (tb_2 (List.mem_of_getElem? (i := 151) rfl)) rfl
set_option maxRecDepth 100000 in
theorem k_454 : Cond.selects "TwinTables$Figures" yX0_yearOf yX0_yearOf ∈ Tw := tw_of (tb_2 (List.mem_of_getElem? (i := 152) rfl)) rfl
set_option maxRecDepth 100000 in
theorem k_455 : Cond.code yX0_yearOf prog_2_method_7_code 2 (some FieldType.int) ∈ Tw := tw_of (tb_2 (List.mem_of_getElem? (i := 153) rfl)) rfl
set_option maxRecDepth 100000 in
theorem k_456 : Cond.methodLink "TwinTables$State" 105 yX6_spreadFor ∈ Tw := tw_of (tb_2 (List.mem_of_getElem? (i := 154) rfl)) rfl
set_option maxRecDepth 100000 in
theorem k_457 : Cond.instanceMethod yX6_spreadFor ∈ Tw := tw_of (tb_2 (List.mem_of_getElem? (i := 155) rfl)) rfl
set_option maxRecDepth 100000 in
theorem k_458 : Cond.selects "TwinTables$State" yX6_spreadFor yX6_spreadFor ∈ Tw := tw_of (tb_2 (List.mem_of_getElem? (i := 156) rfl)) rfl
set_option maxRecDepth 100000 in
theorem k_459 : Cond.code yX6_spreadFor prog_8_method_3_code 4 (some FieldType.int) ∈ Tw := tw_of (tb_2 (List.mem_of_getElem? (i := 157) rfl)) rfl
set_option maxRecDepth 100000 in
theorem k_460 : Cond.methodLink "TwinTables$State" 85 yX8_latest ∈ Tw := tw_of (tb_2 (List.mem_of_getElem? (i := 158) rfl)) rfl
set_option maxRecDepth 100000 in
theorem k_461 : Cond.instanceMethod yX8_latest ∈ Tw := tw_of (tb_2 (List.mem_of_getElem? (i := 159) rfl)) rfl
set_option maxRecDepth 100000 in
theorem k_462 : Cond.selects "TwinTables$Texts" yX8_latest yX8_latest ∈ Tw := tw_of (tb_2 (List.mem_of_getElem? (i := 160) rfl)) rfl
set_option maxRecDepth 100000 in
theorem k_463 : Cond.code yX8_latest prog_10_method_4_code 4 (some FieldType.int) ∈ Tw := tw_of (tb_2 (List.mem_of_getElem? (i := 161) rfl)) rfl
set_option maxRecDepth 100000 in
theorem k_464 : Cond.constant "TwinTables$Texts" 53 (-1000000005) ∈ Tw := tw_of (tb_2 (List.mem_of_getElem? (i := 162) rfl)) rfl
set_option maxRecDepth 100000 in
theorem k_465 : Cond.constant "TwinTables$State" 89 (-1000000005) ∈ Tw := tw_of (tb_2 (List.mem_of_getElem? (i := 163) rfl)) rfl
set_option maxRecDepth 100000 in
theorem k_466 : Cond.methodLink "TwinTables$State" 90 yX8_give ∈ Tw := tw_of (tb_2 (List.mem_of_getElem? (i := 164) rfl)) rfl
set_option maxRecDepth 100000 in
theorem k_467 : Cond.instanceMethod yX8_give ∈ Tw := tw_of (tb_2 (List.mem_of_getElem? (i := 165) rfl)) rfl
set_option maxRecDepth 100000 in
theorem k_468 : Cond.selects "TwinTables$Texts" yX8_give yX8_give ∈ Tw := tw_of (tb_2 (List.mem_of_getElem? (i := 166) rfl)) rfl
set_option maxRecDepth 100000 in
theorem k_469 : Cond.code yX8_give prog_10_method_5_code 8 (some FieldType.int) ∈ Tw := tw_of (tb_2 (List.mem_of_getElem? (i := 167) rfl)) rfl
set_option maxRecDepth 100000 in
theorem k_470 : Cond.methodLink "TwinTables$Texts" 54 yX8_join ∈ Tw := tw_of (tb_2 (List.mem_of_getElem? (i := 168) rfl)) rfl
set_option maxRecDepth 100000 in
theorem k_471 : Cond.static yX8_join ∈ Tw := tw_of (tb_2 (List.mem_of_getElem? (i := 169) rfl)) rfl
set_option maxRecDepth 100000 in
theorem k_472 : Cond.code yX8_join prog_10_method_6_code 3 (some FieldType.int) ∈ Tw := tw_of (tb_2 (List.mem_of_getElem? (i := 170) rfl)) rfl
set_option maxRecDepth 100000 in
theorem k_473 : Cond.methodLinkNest "TwinTables$State" 94 yX9_holdWithin "TwinTables" ∈ lw_tbl := tb_2 (List.mem_of_getElem? (i := 171) rfl)
set_option maxRecDepth 100000 in
theorem k_474 : Cond.static yX9_holdWithin ∈ Tw := tw_of (tb_2 (List.mem_of_getElem? (i := 172) rfl)) rfl
set_option maxRecDepth 100000 in
theorem k_475 : Cond.code yX9_holdWithin prog_1_method_49_code 3 (some FieldType.int) ∈ Tw := tw_of (tb_2 (List.mem_of_getElem? (i := 173) rfl)) rfl
set_option maxRecDepth 100000 in
theorem k_476 : Cond.methodLink "TwinTables$State" 138 yX6_isWorkedWithin ∈ Tw := tw_of (tb_2 (List.mem_of_getElem? (i := 174) rfl)) rfl
set_option maxRecDepth 100000 in
theorem k_478 : Cond.instanceMethod yX6_isWorkedWithin ∈ Tw := tw_of (tb_2 (List.mem_of_getElem? (i := 176) rfl)) rfl
set_option maxRecDepth 100000 in
theorem k_479 : Cond.code yX6_isWorkedWithin prog_8_method_7_code 5 (some FieldType.boolean) ∈ Tw := tw_of (tb_2 (List.mem_of_getElem? (i := 177) rfl)) rfl
set_option maxRecDepth 100000 in
theorem k_480 : Cond.methodLink "TwinTables$State" 124 yX6_isWorked ∈ Tw := tw_of (tb_2 (List.mem_of_getElem? (i := 178) rfl)) rfl
set_option maxRecDepth 100000 in
theorem k_481 : Cond.instanceMethod yX6_isWorked ∈ Tw := tw_of (tb_2 (List.mem_of_getElem? (i := 179) rfl)) rfl
set_option maxRecDepth 100000 in
theorem k_482 : Cond.selects "TwinTables$State" yX6_isWorked yX6_isWorked ∈ Tw := tw_of (tb_2 (List.mem_of_getElem? (i := 180) rfl)) rfl
set_option maxRecDepth 100000 in
theorem k_483 : Cond.code yX6_isWorked prog_8_method_5_code 2 (some FieldType.boolean) ∈ Tw := tw_of (tb_2 (List.mem_of_getElem? (i := 181) rfl)) rfl
set_option maxRecDepth 100000 in
theorem k_484 : Cond.methodLink "TwinTables$State" 127 yX6_worked ∈ Tw := tw_of (tb_2 (List.mem_of_getElem? (i := 182) rfl)) rfl
set_option maxRecDepth 100000 in
theorem k_485 : Cond.instanceMethod yX6_worked ∈ Tw := tw_of (tb_2 (List.mem_of_getElem? (i := 183) rfl)) rfl
set_option maxRecDepth 100000 in
theorem k_486 : Cond.selects "TwinTables$State" yX6_worked yX6_worked ∈ Tw := tw_of (tb_2 (List.mem_of_getElem? (i := 184) rfl)) rfl
set_option maxRecDepth 100000 in
theorem k_487 : Cond.code yX6_worked prog_8_method_6_code 5 (some FieldType.int) ∈ Tw := tw_of (tb_2 (List.mem_of_getElem? (i := 185) rfl)) rfl
set_option maxRecDepth 100000 in
theorem k_488 : Cond.methodLink "TwinTables$State" 121 yX0_aheadOf ∈ Tw := tw_of (tb_2 (List.mem_of_getElem? (i := 186) rfl)) rfl
set_option maxRecDepth 100000 in
theorem k_489 : Cond.instanceMethod yX0_aheadOf ∈ Tw := tw_of (tb_2 (List.mem_of_getElem? (i := 187) rfl)) rfl
set_option maxRecDepth 100000 in
theorem k_490 : Cond.selects "TwinTables$Figures" yX0_aheadOf yX0_aheadOf ∈ Tw := tw_of (tb_2 (List.mem_of_getElem? (i := 188) rfl)) rfl
set_option maxRecDepth 100000 in
theorem k_491 : Cond.code yX0_aheadOf prog_2_method_8_code 4 (some FieldType.int) ∈ Tw := tw_of (tb_2 (List.mem_of_getElem? (i := 189) rfl)) rfl
set_option maxRecDepth 100000 in
theorem k_492 : Cond.methodLink "TwinTables$State" 142 yX6_unlikeDigits ∈ Tw := tw_of (tb_2 (List.mem_of_getElem? (i := 190) rfl)) rfl
set_option maxRecDepth 100000 in
theorem k_493 : Cond.static yX6_unlikeDigits ∈ Tw := tw_of (tb_2 (List.mem_of_getElem? (i := 191) rfl)) rfl
set_option maxRecDepth 100000 in
theorem k_494 : Cond.code yX6_unlikeDigits prog_8_method_9_code 4 (some FieldType.int) ∈ Tw := tw_of (tb_2 (List.mem_of_getElem? (i := 192) rfl)) rfl
set_option maxRecDepth 100000 in
theorem k_495 : Cond.fieldLinkNest "TwinTables$State" 145 "TwinTables" "CUTS" "[I" "TwinTables" ∈ lw_tbl := tb_2 (List.mem_of_getElem? (i := 193) rfl)
set_option maxRecDepth 100000 in
theorem k_497 : Cond.methodLink "TwinTables" 101 yX9_price ∈ Tw := tw_of (tb_2 (List.mem_of_getElem? (i := 195) rfl)) rfl
set_option maxRecDepth 100000 in
theorem k_498 : Cond.static yX9_price ∈ Tw := tw_of (tb_2 (List.mem_of_getElem? (i := 196) rfl)) rfl
set_option maxRecDepth 100000 in
theorem k_499 : Cond.code yX9_price prog_1_method_60_code 2 (some FieldType.int) ∈ Tw := tw_of (tb_2 (List.mem_of_getElem? (i := 197) rfl)) rfl
set_option maxRecDepth 100000 in
theorem k_500 : Cond.fieldLink "TwinTables" 358 "TwinTables" "PRICES" "[I" ∈ Tw := tw_of (tb_2 (List.mem_of_getElem? (i := 198) rfl)) rfl
set_option maxRecDepth 100000 in
theorem k_502 : Cond.methodLink "TwinTables" 105 yX6_spreadOf ∈ Tw := tw_of (tb_2 (List.mem_of_getElem? (i := 200) rfl)) rfl
set_option maxRecDepth 100000 in
theorem k_503 : Cond.methodLink "TwinTables" 108 yX6_isWorked ∈ Tw := tw_of (tb_2 (List.mem_of_getElem? (i := 201) rfl)) rfl
set_option maxRecDepth 100000 in
theorem k_504 : Cond.methodLink "TwinTables" 111 yX6_worked ∈ Tw := tw_of (tb_2 (List.mem_of_getElem? (i := 202) rfl)) rfl
set_option maxRecDepth 100000 in
theorem k_505 : Cond.methodLink "TwinTables" 118 yX3_holder ∈ Tw := tw_of (tb_2 (List.mem_of_getElem? (i := 203) rfl)) rfl
set_option maxRecDepth 100000 in
theorem k_506 : Cond.instanceMethod yX3_holder ∈ Tw := tw_of (tb_2 (List.mem_of_getElem? (i := 204) rfl)) rfl
set_option maxRecDepth 100000 in
theorem k_507 : Cond.selects "TwinTables$Lines" yX3_holder yX3_holder ∈ Tw := tw_of (tb_2 (List.mem_of_getElem? (i := 205) rfl)) rfl
set_option maxRecDepth 100000 in
theorem k_508 : Cond.code yX3_holder prog_5_method_6_code 4 (some FieldType.int) ∈ Tw := tw_of (tb_2 (List.mem_of_getElem? (i := 206) rfl)) rfl
set_option maxRecDepth 100000 in
theorem k_509 : Cond.constant "TwinTables$Lines" 28 (-1000000005) ∈ Tw := tw_of (tb_2 (List.mem_of_getElem? (i := 207) rfl)) rfl
set_option maxRecDepth 100000 in
theorem k_510 : Cond.methodLink "TwinTables" 123 yX0_yearOf ∈ Tw := tw_of (tb_2 (List.mem_of_getElem? (i := 208) rfl)) rfl
set_option maxRecDepth 100000 in
theorem k_511 : Cond.methodLink "TwinTablesLaw" 28 yX9_as ∈ Tw := tw_of (tb_2 (List.mem_of_getElem? (i := 209) rfl)) rfl
set_option maxRecDepth 100000 in
theorem k_512 : Cond.instanceMethod yX9_as ∈ Tw := tw_of (tb_2 (List.mem_of_getElem? (i := 210) rfl)) rfl
set_option maxRecDepth 100000 in
theorem k_513 : Cond.selects "TwinTables" yX9_as yX9_as ∈ Tw := tw_of (tb_2 (List.mem_of_getElem? (i := 211) rfl)) rfl
set_option maxRecDepth 100000 in
theorem k_514 : Cond.code yX9_as prog_1_method_5_code 3 (some FieldType.int) ∈ Tw := tw_of (tb_2 (List.mem_of_getElem? (i := 212) rfl)) rfl
set_option maxRecDepth 100000 in
theorem k_515 : Cond.methodLink "TwinTables" 126 yX9_isOfKind ∈ Tw := tw_of (tb_2 (List.mem_of_getElem? (i := 213) rfl)) rfl
set_option maxRecDepth 100000 in
theorem k_516 : Cond.static yX9_isOfKind ∈ Tw := tw_of (tb_2 (List.mem_of_getElem? (i := 214) rfl)) rfl
set_option maxRecDepth 100000 in
theorem k_517 : Cond.code yX9_isOfKind prog_1_method_58_code 4 (some FieldType.boolean) ∈ Tw := tw_of (tb_2 (List.mem_of_getElem? (i := 215) rfl)) rfl
set_option maxRecDepth 100000 in
theorem k_518 : Cond.fieldLink "TwinTables" 355 "TwinTables" "ABOVE" "[I" ∈ Tw := tw_of (tb_2 (List.mem_of_getElem? (i := 216) rfl)) rfl
set_option maxRecDepth 100000 in
theorem k_520 : Cond.constant "TwinTables" 129 (-1000000012) ∈ Tw := tw_of (tb_2 (List.mem_of_getElem? (i := 218) rfl)) rfl
set_option maxRecDepth 100000 in
theorem k_521 : Cond.methodLink "TwinTablesLaw" 32 yX9_turns ∈ Tw := tw_of (tb_2 (List.mem_of_getElem? (i := 219) rfl)) rfl
set_option maxRecDepth 100000 in
theorem k_522 : Cond.instanceMethod yX9_turns ∈ Tw := tw_of (tb_2 (List.mem_of_getElem? (i := 220) rfl)) rfl
set_option maxRecDepth 100000 in
theorem k_523 : Cond.selects "TwinTables" yX9_turns yX9_turns ∈ Tw := tw_of (tb_2 (List.mem_of_getElem? (i := 221) rfl)) rfl
set_option maxRecDepth 100000 in
theorem k_524 : Cond.code yX9_turns prog_1_method_6_code 4 (some FieldType.int) ∈ Tw := tw_of (tb_2 (List.mem_of_getElem? (i := 222) rfl)) rfl
set_option maxRecDepth 100000 in
theorem k_525 : Cond.methodLink "TwinTablesLaw" 36 yX9_base ∈ Tw := tw_of (tb_2 (List.mem_of_getElem? (i := 223) rfl)) rfl
set_option maxRecDepth 100000 in
theorem k_526 : Cond.instanceMethod yX9_base ∈ Tw := tw_of (tb_2 (List.mem_of_getElem? (i := 224) rfl)) rfl
set_option maxRecDepth 100000 in
theorem k_527 : Cond.selects "TwinTables" yX9_base yX9_base ∈ Tw := tw_of (tb_2 (List.mem_of_getElem? (i := 225) rfl)) rfl
set_option maxRecDepth 100000 in
theorem k_528 : Cond.code yX9_base prog_1_method_7_code 3 (some FieldType.int) ∈ Tw := tw_of (tb_2 (List.mem_of_getElem? (i := 226) rfl)) rfl
set_option maxRecDepth 100000 in
theorem k_529 : Cond.methodLink "TwinTablesLaw" 40 yX9_feed ∈ Tw := tw_of (tb_2 (List.mem_of_getElem? (i := 227) rfl)) rfl
set_option maxRecDepth 100000 in
theorem k_530 : Cond.instanceMethod yX9_feed ∈ Tw := tw_of (tb_2 (List.mem_of_getElem? (i := 228) rfl)) rfl
set_option maxRecDepth 100000 in
theorem k_531 : Cond.selects "TwinTables" yX9_feed yX9_feed ∈ Tw := tw_of (tb_2 (List.mem_of_getElem? (i := 229) rfl)) rfl
set_option maxRecDepth 100000 in
theorem k_532 : Cond.code yX9_feed prog_1_method_8_code 4 (some FieldType.int) ∈ Tw := tw_of (tb_2 (List.mem_of_getElem? (i := 230) rfl)) rfl
set_option maxRecDepth 100000 in
theorem k_533 : Cond.methodLink "TwinTables" 134 yX7_add ∈ Tw := tw_of (tb_2 (List.mem_of_getElem? (i := 231) rfl)) rfl
set_option maxRecDepth 100000 in
theorem k_534 : Cond.instanceMethod yX7_add ∈ Tw := tw_of (tb_2 (List.mem_of_getElem? (i := 232) rfl)) rfl
set_option maxRecDepth 100000 in
theorem k_535 : Cond.selects "TwinTables$Tape" yX7_add yX7_add ∈ Tw := tw_of (tb_2 (List.mem_of_getElem? (i := 233) rfl)) rfl
set_option maxRecDepth 100000 in
theorem k_536 : Cond.code yX7_add prog_9_method_2_code 3 none ∈ Tw := tw_of (tb_2 (List.mem_of_getElem? (i := 234) rfl)) rfl
set_option maxRecDepth 100000 in
theorem k_537 : Cond.methodLink "TwinTablesLaw" 45 yX9_trim ∈ Tw := tw_of (tb_2 (List.mem_of_getElem? (i := 235) rfl)) rfl
set_option maxRecDepth 100000 in
theorem k_538 : Cond.instanceMethod yX9_trim ∈ Tw := tw_of (tb_2 (List.mem_of_getElem? (i := 236) rfl)) rfl
set_option maxRecDepth 100000 in
theorem k_539 : Cond.selects "TwinTables" yX9_trim yX9_trim ∈ Tw := tw_of (tb_2 (List.mem_of_getElem? (i := 237) rfl)) rfl
set_option maxRecDepth 100000 in
theorem k_540 : Cond.code yX9_trim prog_1_method_9_code 2 (some FieldType.int) ∈ Tw := tw_of (tb_2 (List.mem_of_getElem? (i := 238) rfl)) rfl
set_option maxRecDepth 100000 in
theorem k_541 : Cond.methodLink "TwinTablesLaw" 49 yX9_text ∈ Tw := tw_of (tb_2 (List.mem_of_getElem? (i := 239) rfl)) rfl
set_option maxRecDepth 100000 in
theorem k_542 : Cond.instanceMethod yX9_text ∈ Tw := tw_of (tb_3 (List.mem_of_getElem? (i := 0) rfl)) rfl
set_option maxRecDepth 100000 in
theorem k_543 : Cond.selects "TwinTables" yX9_text yX9_text ∈ Tw := tw_of (tb_3 (List.mem_of_getElem? (i := 1) rfl)) rfl
set_option maxRecDepth 100000 in
theorem k_544 : Cond.code yX9_text prog_1_method_10_code 1 (some FieldType.int) ∈ Tw := tw_of (tb_3 (List.mem_of_getElem? (i := 2) rfl)) rfl
set_option maxRecDepth 100000 in
theorem k_545 : Cond.methodLink "TwinTables" 137 yX7_readText ∈ Tw := tw_of (tb_3 (List.mem_of_getElem? (i := 3) rfl)) rfl
set_option maxRecDepth 100000 in
theorem k_546 : Cond.instanceMethod yX7_readText ∈ Tw := tw_of (tb_3 (List.mem_of_getElem? (i := 4) rfl)) rfl
set_option maxRecDepth 100000 in
theorem k_547 : Cond.selects "TwinTables$Tape" yX7_readText yX7_readText ∈ Tw := tw_of (tb_3 (List.mem_of_getElem? (i := 5) rfl)) rfl
set_option maxRecDepth 100000 in
theorem k_548 : Cond.code yX7_readText prog_9_method_3_code 1 none ∈ Tw := tw_of (tb_3 (List.mem_of_getElem? (i := 6) rfl)) rfl
set_option maxRecDepth 100000 in
theorem k_549 : Cond.methodLink "TwinTables$Tape" 38 yX7_forward ∈ Tw := tw_of (tb_3 (List.mem_of_getElem? (i := 7) rfl)) rfl
set_option maxRecDepth 100000 in
theorem k_551 : Cond.instanceMethod yX7_forward ∈ Tw := tw_of (tb_3 (List.mem_of_getElem? (i := 9) rfl)) rfl
set_option maxRecDepth 100000 in
theorem k_552 : Cond.code yX7_forward prog_9_method_11_code 3 none ∈ Tw := tw_of (tb_3 (List.mem_of_getElem? (i := 10) rfl)) rfl
set_option maxRecDepth 100000 in
theorem k_553 : Cond.methodLink "TwinTables$Tape" 93 yX7_sortAt ∈ Tw := tw_of (tb_3 (List.mem_of_getElem? (i := 11) rfl)) rfl
set_option maxRecDepth 100000 in
theorem k_555 : Cond.instanceMethod yX7_sortAt ∈ Tw := tw_of (tb_3 (List.mem_of_getElem? (i := 13) rfl)) rfl
set_option maxRecDepth 100000 in
theorem k_556 : Cond.code yX7_sortAt prog_9_method_12_code 3 (some FieldType.int) ∈ Tw := tw_of (tb_3 (List.mem_of_getElem? (i := 14) rfl)) rfl
set_option maxRecDepth 100000 in
theorem k_557 : Cond.methodLink "TwinTables$Tape" 41 yX7_readHead ∈ Tw := tw_of (tb_3 (List.mem_of_getElem? (i := 15) rfl)) rfl
set_option maxRecDepth 100000 in
theorem k_559 : Cond.instanceMethod yX7_readHead ∈ Tw := tw_of (tb_3 (List.mem_of_getElem? (i := 17) rfl)) rfl
set_option maxRecDepth 100000 in
theorem k_560 : Cond.code yX7_readHead prog_9_method_4_code 1 none ∈ Tw := tw_of (tb_3 (List.mem_of_getElem? (i := 18) rfl)) rfl
set_option maxRecDepth 100000 in
theorem k_561 : Cond.methodLink "TwinTables$Tape" 51 yX7_keyHere ∈ Tw := tw_of (tb_3 (List.mem_of_getElem? (i := 19) rfl)) rfl
set_option maxRecDepth 100000 in
theorem k_563 : Cond.instanceMethod yX7_keyHere ∈ Tw := tw_of (tb_3 (List.mem_of_getElem? (i := 21) rfl)) rfl
set_option maxRecDepth 100000 in
theorem k_564 : Cond.code yX7_keyHere prog_9_method_17_code 1 (some FieldType.int) ∈ Tw := tw_of (tb_3 (List.mem_of_getElem? (i := 22) rfl)) rfl
set_option maxRecDepth 100000 in
theorem k_566 : Cond.methodLink "TwinTables$Tape" 110 yX7_isWordHere ∈ Tw := tw_of (tb_3 (List.mem_of_getElem? (i := 24) rfl)) rfl
set_option maxRecDepth 100000 in
theorem k_568 : Cond.instanceMethod yX7_isWordHere ∈ Tw := tw_of (tb_3 (List.mem_of_getElem? (i := 26) rfl)) rfl
set_option maxRecDepth 100000 in
theorem k_569 : Cond.code yX7_isWordHere prog_9_method_18_code 3 (some FieldType.boolean) ∈ Tw := tw_of (tb_3 (List.mem_of_getElem? (i := 27) rfl)) rfl
set_option maxRecDepth 100000 in
theorem k_570 : Cond.methodLink "TwinTables$Tape" 118 yJ0_length_8abf5 ∈ Tw := tw_of (tb_3 (List.mem_of_getElem? (i := 28) rfl)) rfl
set_option maxRecDepth 100000 in
theorem k_571 : Cond.instanceMethod yJ0_length_8abf5 ∈ Tw := tw_of (tb_3 (List.mem_of_getElem? (i := 29) rfl)) rfl
set_option maxRecDepth 100000 in
theorem k_572 : Cond.selects "java/lang/String" yJ0_length_8abf5 yJ0_length_8abf5 ∈ Tw := tw_of (tb_3 (List.mem_of_getElem? (i := 30) rfl)) rfl
set_option maxRecDepth 100000 in
theorem k_573 : Cond.code yJ0_length_8abf5 prog_16_method_54_code 1 (some FieldType.int) ∈ Tw := tw_of (tb_3 (List.mem_of_getElem? (i := 31) rfl)) rfl
set_option maxRecDepth 100000 in
theorem k_574 : Cond.methodLink "java/lang/String" 335 yJ0_coder_7d493 ∈ Tw := tw_of (tb_3 (List.mem_of_getElem? (i := 32) rfl)) rfl
set_option maxRecDepth 100000 in
theorem k_575 : Cond.instanceMethod yJ0_coder_7d493 ∈ Tw := tw_of (tb_3 (List.mem_of_getElem? (i := 33) rfl)) rfl
set_option maxRecDepth 100000 in
theorem k_576 : Cond.selects "java/lang/String" yJ0_coder_7d493 yJ0_coder_7d493 ∈ Tw := tw_of (tb_3 (List.mem_of_getElem? (i := 34) rfl)) rfl
set_option maxRecDepth 100000 in
theorem k_577 : Cond.code yJ0_coder_7d493 prog_16_method_152_code 1 (some FieldType.byte) ∈ Tw := tw_of (tb_3 (List.mem_of_getElem? (i := 35) rfl)) rfl
set_option maxRecDepth 100000 in
theorem k_578 : Cond.fieldLink "java/lang/String" 38 "java/lang/String" "COMPACT_STRINGS" "Z" ∈ Tw := tw_of (tb_3 (List.mem_of_getElem? (i := 36) rfl)) rfl
set_option maxRecDepth 100000 in
theorem k_580 : Cond.methodLink "TwinTables$Tape" 121 yJ0_charAt_5068e ∈ Tw := tw_of (tb_3 (List.mem_of_getElem? (i := 38) rfl)) rfl
set_option maxRecDepth 100000 in
theorem k_581 : Cond.instanceMethod yJ0_charAt_5068e ∈ Tw := tw_of (tb_3 (List.mem_of_getElem? (i := 39) rfl)) rfl
set_option maxRecDepth 100000 in
theorem k_582 : Cond.selects "java/lang/String" yJ0_charAt_5068e yJ0_charAt_5068e ∈ Tw := tw_of (tb_3 (List.mem_of_getElem? (i := 40) rfl)) rfl
set_option maxRecDepth 100000 in
theorem k_583 : Cond.code yJ0_charAt_5068e prog_16_method_56_code 2 (some FieldType.char) ∈ Tw := tw_of (tb_3 (List.mem_of_getElem? (i := 41) rfl)) rfl
set_option maxRecDepth 100000 in
theorem k_584 : Cond.methodLink "java/lang/String" 492 yJ0_isLatin1_aae02 ∈ Tw := tw_of (tb_3 (List.mem_of_getElem? (i := 42) rfl)) rfl
set_option maxRecDepth 100000 in
theorem k_585 : Cond.instanceMethod yJ0_isLatin1_aae02 ∈ Tw := tw_of (tb_3 (List.mem_of_getElem? (i := 43) rfl)) rfl
set_option maxRecDepth 100000 in
theorem k_586 : Cond.selects "java/lang/String" yJ0_isLatin1_aae02 yJ0_isLatin1_aae02 ∈ Tw := tw_of (tb_3 (List.mem_of_getElem? (i := 44) rfl)) rfl
set_option maxRecDepth 100000 in
theorem k_587 : Cond.code yJ0_isLatin1_aae02 prog_16_method_154_code 1 (some FieldType.boolean) ∈ Tw := tw_of (tb_3 (List.mem_of_getElem? (i := 45) rfl)) rfl
set_option maxRecDepth 100000 in
theorem k_588 : Cond.methodLink "java/lang/String" 495 yJ1_charAt_3b067 ∈ Tw := tw_of (tb_3 (List.mem_of_getElem? (i := 46) rfl)) rfl
set_option maxRecDepth 100000 in
theorem k_589 : Cond.static yJ1_charAt_3b067 ∈ Tw := tw_of (tb_3 (List.mem_of_getElem? (i := 47) rfl)) rfl
set_option maxRecDepth 100000 in
theorem k_590 : Cond.code yJ1_charAt_3b067 prog_17_method_2_code 2 (some FieldType.char) ∈ Tw := tw_of (tb_3 (List.mem_of_getElem? (i := 48) rfl)) rfl
set_option maxRecDepth 100000 in
theorem k_591 : Cond.methodLink "java/lang/StringLatin1" 9 yJ0_checkIndex_df160 ∈ Tw := tw_of (tb_3 (List.mem_of_getElem? (i := 49) rfl)) rfl
set_option maxRecDepth 100000 in
theorem k_592 : Cond.static yJ0_checkIndex_df160 ∈ Tw := tw_of (tb_3 (List.mem_of_getElem? (i := 50) rfl)) rfl
set_option maxRecDepth 100000 in
theorem k_593 : Cond.code yJ0_checkIndex_df160 prog_16_method_155_code 2 none ∈ Tw := tw_of (tb_3 (List.mem_of_getElem? (i := 51) rfl)) rfl
set_option maxRecDepth 100000 in
theorem k_594 : Cond.fieldLink "java/lang/String" 1053 "jdk/internal/util/Preconditions" "SIOOBE_FORMATTER" "Ljava/util/function/BiFunction;" ∈ Tw := tw_of (tb_3 (List.mem_of_getElem? (i := 52) rfl)) rfl
set_option maxRecDepth 100000 in
theorem k_596 : Cond.methodLink "java/lang/String" 1059 yJ3_checkIndex_8e157 ∈ Tw := tw_of (tb_3 (List.mem_of_getElem? (i := 54) rfl)) rfl
set_option maxRecDepth 100000 in
theorem k_597 : Cond.static yJ3_checkIndex_8e157 ∈ Tw := tw_of (tb_3 (List.mem_of_getElem? (i := 55) rfl)) rfl
set_option maxRecDepth 100000 in
theorem k_598 : Cond.code yJ3_checkIndex_8e157 prog_20_method_11_code 3 (some FieldType.int) ∈ Tw := tw_of (tb_3 (List.mem_of_getElem? (i := 56) rfl)) rfl
set_option maxRecDepth 100000 in
theorem k_599 : Cond.methodLink "java/lang/String" 498 yJ2_charAt_3b067 ∈ Tw := tw_of (tb_3 (List.mem_of_getElem? (i := 57) rfl)) rfl
set_option maxRecDepth 100000 in
theorem k_600 : Cond.static yJ2_charAt_3b067 ∈ Tw := tw_of (tb_3 (List.mem_of_getElem? (i := 58) rfl)) rfl
set_option maxRecDepth 100000 in
theorem k_601 : Cond.code yJ2_charAt_3b067 prog_18_method_83_code 2 (some FieldType.char) ∈ Tw := tw_of (tb_3 (List.mem_of_getElem? (i := 59) rfl)) rfl
set_option maxRecDepth 100000 in
theorem k_602 : Cond.methodLink "java/lang/StringUTF16" 67 yJ2_checkIndex_2214a ∈ Tw := tw_of (tb_3 (List.mem_of_getElem? (i := 60) rfl)) rfl
set_option maxRecDepth 100000 in
theorem k_603 : Cond.static yJ2_checkIndex_2214a ∈ Tw := tw_of (tb_3 (List.mem_of_getElem? (i := 61) rfl)) rfl
set_option maxRecDepth 100000 in
theorem k_604 : Cond.code yJ2_checkIndex_2214a prog_18_method_91_code 2 none ∈ Tw := tw_of (tb_3 (List.mem_of_getElem? (i := 62) rfl)) rfl
set_option maxRecDepth 100000 in
theorem k_605 : Cond.methodLink "java/lang/StringUTF16" 48 yJ2_length_9d52b ∈ Tw := tw_of (tb_3 (List.mem_of_getElem? (i := 63) rfl)) rfl
set_option maxRecDepth 100000 in
theorem k_606 : Cond.static yJ2_length_9d52b ∈ Tw := tw_of (tb_3 (List.mem_of_getElem? (i := 64) rfl)) rfl
set_option maxRecDepth 100000 in
theorem k_607 : Cond.code yJ2_length_9d52b prog_18_method_6_code 1 (some FieldType.int) ∈ Tw := tw_of (tb_3 (List.mem_of_getElem? (i := 65) rfl)) rfl
set_option maxRecDepth 100000 in
theorem k_608 : Cond.methodLink "java/lang/StringUTF16" 414 yJ0_checkIndex_df160 ∈ Tw := tw_of (tb_3 (List.mem_of_getElem? (i := 66) rfl)) rfl
set_option maxRecDepth 100000 in
theorem k_609 : Cond.methodLink "java/lang/StringUTF16" 71 yJ2_getChar_3b067 ∈ Tw := tw_of (tb_3 (List.mem_of_getElem? (i := 67) rfl)) rfl
set_option maxRecDepth 100000 in
theorem k_610 : Cond.static yJ2_getChar_3b067 ∈ Tw := tw_of (tb_3 (List.mem_of_getElem? (i := 68) rfl)) rfl
set_option maxRecDepth 100000 in
theorem k_611 : Cond.code yJ2_getChar_3b067 prog_18_method_5_code 2 (some FieldType.char) ∈ Tw := tw_of (tb_3 (List.mem_of_getElem? (i := 69) rfl)) rfl
set_option maxRecDepth 100000 in
theorem k_612 : Cond.fieldLink "java/lang/StringUTF16" 44 "java/lang/StringUTF16" "$assertionsDisabled" "Z" ∈ Tw := tw_of (tb_3 (List.mem_of_getElem? (i := 70) rfl)) rfl
set_option maxRecDepth 100000 in
theorem k_614 : Cond.fieldLink "java/lang/StringUTF16" 59 "java/lang/StringUTF16" "HI_BYTE_SHIFT" "I" ∈ Tw := tw_of (tb_3 (List.mem_of_getElem? (i := 72) rfl)) rfl
set_option maxRecDepth 100000 in
theorem k_616 : Cond.fieldLink "java/lang/StringUTF16" 63 "java/lang/StringUTF16" "LO_BYTE_SHIFT" "I" ∈ Tw := tw_of (tb_3 (List.mem_of_getElem? (i := 74) rfl)) rfl
set_option maxRecDepth 100000 in
theorem k_620 : Cond.constant "TwinTables$Tape" 58 (-1000000005) ∈ Tw := tw_of (tb_3 (List.mem_of_getElem? (i := 78) rfl)) rfl
set_option maxRecDepth 100000 in
theorem k_621 : Cond.methodLink "TwinTables$Tape" 62 yX7_isNumberHere ∈ Tw := tw_of (tb_3 (List.mem_of_getElem? (i := 79) rfl)) rfl
set_option maxRecDepth 100000 in
theorem k_623 : Cond.instanceMethod yX7_isNumberHere ∈ Tw := tw_of (tb_3 (List.mem_of_getElem? (i := 81) rfl)) rfl
set_option maxRecDepth 100000 in
theorem k_624 : Cond.code yX7_isNumberHere prog_9_method_14_code 1 (some FieldType.boolean) ∈ Tw := tw_of (tb_3 (List.mem_of_getElem? (i := 82) rfl)) rfl
set_option maxRecDepth 100000 in
theorem k_625 : Cond.methodLink "TwinTables$Tape" 66 yX7_numberHere ∈ Tw := tw_of (tb_3 (List.mem_of_getElem? (i := 83) rfl)) rfl
set_option maxRecDepth 100000 in
theorem k_627 : Cond.instanceMethod yX7_numberHere ∈ Tw := tw_of (tb_3 (List.mem_of_getElem? (i := 85) rfl)) rfl
set_option maxRecDepth 100000 in
theorem k_628 : Cond.code yX7_numberHere prog_9_method_15_code 3 (some FieldType.int) ∈ Tw := tw_of (tb_3 (List.mem_of_getElem? (i := 86) rfl)) rfl
set_option maxRecDepth 100000 in
theorem k_629 : Cond.methodLink "TwinTables$Tape" 44 yX7_readLevel ∈ Tw := tw_of (tb_3 (List.mem_of_getElem? (i := 87) rfl)) rfl
set_option maxRecDepth 100000 in
theorem k_631 : Cond.instanceMethod yX7_readLevel ∈ Tw := tw_of (tb_3 (List.mem_of_getElem? (i := 89) rfl)) rfl
set_option maxRecDepth 100000 in
theorem k_632 : Cond.code yX7_readLevel prog_9_method_5_code 7 none ∈ Tw := tw_of (tb_3 (List.mem_of_getElem? (i := 90) rfl)) rfl
set_option maxRecDepth 100000 in
theorem k_633 : Cond.methodLink "TwinTables$Tape" 69 yX7_readPiece ∈ Tw := tw_of (tb_3 (List.mem_of_getElem? (i := 91) rfl)) rfl
set_option maxRecDepth 100000 in
theorem k_635 : Cond.instanceMethod yX7_readPiece ∈ Tw := tw_of (tb_3 (List.mem_of_getElem? (i := 93) rfl)) rfl
set_option maxRecDepth 100000 in
theorem k_636 : Cond.code yX7_readPiece prog_9_method_6_code 4 none ∈ Tw := tw_of (tb_3 (List.mem_of_getElem? (i := 94) rfl)) rfl
set_option maxRecDepth 100000 in
theorem k_637 : Cond.methodLink "TwinTables$Tape" 73 yX7_signHere ∈ Tw := tw_of (tb_3 (List.mem_of_getElem? (i := 95) rfl)) rfl
set_option maxRecDepth 100000 in
theorem k_639 : Cond.instanceMethod yX7_signHere ∈ Tw := tw_of (tb_3 (List.mem_of_getElem? (i := 97) rfl)) rfl
set_option maxRecDepth 100000 in
theorem k_640 : Cond.code yX7_signHere prog_9_method_13_code 1 (some FieldType.int) ∈ Tw := tw_of (tb_3 (List.mem_of_getElem? (i := 98) rfl)) rfl
set_option maxRecDepth 100000 in
theorem k_641 : Cond.methodLink "TwinTables$Tape" 80 yX7_put ∈ Tw := tw_of (tb_3 (List.mem_of_getElem? (i := 99) rfl)) rfl
set_option maxRecDepth 100000 in
theorem k_643 : Cond.instanceMethod yX7_put ∈ Tw := tw_of (tb_3 (List.mem_of_getElem? (i := 101) rfl)) rfl
set_option maxRecDepth 100000 in
theorem k_644 : Cond.code yX7_put prog_9_method_9_code 2 none ∈ Tw := tw_of (tb_3 (List.mem_of_getElem? (i := 102) rfl)) rfl
set_option maxRecDepth 100000 in
theorem k_645 : Cond.methodLink "TwinTables$Tape" 84 yX7_readClosing ∈ Tw := tw_of (tb_3 (List.mem_of_getElem? (i := 103) rfl)) rfl
set_option maxRecDepth 100000 in
theorem k_647 : Cond.instanceMethod yX7_readClosing ∈ Tw := tw_of (tb_3 (List.mem_of_getElem? (i := 105) rfl)) rfl
set_option maxRecDepth 100000 in
theorem k_648 : Cond.code yX7_readClosing prog_9_method_7_code 1 none ∈ Tw := tw_of (tb_3 (List.mem_of_getElem? (i := 106) rfl)) rfl
set_option maxRecDepth 100000 in
theorem k_649 : Cond.methodLink "TwinTables$Tape" 87 yX7_readLeaf ∈ Tw := tw_of (tb_3 (List.mem_of_getElem? (i := 107) rfl)) rfl
set_option maxRecDepth 100000 in
theorem k_651 : Cond.instanceMethod yX7_readLeaf ∈ Tw := tw_of (tb_3 (List.mem_of_getElem? (i := 109) rfl)) rfl
set_option maxRecDepth 100000 in
theorem k_652 : Cond.code yX7_readLeaf prog_9_method_8_code 2 none ∈ Tw := tw_of (tb_3 (List.mem_of_getElem? (i := 110) rfl)) rfl
set_option maxRecDepth 100000 in
theorem k_653 : Cond.methodLink "TwinTables$Tape" 90 yX7_nameHere ∈ Tw := tw_of (tb_3 (List.mem_of_getElem? (i := 111) rfl)) rfl
set_option maxRecDepth 100000 in
theorem k_655 : Cond.instanceMethod yX7_nameHere ∈ Tw := tw_of (tb_3 (List.mem_of_getElem? (i := 113) rfl)) rfl
set_option maxRecDepth 100000 in
theorem k_656 : Cond.code yX7_nameHere prog_9_method_16_code 2 (some FieldType.int) ∈ Tw := tw_of (tb_3 (List.mem_of_getElem? (i := 114) rfl)) rfl
set_option maxRecDepth 100000 in
theorem k_660 : Cond.methodLink "TwinTables$Tape" 103 yJ0_indexOf_0f7a4 ∈ Tw := tw_of (tb_3 (List.mem_of_getElem? (i := 118) rfl)) rfl
set_option maxRecDepth 100000 in
theorem k_661 : Cond.instanceMethod yJ0_indexOf_0f7a4 ∈ Tw := tw_of (tb_3 (List.mem_of_getElem? (i := 119) rfl)) rfl
set_option maxRecDepth 100000 in
theorem k_662 : Cond.selects "java/lang/String" yJ0_indexOf_0f7a4 yJ0_indexOf_0f7a4 ∈ Tw := tw_of (tb_3 (List.mem_of_getElem? (i := 120) rfl)) rfl
set_option maxRecDepth 100000 in
theorem k_663 : Cond.code yJ0_indexOf_0f7a4 prog_16_method_79_code 2 (some FieldType.int) ∈ Tw := tw_of (tb_3 (List.mem_of_getElem? (i := 121) rfl)) rfl
set_option maxRecDepth 100000 in
theorem k_664 : Cond.methodLink "java/lang/String" 633 yJ0_indexOf_7cf53 ∈ Tw := tw_of (tb_3 (List.mem_of_getElem? (i := 122) rfl)) rfl
set_option maxRecDepth 100000 in
theorem k_665 : Cond.instanceMethod yJ0_indexOf_7cf53 ∈ Tw := tw_of (tb_3 (List.mem_of_getElem? (i := 123) rfl)) rfl
set_option maxRecDepth 100000 in
theorem k_666 : Cond.selects "java/lang/String" yJ0_indexOf_7cf53 yJ0_indexOf_7cf53 ∈ Tw := tw_of (tb_3 (List.mem_of_getElem? (i := 124) rfl)) rfl
set_option maxRecDepth 100000 in
theorem k_667 : Cond.code yJ0_indexOf_7cf53 prog_16_method_80_code 3 (some FieldType.int) ∈ Tw := tw_of (tb_3 (List.mem_of_getElem? (i := 125) rfl)) rfl
set_option maxRecDepth 100000 in
theorem k_668 : Cond.methodLink "java/lang/String" 505 yJ0_length_8abf5 ∈ Tw := tw_of (tb_3 (List.mem_of_getElem? (i := 126) rfl)) rfl
set_option maxRecDepth 100000 in
theorem k_669 : Cond.methodLink "java/lang/String" 637 yJ1_indexOf_4cfef ∈ Tw := tw_of (tb_3 (List.mem_of_getElem? (i := 127) rfl)) rfl
set_option maxRecDepth 100000 in
theorem k_670 : Cond.static yJ1_indexOf_4cfef ∈ Tw := tw_of (tb_3 (List.mem_of_getElem? (i := 128) rfl)) rfl
set_option maxRecDepth 100000 in
theorem k_671 : Cond.code yJ1_indexOf_4cfef prog_17_method_22_code 4 (some FieldType.int) ∈ Tw := tw_of (tb_3 (List.mem_of_getElem? (i := 129) rfl)) rfl
set_option maxRecDepth 100000 in
theorem k_672 : Cond.methodLink "java/lang/StringLatin1" 88 yJ1_canEncode_9a6ad ∈ Tw := tw_of (tb_3 (List.mem_of_getElem? (i := 130) rfl)) rfl
set_option maxRecDepth 100000 in
theorem k_673 : Cond.static yJ1_canEncode_9a6ad ∈ Tw := tw_of (tb_3 (List.mem_of_getElem? (i := 131) rfl)) rfl
set_option maxRecDepth 100000 in
theorem k_674 : Cond.code yJ1_canEncode_9a6ad prog_17_method_4_code 1 (some FieldType.boolean) ∈ Tw := tw_of (tb_3 (List.mem_of_getElem? (i := 132) rfl)) rfl
set_option maxRecDepth 100000 in
theorem k_675 : Cond.methodLink "java/lang/StringLatin1" 92 yJ9_max_7cf53 ∈ Tw := tw_of (tb_3 (List.mem_of_getElem? (i := 133) rfl)) rfl
set_option maxRecDepth 100000 in
theorem k_676 : Cond.static yJ9_max_7cf53 ∈ Tw := tw_of (tb_3 (List.mem_of_getElem? (i := 134) rfl)) rfl
set_option maxRecDepth 100000 in
theorem k_677 : Cond.code yJ9_max_7cf53 prog_15_method_65_code 2 (some FieldType.int) ∈ Tw := tw_of (tb_3 (List.mem_of_getElem? (i := 135) rfl)) rfl
set_option maxRecDepth 100000 in
theorem k_678 : Cond.methodLink "java/lang/StringLatin1" 38 yJ9_min_7cf53 ∈ Tw := tw_of (tb_3 (List.mem_of_getElem? (i := 136) rfl)) rfl
set_option maxRecDepth 100000 in
theorem k_679 : Cond.static yJ9_min_7cf53 ∈ Tw := tw_of (tb_3 (List.mem_of_getElem? (i := 137) rfl)) rfl
set_option maxRecDepth 100000 in
theorem k_680 : Cond.code yJ9_min_7cf53 prog_15_method_69_code 2 (some FieldType.int) ∈ Tw := tw_of (tb_3 (List.mem_of_getElem? (i := 138) rfl)) rfl
set_option maxRecDepth 100000 in
theorem k_681 : Cond.methodLink "java/lang/StringLatin1" 95 yJ1_indexOfChar_4cfef ∈ Tw := tw_of (tb_3 (List.mem_of_getElem? (i := 139) rfl)) rfl
set_option maxRecDepth 100000 in
theorem k_682 : Cond.static yJ1_indexOfChar_4cfef ∈ Tw := tw_of (tb_3 (List.mem_of_getElem? (i := 140) rfl)) rfl
set_option maxRecDepth 100000 in
theorem k_683 : Cond.code yJ1_indexOfChar_4cfef prog_17_method_23_code 6 (some FieldType.int) ∈ Tw := tw_of (tb_3 (List.mem_of_getElem? (i := 141) rfl)) rfl
set_option maxRecDepth 100000 in
theorem k_684 : Cond.methodLink "java/lang/String" 640 yJ2_indexOf_4cfef ∈ Tw := tw_of (tb_3 (List.mem_of_getElem? (i := 142) rfl)) rfl
set_option maxRecDepth 100000 in
theorem k_685 : Cond.static yJ2_indexOf_4cfef ∈ Tw := tw_of (tb_3 (List.mem_of_getElem? (i := 143) rfl)) rfl
set_option maxRecDepth 100000 in
theorem k_686 : Cond.code yJ2_indexOf_4cfef prog_18_method_40_code 4 (some FieldType.int) ∈ Tw := tw_of (tb_3 (List.mem_of_getElem? (i := 144) rfl)) rfl
set_option maxRecDepth 100000 in
theorem k_687 : Cond.methodLink "java/lang/StringUTF16" 224 yJ9_max_7cf53 ∈ Tw := tw_of (tb_3 (List.mem_of_getElem? (i := 145) rfl)) rfl
set_option maxRecDepth 100000 in
theorem k_688 : Cond.methodLink "java/lang/StringUTF16" 183 yJ9_min_7cf53 ∈ Tw := tw_of (tb_3 (List.mem_of_getElem? (i := 146) rfl)) rfl
set_option maxRecDepth 100000 in
theorem k_689 : Cond.constant "java/lang/StringUTF16" 227 (65536) ∈ Tw := tw_of (tb_3 (List.mem_of_getElem? (i := 147) rfl)) rfl
set_option maxRecDepth 100000 in
theorem k_690 : Cond.methodLink "java/lang/StringUTF16" 228 yJ2_indexOfChar_4cfef ∈ Tw := tw_of (tb_3 (List.mem_of_getElem? (i := 148) rfl)) rfl
set_option maxRecDepth 100000 in
theorem k_691 : Cond.static yJ2_indexOfChar_4cfef ∈ Tw := tw_of (tb_3 (List.mem_of_getElem? (i := 149) rfl)) rfl
set_option maxRecDepth 100000 in
theorem k_692 : Cond.code yJ2_indexOfChar_4cfef prog_18_method_47_code 4 (some FieldType.int) ∈ Tw := tw_of (tb_3 (List.mem_of_getElem? (i := 150) rfl)) rfl
set_option maxRecDepth 100000 in
theorem k_693 : Cond.methodLink "java/lang/StringUTF16" 96 yJ2_checkBoundsBeginEnd_d044e ∈ Tw := tw_of (tb_3 (List.mem_of_getElem? (i := 151) rfl)) rfl
set_option maxRecDepth 100000 in
theorem k_694 : Cond.static yJ2_checkBoundsBeginEnd_d044e ∈ Tw := tw_of (tb_3 (List.mem_of_getElem? (i := 152) rfl)) rfl
set_option maxRecDepth 100000 in
theorem k_695 : Cond.code yJ2_checkBoundsBeginEnd_d044e prog_18_method_93_code 3 none ∈ Tw := tw_of (tb_3 (List.mem_of_getElem? (i := 153) rfl)) rfl
set_option maxRecDepth 100000 in
theorem k_696 : Cond.methodLink "java/lang/StringUTF16" 241 yJ0_checkBoundsBeginEnd_23922 ∈ Tw := tw_of (tb_3 (List.mem_of_getElem? (i := 154) rfl)) rfl
set_option maxRecDepth 100000 in
theorem k_697 : Cond.static yJ0_checkBoundsBeginEnd_23922 ∈ Tw := tw_of (tb_3 (List.mem_of_getElem? (i := 155) rfl)) rfl
set_option maxRecDepth 100000 in
theorem k_698 : Cond.code yJ0_checkBoundsBeginEnd_23922 prog_16_method_158_code 3 none ∈ Tw := tw_of (tb_3 (List.mem_of_getElem? (i := 156) rfl)) rfl
set_option maxRecDepth 100000 in
theorem k_699 : Cond.methodLink "java/lang/String" 1062 yJ3_checkFromToIndex_8c36e ∈ Tw := tw_of (tb_3 (List.mem_of_getElem? (i := 157) rfl)) rfl
set_option maxRecDepth 100000 in
theorem k_700 : Cond.static yJ3_checkFromToIndex_8c36e ∈ Tw := tw_of (tb_3 (List.mem_of_getElem? (i := 158) rfl)) rfl
set_option maxRecDepth 100000 in
theorem k_701 : Cond.code yJ3_checkFromToIndex_8c36e prog_20_method_12_code 4 (some FieldType.int) ∈ Tw := tw_of (tb_3 (List.mem_of_getElem? (i := 159) rfl)) rfl
set_option maxRecDepth 100000 in
theorem k_702 : Cond.methodLink "java/lang/StringUTF16" 244 yJ2_indexOfCharUnsafe_4cfef ∈ Tw := tw_of (tb_3 (List.mem_of_getElem? (i := 160) rfl)) rfl
set_option maxRecDepth 100000 in
theorem k_703 : Cond.static yJ2_indexOfCharUnsafe_4cfef ∈ Tw := tw_of (tb_3 (List.mem_of_getElem? (i := 161) rfl)) rfl
set_option maxRecDepth 100000 in
theorem k_704 : Cond.code yJ2_indexOfCharUnsafe_4cfef prog_18_method_48_code 5 (some FieldType.int) ∈ Tw := tw_of (tb_3 (List.mem_of_getElem? (i := 162) rfl)) rfl
set_option maxRecDepth 100000 in
theorem k_705 : Cond.methodLink "java/lang/StringUTF16" 232 yJ2_indexOfSupplementary_4cfef ∈ Tw := tw_of (tb_3 (List.mem_of_getElem? (i := 163) rfl)) rfl
set_option maxRecDepth 100000 in
theorem k_706 : Cond.static yJ2_indexOfSupplementary_4cfef ∈ Tw := tw_of (tb_3 (List.mem_of_getElem? (i := 164) rfl)) rfl
set_option maxRecDepth 100000 in
theorem k_707 : Cond.code yJ2_indexOfSupplementary_4cfef prog_18_method_49_code 7 (some FieldType.int) ∈ Tw := tw_of (tb_3 (List.mem_of_getElem? (i := 165) rfl)) rfl
set_option maxRecDepth 100000 in
theorem k_708 : Cond.methodLink "java/lang/StringUTF16" 164 yJ11_isValidCodePoint_9a6ad ∈ Tw := tw_of (tb_3 (List.mem_of_getElem? (i := 166) rfl)) rfl
set_option maxRecDepth 100000 in
theorem k_709 : Cond.static yJ11_isValidCodePoint_9a6ad ∈ Tw := tw_of (tb_3 (List.mem_of_getElem? (i := 167) rfl)) rfl
set_option maxRecDepth 100000 in
theorem k_710 : Cond.code yJ11_isValidCodePoint_9a6ad prog_13_method_11_code 2 (some FieldType.boolean) ∈ Tw := tw_of (tb_3 (List.mem_of_getElem? (i := 168) rfl)) rfl
set_option maxRecDepth 100000 in
theorem k_711 : Cond.methodLink "java/lang/StringUTF16" 157 yJ11_highSurrogate_5068e ∈ Tw := tw_of (tb_3 (List.mem_of_getElem? (i := 169) rfl)) rfl
set_option maxRecDepth 100000 in
theorem k_712 : Cond.static yJ11_highSurrogate_5068e ∈ Tw := tw_of (tb_3 (List.mem_of_getElem? (i := 170) rfl)) rfl
set_option maxRecDepth 100000 in
theorem k_713 : Cond.code yJ11_highSurrogate_5068e prog_13_method_28_code 1 (some FieldType.char) ∈ Tw := tw_of (tb_3 (List.mem_of_getElem? (i := 171) rfl)) rfl
set_option maxRecDepth 100000 in
theorem k_714 : Cond.constant "java/lang/Character" 110 (55232) ∈ Tw := tw_of (tb_3 (List.mem_of_getElem? (i := 172) rfl)) rfl
set_option maxRecDepth 100000 in
theorem k_715 : Cond.methodLink "java/lang/StringUTF16" 161 yJ11_lowSurrogate_5068e ∈ Tw := tw_of (tb_3 (List.mem_of_getElem? (i := 173) rfl)) rfl
set_option maxRecDepth 100000 in
theorem k_716 : Cond.static yJ11_lowSurrogate_5068e ∈ Tw := tw_of (tb_3 (List.mem_of_getElem? (i := 174) rfl)) rfl
set_option maxRecDepth 100000 in
theorem k_717 : Cond.code yJ11_lowSurrogate_5068e prog_13_method_29_code 1 (some FieldType.char) ∈ Tw := tw_of (tb_3 (List.mem_of_getElem? (i := 175) rfl)) rfl
set_option maxRecDepth 100000 in
theorem k_718 : Cond.constant "java/lang/Character" 76 (56320) ∈ Tw := tw_of (tb_3 (List.mem_of_getElem? (i := 176) rfl)) rfl
set_option maxRecDepth 100000 in
theorem k_719 : Cond.methodLink "TwinTables$Tape" 76 yX7_joins ∈ Tw := tw_of (tb_3 (List.mem_of_getElem? (i := 177) rfl)) rfl
set_option maxRecDepth 100000 in
theorem k_720 : Cond.static yX7_joins ∈ Tw := tw_of (tb_3 (List.mem_of_getElem? (i := 178) rfl)) rfl
set_option maxRecDepth 100000 in
theorem k_721 : Cond.code yX7_joins prog_9_method_10_code 2 (some FieldType.boolean) ∈ Tw := tw_of (tb_3 (List.mem_of_getElem? (i := 179) rfl)) rfl
set_option maxRecDepth 100000 in
theorem k_722 : Cond.methodLink "TwinTables" 147 yX8_add ∈ Tw := tw_of (tb_3 (List.mem_of_getElem? (i := 180) rfl)) rfl
set_option maxRecDepth 100000 in
theorem k_723 : Cond.instanceMethod yX8_add ∈ Tw := tw_of (tb_3 (List.mem_of_getElem? (i := 181) rfl)) rfl
set_option maxRecDepth 100000 in
theorem k_724 : Cond.selects "TwinTables$Texts" yX8_add yX8_add ∈ Tw := tw_of (tb_3 (List.mem_of_getElem? (i := 182) rfl)) rfl
set_option maxRecDepth 100000 in
theorem k_725 : Cond.code yX8_add prog_10_method_3_code 2 (some FieldType.int) ∈ Tw := tw_of (tb_3 (List.mem_of_getElem? (i := 183) rfl)) rfl
set_option maxRecDepth 100000 in
theorem k_726 : Cond.constant "TwinTables$Texts" 40 (-1000000003) ∈ Tw := tw_of (tb_3 (List.mem_of_getElem? (i := 184) rfl)) rfl
set_option maxRecDepth 100000 in
theorem k_727 : Cond.methodLink "TwinTables$Texts" 34 ⟨"java/lang/System", "arraycopy", "(Ljava/lang/Object;ILjava/lang/Object;II)V"⟩ ∈ Tw := tw_of (tb_3 (List.mem_of_getElem? (i := 185) rfl)) rfl
set_option maxRecDepth 100000 in
theorem k_728 : Cond.static ⟨"java/lang/System", "arraycopy", "(Ljava/lang/Object;ILjava/lang/Object;II)V"⟩ ∈ Tw := tw_of (tb_3 (List.mem_of_getElem? (i := 186) rfl)) rfl
set_option maxRecDepth 100000 in
theorem k_729 : Cond.native ⟨"java/lang/System", "arraycopy", "(Ljava/lang/Object;ILjava/lang/Object;II)V"⟩ ∈ Tw := tw_of (tb_3 (List.mem_of_getElem? (i := 187) rfl)) rfl
set_option maxRecDepth 100000 in
theorem k_730 : Cond.methodLink "TwinTablesLaw" 54 yX9_of ∈ Tw := tw_of (tb_3 (List.mem_of_getElem? (i := 188) rfl)) rfl
set_option maxRecDepth 100000 in
theorem k_731 : Cond.instanceMethod yX9_of ∈ Tw := tw_of (tb_3 (List.mem_of_getElem? (i := 189) rfl)) rfl
set_option maxRecDepth 100000 in
theorem k_732 : Cond.selects "TwinTables" yX9_of yX9_of ∈ Tw := tw_of (tb_3 (List.mem_of_getElem? (i := 190) rfl)) rfl
set_option maxRecDepth 100000 in
theorem k_733 : Cond.code yX9_of prog_1_method_11_code 4 (some FieldType.int) ∈ Tw := tw_of (tb_3 (List.mem_of_getElem? (i := 191) rfl)) rfl
set_option maxRecDepth 100000 in
theorem k_734 : Cond.methodLink "TwinTablesLaw" 58 yX9_why ∈ Tw := tw_of (tb_3 (List.mem_of_getElem? (i := 192) rfl)) rfl
set_option maxRecDepth 100000 in
theorem k_735 : Cond.instanceMethod yX9_why ∈ Tw := tw_of (tb_3 (List.mem_of_getElem? (i := 193) rfl)) rfl
set_option maxRecDepth 100000 in
theorem k_736 : Cond.selects "TwinTables" yX9_why yX9_why ∈ Tw := tw_of (tb_3 (List.mem_of_getElem? (i := 194) rfl)) rfl
set_option maxRecDepth 100000 in
theorem k_737 : Cond.code yX9_why prog_1_method_12_code 3 (some FieldType.int) ∈ Tw := tw_of (tb_3 (List.mem_of_getElem? (i := 195) rfl)) rfl
set_option maxRecDepth 100000 in
theorem k_738 : Cond.methodLink "TwinTables" 160 yX8_latest ∈ Tw := tw_of (tb_3 (List.mem_of_getElem? (i := 196) rfl)) rfl
set_option maxRecDepth 100000 in
theorem k_739 : Cond.methodLink "TwinTablesLaw" 62 yX9_line ∈ Tw := tw_of (tb_3 (List.mem_of_getElem? (i := 197) rfl)) rfl
set_option maxRecDepth 100000 in
theorem k_740 : Cond.instanceMethod yX9_line ∈ Tw := tw_of (tb_3 (List.mem_of_getElem? (i := 198) rfl)) rfl
set_option maxRecDepth 100000 in
theorem k_741 : Cond.selects "TwinTables" yX9_line yX9_line ∈ Tw := tw_of (tb_3 (List.mem_of_getElem? (i := 199) rfl)) rfl
set_option maxRecDepth 100000 in
theorem k_742 : Cond.code yX9_line prog_1_method_13_code 6 (some FieldType.int) ∈ Tw := tw_of (tb_3 (List.mem_of_getElem? (i := 200) rfl)) rfl
set_option maxRecDepth 100000 in
theorem k_743 : Cond.constant "TwinTables" 163 (-1000000002) ∈ Tw := tw_of (tb_3 (List.mem_of_getElem? (i := 201) rfl)) rfl
set_option maxRecDepth 100000 in
theorem k_744 : Cond.methodLink "TwinTables" 164 yX3_lastOf ∈ Tw := tw_of (tb_3 (List.mem_of_getElem? (i := 202) rfl)) rfl
set_option maxRecDepth 100000 in
theorem k_745 : Cond.instanceMethod yX3_lastOf ∈ Tw := tw_of (tb_3 (List.mem_of_getElem? (i := 203) rfl)) rfl
set_option maxRecDepth 100000 in
theorem k_746 : Cond.selects "TwinTables$Lines" yX3_lastOf yX3_lastOf ∈ Tw := tw_of (tb_3 (List.mem_of_getElem? (i := 204) rfl)) rfl
set_option maxRecDepth 100000 in
theorem k_747 : Cond.code yX3_lastOf prog_5_method_5_code 2 (some FieldType.int) ∈ Tw := tw_of (tb_3 (List.mem_of_getElem? (i := 205) rfl)) rfl
set_option maxRecDepth 100000 in
theorem k_748 : Cond.methodLink "TwinTables$Lines" 24 yX3_lengthOf ∈ Tw := tw_of (tb_3 (List.mem_of_getElem? (i := 206) rfl)) rfl
set_option maxRecDepth 100000 in
theorem k_749 : Cond.instanceMethod yX3_lengthOf ∈ Tw := tw_of (tb_3 (List.mem_of_getElem? (i := 207) rfl)) rfl
set_option maxRecDepth 100000 in
theorem k_750 : Cond.selects "TwinTables$Lines" yX3_lengthOf yX3_lengthOf ∈ Tw := tw_of (tb_3 (List.mem_of_getElem? (i := 208) rfl)) rfl
set_option maxRecDepth 100000 in
theorem k_751 : Cond.code yX3_lengthOf prog_5_method_3_code 2 (some FieldType.int) ∈ Tw := tw_of (tb_3 (List.mem_of_getElem? (i := 209) rfl)) rfl
set_option maxRecDepth 100000 in
theorem k_752 : Cond.methodLink "TwinTables$Lines" 29 yX3_at ∈ Tw := tw_of (tb_3 (List.mem_of_getElem? (i := 210) rfl)) rfl
set_option maxRecDepth 100000 in
theorem k_753 : Cond.instanceMethod yX3_at ∈ Tw := tw_of (tb_3 (List.mem_of_getElem? (i := 211) rfl)) rfl
set_option maxRecDepth 100000 in
theorem k_754 : Cond.selects "TwinTables$Lines" yX3_at yX3_at ∈ Tw := tw_of (tb_3 (List.mem_of_getElem? (i := 212) rfl)) rfl
set_option maxRecDepth 100000 in
theorem k_755 : Cond.code yX3_at prog_5_method_4_code 3 (some FieldType.int) ∈ Tw := tw_of (tb_3 (List.mem_of_getElem? (i := 213) rfl)) rfl
set_option maxRecDepth 100000 in
theorem k_756 : Cond.methodLink "TwinTables" 167 yX3_append ∈ Tw := tw_of (tb_3 (List.mem_of_getElem? (i := 214) rfl)) rfl
set_option maxRecDepth 100000 in
theorem k_757 : Cond.instanceMethod yX3_append ∈ Tw := tw_of (tb_3 (List.mem_of_getElem? (i := 215) rfl)) rfl
set_option maxRecDepth 100000 in
theorem k_758 : Cond.selects "TwinTables$Lines" yX3_append yX3_append ∈ Tw := tw_of (tb_3 (List.mem_of_getElem? (i := 216) rfl)) rfl
set_option maxRecDepth 100000 in
theorem k_759 : Cond.code yX3_append prog_5_method_7_code 3 (some FieldType.int) ∈ Tw := tw_of (tb_3 (List.mem_of_getElem? (i := 217) rfl)) rfl
set_option maxRecDepth 100000 in
theorem k_760 : Cond.constant "TwinTables$Lines" 33 (-1000000003) ∈ Tw := tw_of (tb_3 (List.mem_of_getElem? (i := 218) rfl)) rfl
set_option maxRecDepth 100000 in
theorem k_761 : Cond.methodLink "TwinTablesLaw" 66 yX9_run ∈ Tw := tw_of (tb_3 (List.mem_of_getElem? (i := 219) rfl)) rfl
set_option maxRecDepth 100000 in
theorem k_762 : Cond.instanceMethod yX9_run ∈ Tw := tw_of (tb_3 (List.mem_of_getElem? (i := 220) rfl)) rfl
set_option maxRecDepth 100000 in
theorem k_763 : Cond.selects "TwinTables" yX9_run yX9_run ∈ Tw := tw_of (tb_3 (List.mem_of_getElem? (i := 221) rfl)) rfl
set_option maxRecDepth 100000 in
theorem k_764 : Cond.code yX9_run prog_1_method_14_code 7 (some FieldType.int) ∈ Tw := tw_of (tb_3 (List.mem_of_getElem? (i := 222) rfl)) rfl
set_option maxRecDepth 100000 in
theorem k_765 : Cond.methodLink "TwinTables" 170 yX9_arePlaces ∈ Tw := tw_of (tb_3 (List.mem_of_getElem? (i := 223) rfl)) rfl
set_option maxRecDepth 100000 in
theorem k_766 : Cond.static yX9_arePlaces ∈ Tw := tw_of (tb_3 (List.mem_of_getElem? (i := 224) rfl)) rfl
set_option maxRecDepth 100000 in
theorem k_767 : Cond.code yX9_arePlaces prog_1_method_52_code 1 (some FieldType.boolean) ∈ Tw := tw_of (tb_3 (List.mem_of_getElem? (i := 225) rfl)) rfl
set_option maxRecDepth 100000 in
theorem k_768 : Cond.methodLink "TwinTables" 173 yX6_layLine ∈ Tw := tw_of (tb_3 (List.mem_of_getElem? (i := 226) rfl)) rfl
set_option maxRecDepth 100000 in
theorem k_769 : Cond.instanceMethod yX6_layLine ∈ Tw := tw_of (tb_3 (List.mem_of_getElem? (i := 227) rfl)) rfl
set_option maxRecDepth 100000 in
theorem k_770 : Cond.selects "TwinTables$State" yX6_layLine yX6_layLine ∈ Tw := tw_of (tb_3 (List.mem_of_getElem? (i := 228) rfl)) rfl
set_option maxRecDepth 100000 in
theorem k_771 : Cond.code yX6_layLine prog_8_method_12_code 5 (some FieldType.int) ∈ Tw := tw_of (tb_3 (List.mem_of_getElem? (i := 229) rfl)) rfl
set_option maxRecDepth 100000 in
theorem k_772 : Cond.methodLink "TwinTables$State" 160 yX3_lengthOf ∈ Tw := tw_of (tb_3 (List.mem_of_getElem? (i := 230) rfl)) rfl
set_option maxRecDepth 100000 in
theorem k_773 : Cond.methodLink "TwinTables$State" 163 yX3_at ∈ Tw := tw_of (tb_3 (List.mem_of_getElem? (i := 231) rfl)) rfl
set_option maxRecDepth 100000 in
theorem k_774 : Cond.methodLink "TwinTables" 179 yX9_longest ∈ Tw := tw_of (tb_3 (List.mem_of_getElem? (i := 232) rfl)) rfl
set_option maxRecDepth 100000 in
theorem k_775 : Cond.static yX9_longest ∈ Tw := tw_of (tb_3 (List.mem_of_getElem? (i := 233) rfl)) rfl
set_option maxRecDepth 100000 in
theorem k_776 : Cond.code yX9_longest prog_1_method_62_code 4 (some FieldType.int) ∈ Tw := tw_of (tb_3 (List.mem_of_getElem? (i := 234) rfl)) rfl
set_option maxRecDepth 100000 in
theorem k_777 : Cond.methodLink "TwinTables" 183 yX9_reach ∈ Tw := tw_of (tb_3 (List.mem_of_getElem? (i := 235) rfl)) rfl
set_option maxRecDepth 100000 in
theorem k_778 : Cond.static yX9_reach ∈ Tw := tw_of (tb_3 (List.mem_of_getElem? (i := 236) rfl)) rfl
set_option maxRecDepth 100000 in
theorem k_779 : Cond.code yX9_reach prog_1_method_61_code 8 (some FieldType.int) ∈ Tw := tw_of (tb_3 (List.mem_of_getElem? (i := 237) rfl)) rfl
set_option maxRecDepth 100000 in
theorem k_780 : Cond.fieldLink "TwinTables" 361 "TwinTables" "CUTS" "[I" ∈ Tw := tw_of (tb_3 (List.mem_of_getElem? (i := 238) rfl)) rfl
set_option maxRecDepth 100000 in
theorem k_781 : Cond.methodLink "TwinTables" 187 yX3_at ∈ Tw := tw_of (tb_3 (List.mem_of_getElem? (i := 239) rfl)) rfl
set_option maxRecDepth 100000 in
theorem k_782 : Cond.methodLink "TwinTables" 190 yX6_odds ∈ Tw := tw_of (tb_4 (List.mem_of_getElem? (i := 0) rfl)) rfl
set_option maxRecDepth 100000 in
theorem k_783 : Cond.instanceMethod yX6_odds ∈ Tw := tw_of (tb_4 (List.mem_of_getElem? (i := 1) rfl)) rfl
set_option maxRecDepth 100000 in
theorem k_784 : Cond.selects "TwinTables$State" yX6_odds yX6_odds ∈ Tw := tw_of (tb_4 (List.mem_of_getElem? (i := 2) rfl)) rfl
set_option maxRecDepth 100000 in
theorem k_785 : Cond.code yX6_odds prog_8_method_13_code 8 (some FieldType.int) ∈ Tw := tw_of (tb_4 (List.mem_of_getElem? (i := 3) rfl)) rfl
set_option maxRecDepth 100000 in
theorem k_786 : Cond.constantLong "TwinTables$State" 166 (1000000000) ∈ Tw := tw_of (tb_4 (List.mem_of_getElem? (i := 4) rfl)) rfl
set_option maxRecDepth 100000 in
theorem k_787 : Cond.methodLink "TwinTables$State" 168 yJ9_min_f86c9 ∈ Tw := tw_of (tb_4 (List.mem_of_getElem? (i := 5) rfl)) rfl
set_option maxRecDepth 100000 in
theorem k_788 : Cond.static yJ9_min_f86c9 ∈ Tw := tw_of (tb_4 (List.mem_of_getElem? (i := 6) rfl)) rfl
set_option maxRecDepth 100000 in
theorem k_789 : Cond.code yJ9_min_f86c9 prog_15_method_70_code 4 (some FieldType.long) ∈ Tw := tw_of (tb_4 (List.mem_of_getElem? (i := 7) rfl)) rfl
set_option maxRecDepth 100000 in
theorem k_790 : Cond.methodLink "TwinTablesLaw" 70 yX9_soon ∈ Tw := tw_of (tb_4 (List.mem_of_getElem? (i := 8) rfl)) rfl
set_option maxRecDepth 100000 in
theorem k_791 : Cond.instanceMethod yX9_soon ∈ Tw := tw_of (tb_4 (List.mem_of_getElem? (i := 9) rfl)) rfl
set_option maxRecDepth 100000 in
theorem k_792 : Cond.selects "TwinTables" yX9_soon yX9_soon ∈ Tw := tw_of (tb_4 (List.mem_of_getElem? (i := 10) rfl)) rfl
set_option maxRecDepth 100000 in
theorem k_793 : Cond.code yX9_soon prog_1_method_15_code 8 (some FieldType.int) ∈ Tw := tw_of (tb_4 (List.mem_of_getElem? (i := 11) rfl)) rfl
set_option maxRecDepth 100000 in
theorem k_794 : Cond.methodLink "TwinTablesLaw" 74 yX9_even ∈ Tw := tw_of (tb_4 (List.mem_of_getElem? (i := 12) rfl)) rfl
set_option maxRecDepth 100000 in
theorem k_795 : Cond.instanceMethod yX9_even ∈ Tw := tw_of (tb_4 (List.mem_of_getElem? (i := 13) rfl)) rfl
set_option maxRecDepth 100000 in
theorem k_796 : Cond.selects "TwinTables" yX9_even yX9_even ∈ Tw := tw_of (tb_4 (List.mem_of_getElem? (i := 14) rfl)) rfl
set_option maxRecDepth 100000 in
theorem k_797 : Cond.code yX9_even prog_1_method_16_code 4 (some FieldType.int) ∈ Tw := tw_of (tb_4 (List.mem_of_getElem? (i := 15) rfl)) rfl
set_option maxRecDepth 100000 in
theorem k_798 : Cond.methodLink "TwinTables" 194 yX0_withLast ∈ Tw := tw_of (tb_4 (List.mem_of_getElem? (i := 16) rfl)) rfl
set_option maxRecDepth 100000 in
theorem k_799 : Cond.instanceMethod yX0_withLast ∈ Tw := tw_of (tb_4 (List.mem_of_getElem? (i := 17) rfl)) rfl
set_option maxRecDepth 100000 in
theorem k_800 : Cond.selects "TwinTables$Figures" yX0_withLast yX0_withLast ∈ Tw := tw_of (tb_4 (List.mem_of_getElem? (i := 18) rfl)) rfl
set_option maxRecDepth 100000 in
theorem k_801 : Cond.code yX0_withLast prog_2_method_9_code 4 (some FieldType.int) ∈ Tw := tw_of (tb_4 (List.mem_of_getElem? (i := 19) rfl)) rfl
set_option maxRecDepth 100000 in
theorem k_802 : Cond.methodLink "TwinTablesLaw" 78 yX9_digit ∈ Tw := tw_of (tb_4 (List.mem_of_getElem? (i := 20) rfl)) rfl
set_option maxRecDepth 100000 in
theorem k_803 : Cond.instanceMethod yX9_digit ∈ Tw := tw_of (tb_4 (List.mem_of_getElem? (i := 21) rfl)) rfl
set_option maxRecDepth 100000 in
theorem k_804 : Cond.selects "TwinTables" yX9_digit yX9_digit ∈ Tw := tw_of (tb_4 (List.mem_of_getElem? (i := 22) rfl)) rfl
set_option maxRecDepth 100000 in
theorem k_805 : Cond.code yX9_digit prog_1_method_17_code 2 (some FieldType.int) ∈ Tw := tw_of (tb_4 (List.mem_of_getElem? (i := 23) rfl)) rfl
set_option maxRecDepth 100000 in
theorem k_806 : Cond.methodLink "TwinTablesLaw" 82 yX9_odd ∈ Tw := tw_of (tb_4 (List.mem_of_getElem? (i := 24) rfl)) rfl
set_option maxRecDepth 100000 in
theorem k_807 : Cond.instanceMethod yX9_odd ∈ Tw := tw_of (tb_4 (List.mem_of_getElem? (i := 25) rfl)) rfl
set_option maxRecDepth 100000 in
theorem k_808 : Cond.selects "TwinTables" yX9_odd yX9_odd ∈ Tw := tw_of (tb_4 (List.mem_of_getElem? (i := 26) rfl)) rfl
set_option maxRecDepth 100000 in
theorem k_809 : Cond.code yX9_odd prog_1_method_18_code 3 (some FieldType.int) ∈ Tw := tw_of (tb_4 (List.mem_of_getElem? (i := 27) rfl)) rfl
set_option maxRecDepth 100000 in
theorem k_810 : Cond.methodLink "TwinTables" 197 yX6_isOdd ∈ Tw := tw_of (tb_4 (List.mem_of_getElem? (i := 28) rfl)) rfl
set_option maxRecDepth 100000 in
theorem k_811 : Cond.instanceMethod yX6_isOdd ∈ Tw := tw_of (tb_4 (List.mem_of_getElem? (i := 29) rfl)) rfl
set_option maxRecDepth 100000 in
theorem k_812 : Cond.selects "TwinTables$State" yX6_isOdd yX6_isOdd ∈ Tw := tw_of (tb_4 (List.mem_of_getElem? (i := 30) rfl)) rfl
set_option maxRecDepth 100000 in
theorem k_813 : Cond.code yX6_isOdd prog_8_method_11_code 4 (some FieldType.boolean) ∈ Tw := tw_of (tb_4 (List.mem_of_getElem? (i := 31) rfl)) rfl
set_option maxRecDepth 100000 in
theorem k_814 : Cond.methodLink "TwinTables$State" 157 yX0_withLast ∈ Tw := tw_of (tb_4 (List.mem_of_getElem? (i := 32) rfl)) rfl
set_option maxRecDepth 100000 in
theorem k_815 : Cond.methodLink "TwinTablesLaw" 86 yX9_choose ∈ Tw := tw_of (tb_4 (List.mem_of_getElem? (i := 33) rfl)) rfl
set_option maxRecDepth 100000 in
theorem k_816 : Cond.instanceMethod yX9_choose ∈ Tw := tw_of (tb_4 (List.mem_of_getElem? (i := 34) rfl)) rfl
set_option maxRecDepth 100000 in
theorem k_817 : Cond.selects "TwinTables" yX9_choose yX9_choose ∈ Tw := tw_of (tb_4 (List.mem_of_getElem? (i := 35) rfl)) rfl
set_option maxRecDepth 100000 in
theorem k_818 : Cond.code yX9_choose prog_1_method_19_code 3 (some FieldType.int) ∈ Tw := tw_of (tb_4 (List.mem_of_getElem? (i := 36) rfl)) rfl
set_option maxRecDepth 100000 in
theorem k_819 : Cond.methodLink "TwinTablesLaw" 90 yX9_story ∈ Tw := tw_of (tb_4 (List.mem_of_getElem? (i := 37) rfl)) rfl
set_option maxRecDepth 100000 in
theorem k_820 : Cond.instanceMethod yX9_story ∈ Tw := tw_of (tb_4 (List.mem_of_getElem? (i := 38) rfl)) rfl
set_option maxRecDepth 100000 in
theorem k_821 : Cond.selects "TwinTables" yX9_story yX9_story ∈ Tw := tw_of (tb_4 (List.mem_of_getElem? (i := 39) rfl)) rfl
set_option maxRecDepth 100000 in
theorem k_822 : Cond.code yX9_story prog_1_method_20_code 7 (some FieldType.int) ∈ Tw := tw_of (tb_4 (List.mem_of_getElem? (i := 40) rfl)) rfl
set_option maxRecDepth 100000 in
theorem k_823 : Cond.methodLink "TwinTables" 206 yX6_cheapestKind ∈ Tw := tw_of (tb_4 (List.mem_of_getElem? (i := 41) rfl)) rfl
set_option maxRecDepth 100000 in
theorem k_824 : Cond.instanceMethod yX6_cheapestKind ∈ Tw := tw_of (tb_4 (List.mem_of_getElem? (i := 42) rfl)) rfl
set_option maxRecDepth 100000 in
theorem k_825 : Cond.selects "TwinTables$State" yX6_cheapestKind yX6_cheapestKind ∈ Tw := tw_of (tb_4 (List.mem_of_getElem? (i := 43) rfl)) rfl
set_option maxRecDepth 100000 in
theorem k_826 : Cond.code yX6_cheapestKind prog_8_method_14_code 5 (some FieldType.int) ∈ Tw := tw_of (tb_4 (List.mem_of_getElem? (i := 44) rfl)) rfl
set_option maxRecDepth 100000 in
theorem k_827 : Cond.methodLink "TwinTables$State" 154 yX6_fits ∈ Tw := tw_of (tb_4 (List.mem_of_getElem? (i := 45) rfl)) rfl
set_option maxRecDepth 100000 in
theorem k_828 : Cond.methodLinkNest "TwinTables$State" 172 yX9_price "TwinTables" ∈ lw_tbl := tb_4 (List.mem_of_getElem? (i := 46) rfl)
set_option maxRecDepth 100000 in
theorem k_829 : Cond.methodLink "TwinTables" 209 yX9_isUnkind ∈ Tw := tw_of (tb_4 (List.mem_of_getElem? (i := 47) rfl)) rfl
set_option maxRecDepth 100000 in
theorem k_830 : Cond.static yX9_isUnkind ∈ Tw := tw_of (tb_4 (List.mem_of_getElem? (i := 48) rfl)) rfl
set_option maxRecDepth 100000 in
theorem k_831 : Cond.code yX9_isUnkind prog_1_method_59_code 1 (some FieldType.boolean) ∈ Tw := tw_of (tb_4 (List.mem_of_getElem? (i := 49) rfl)) rfl
set_option maxRecDepth 100000 in
theorem k_832 : Cond.methodLink "TwinTablesLaw" 94 yX9_clear ∈ Tw := tw_of (tb_4 (List.mem_of_getElem? (i := 50) rfl)) rfl
set_option maxRecDepth 100000 in
theorem k_833 : Cond.instanceMethod yX9_clear ∈ Tw := tw_of (tb_4 (List.mem_of_getElem? (i := 51) rfl)) rfl
set_option maxRecDepth 100000 in
theorem k_834 : Cond.selects "TwinTables" yX9_clear yX9_clear ∈ Tw := tw_of (tb_4 (List.mem_of_getElem? (i := 52) rfl)) rfl
set_option maxRecDepth 100000 in
theorem k_835 : Cond.code yX9_clear prog_1_method_21_code 2 (some FieldType.int) ∈ Tw := tw_of (tb_4 (List.mem_of_getElem? (i := 53) rfl)) rfl
set_option maxRecDepth 100000 in
theorem k_836 : Cond.methodLink "TwinTablesLaw" 98 yX9_road ∈ Tw := tw_of (tb_4 (List.mem_of_getElem? (i := 54) rfl)) rfl
set_option maxRecDepth 100000 in
theorem k_837 : Cond.instanceMethod yX9_road ∈ Tw := tw_of (tb_4 (List.mem_of_getElem? (i := 55) rfl)) rfl
set_option maxRecDepth 100000 in
theorem k_838 : Cond.selects "TwinTables" yX9_road yX9_road ∈ Tw := tw_of (tb_4 (List.mem_of_getElem? (i := 56) rfl)) rfl
set_option maxRecDepth 100000 in
theorem k_839 : Cond.code yX9_road prog_1_method_22_code 4 (some FieldType.int) ∈ Tw := tw_of (tb_4 (List.mem_of_getElem? (i := 57) rfl)) rfl
set_option maxRecDepth 100000 in
theorem k_840 : Cond.methodLink "TwinTables" 212 yX9_isPlace ∈ Tw := tw_of (tb_4 (List.mem_of_getElem? (i := 58) rfl)) rfl
set_option maxRecDepth 100000 in
theorem k_841 : Cond.static yX9_isPlace ∈ Tw := tw_of (tb_4 (List.mem_of_getElem? (i := 59) rfl)) rfl
set_option maxRecDepth 100000 in
theorem k_842 : Cond.code yX9_isPlace prog_1_method_54_code 1 (some FieldType.boolean) ∈ Tw := tw_of (tb_4 (List.mem_of_getElem? (i := 60) rfl)) rfl
set_option maxRecDepth 100000 in
theorem k_843 : Cond.methodLink "TwinTables" 219 yX2_setRoad ∈ Tw := tw_of (tb_4 (List.mem_of_getElem? (i := 61) rfl)) rfl
set_option maxRecDepth 100000 in
theorem k_844 : Cond.instanceMethod yX2_setRoad ∈ Tw := tw_of (tb_4 (List.mem_of_getElem? (i := 62) rfl)) rfl
set_option maxRecDepth 100000 in
theorem k_845 : Cond.selects "TwinTables$Life" yX2_setRoad yX2_setRoad ∈ Tw := tw_of (tb_4 (List.mem_of_getElem? (i := 63) rfl)) rfl
set_option maxRecDepth 100000 in
theorem k_846 : Cond.code yX2_setRoad prog_4_method_3_code 5 (some FieldType.int) ∈ Tw := tw_of (tb_4 (List.mem_of_getElem? (i := 64) rfl)) rfl
set_option maxRecDepth 100000 in
theorem k_847 : Cond.methodLink "TwinTablesLaw" 102 yX9_far ∈ Tw := tw_of (tb_4 (List.mem_of_getElem? (i := 65) rfl)) rfl
set_option maxRecDepth 100000 in
theorem k_848 : Cond.instanceMethod yX9_far ∈ Tw := tw_of (tb_4 (List.mem_of_getElem? (i := 66) rfl)) rfl
set_option maxRecDepth 100000 in
theorem k_849 : Cond.selects "TwinTables" yX9_far yX9_far ∈ Tw := tw_of (tb_4 (List.mem_of_getElem? (i := 67) rfl)) rfl
set_option maxRecDepth 100000 in
theorem k_850 : Cond.code yX9_far prog_1_method_23_code 3 (some FieldType.int) ∈ Tw := tw_of (tb_4 (List.mem_of_getElem? (i := 68) rfl)) rfl
set_option maxRecDepth 100000 in
theorem k_851 : Cond.methodLink "TwinTables" 224 yX2_leastDays ∈ Tw := tw_of (tb_4 (List.mem_of_getElem? (i := 69) rfl)) rfl
set_option maxRecDepth 100000 in
theorem k_852 : Cond.instanceMethod yX2_leastDays ∈ Tw := tw_of (tb_4 (List.mem_of_getElem? (i := 70) rfl)) rfl
set_option maxRecDepth 100000 in
theorem k_853 : Cond.selects "TwinTables$Life" yX2_leastDays yX2_leastDays ∈ Tw := tw_of (tb_4 (List.mem_of_getElem? (i := 71) rfl)) rfl
set_option maxRecDepth 100000 in
theorem k_854 : Cond.code yX2_leastDays prog_4_method_4_code 4 (some FieldType.int) ∈ Tw := tw_of (tb_4 (List.mem_of_getElem? (i := 72) rfl)) rfl
set_option maxRecDepth 100000 in
theorem k_855 : Cond.constant "TwinTables$Life" 34 (1000000) ∈ Tw := tw_of (tb_4 (List.mem_of_getElem? (i := 73) rfl)) rfl
set_option maxRecDepth 100000 in
theorem k_856 : Cond.methodLink "TwinTables$Life" 35 yX2_goOneRoadOn ∈ Tw := tw_of (tb_4 (List.mem_of_getElem? (i := 74) rfl)) rfl
set_option maxRecDepth 100000 in
theorem k_858 : Cond.instanceMethod yX2_goOneRoadOn ∈ Tw := tw_of (tb_4 (List.mem_of_getElem? (i := 76) rfl)) rfl
set_option maxRecDepth 100000 in
theorem k_859 : Cond.code yX2_goOneRoadOn prog_4_method_5_code 4 none ∈ Tw := tw_of (tb_4 (List.mem_of_getElem? (i := 77) rfl)) rfl
set_option maxRecDepth 100000 in
theorem k_860 : Cond.methodLink "TwinTables$Life" 39 yJ9_min_7cf53 ∈ Tw := tw_of (tb_4 (List.mem_of_getElem? (i := 78) rfl)) rfl
set_option maxRecDepth 100000 in
theorem k_861 : Cond.constant "TwinTables$Life" 38 (-1000000005) ∈ Tw := tw_of (tb_4 (List.mem_of_getElem? (i := 79) rfl)) rfl
set_option maxRecDepth 100000 in
theorem k_862 : Cond.methodLink "TwinTablesLaw" 106 yX9_diary ∈ Tw := tw_of (tb_4 (List.mem_of_getElem? (i := 80) rfl)) rfl
set_option maxRecDepth 100000 in
theorem k_863 : Cond.instanceMethod yX9_diary ∈ Tw := tw_of (tb_4 (List.mem_of_getElem? (i := 81) rfl)) rfl
set_option maxRecDepth 100000 in
theorem k_864 : Cond.selects "TwinTables" yX9_diary yX9_diary ∈ Tw := tw_of (tb_4 (List.mem_of_getElem? (i := 82) rfl)) rfl
set_option maxRecDepth 100000 in
theorem k_865 : Cond.code yX9_diary prog_1_method_24_code 3 (some FieldType.int) ∈ Tw := tw_of (tb_4 (List.mem_of_getElem? (i := 83) rfl)) rfl
set_option maxRecDepth 100000 in
theorem k_866 : Cond.methodLink "TwinTables" 227 yX2_write ∈ Tw := tw_of (tb_4 (List.mem_of_getElem? (i := 84) rfl)) rfl
set_option maxRecDepth 100000 in
theorem k_867 : Cond.instanceMethod yX2_write ∈ Tw := tw_of (tb_4 (List.mem_of_getElem? (i := 85) rfl)) rfl
set_option maxRecDepth 100000 in
theorem k_868 : Cond.selects "TwinTables$Life" yX2_write yX2_write ∈ Tw := tw_of (tb_4 (List.mem_of_getElem? (i := 86) rfl)) rfl
set_option maxRecDepth 100000 in
theorem k_869 : Cond.code yX2_write prog_4_method_6_code 4 (some FieldType.int) ∈ Tw := tw_of (tb_4 (List.mem_of_getElem? (i := 87) rfl)) rfl
set_option maxRecDepth 100000 in
theorem k_870 : Cond.constant "TwinTables$Life" 45 (-1000000002) ∈ Tw := tw_of (tb_4 (List.mem_of_getElem? (i := 88) rfl)) rfl
set_option maxRecDepth 100000 in
theorem k_871 : Cond.constant "TwinTables$Life" 46 (-1000000003) ∈ Tw := tw_of (tb_4 (List.mem_of_getElem? (i := 89) rfl)) rfl
set_option maxRecDepth 100000 in
theorem k_872 : Cond.methodLink "TwinTablesLaw" 110 yX9_could ∈ Tw := tw_of (tb_4 (List.mem_of_getElem? (i := 90) rfl)) rfl
set_option maxRecDepth 100000 in
theorem k_873 : Cond.instanceMethod yX9_could ∈ Tw := tw_of (tb_4 (List.mem_of_getElem? (i := 91) rfl)) rfl
set_option maxRecDepth 100000 in
theorem k_874 : Cond.selects "TwinTables" yX9_could yX9_could ∈ Tw := tw_of (tb_4 (List.mem_of_getElem? (i := 92) rfl)) rfl
set_option maxRecDepth 100000 in
theorem k_875 : Cond.code yX9_could prog_1_method_25_code 4 (some FieldType.int) ∈ Tw := tw_of (tb_4 (List.mem_of_getElem? (i := 93) rfl)) rfl
set_option maxRecDepth 100000 in
theorem k_876 : Cond.methodLink "TwinTables" 230 yX2_allows ∈ Tw := tw_of (tb_4 (List.mem_of_getElem? (i := 94) rfl)) rfl
set_option maxRecDepth 100000 in
theorem k_877 : Cond.instanceMethod yX2_allows ∈ Tw := tw_of (tb_4 (List.mem_of_getElem? (i := 95) rfl)) rfl
set_option maxRecDepth 100000 in
theorem k_878 : Cond.selects "TwinTables$Life" yX2_allows yX2_allows ∈ Tw := tw_of (tb_4 (List.mem_of_getElem? (i := 96) rfl)) rfl
set_option maxRecDepth 100000 in
theorem k_879 : Cond.code yX2_allows prog_4_method_7_code 7 (some FieldType.boolean) ∈ Tw := tw_of (tb_4 (List.mem_of_getElem? (i := 97) rfl)) rfl
set_option maxRecDepth 100000 in
theorem k_880 : Cond.methodLink "TwinTables$Life" 47 yX2_canGo ∈ Tw := tw_of (tb_4 (List.mem_of_getElem? (i := 98) rfl)) rfl
set_option maxRecDepth 100000 in
theorem k_882 : Cond.instanceMethod yX2_canGo ∈ Tw := tw_of (tb_4 (List.mem_of_getElem? (i := 100) rfl)) rfl
set_option maxRecDepth 100000 in
theorem k_883 : Cond.code yX2_canGo prog_4_method_8_code 5 (some FieldType.boolean) ∈ Tw := tw_of (tb_4 (List.mem_of_getElem? (i := 101) rfl)) rfl
set_option maxRecDepth 100000 in
theorem k_884 : Cond.methodLink "TwinTables$Life" 51 yX2_leastDays ∈ Tw := tw_of (tb_4 (List.mem_of_getElem? (i := 102) rfl)) rfl
set_option maxRecDepth 100000 in
theorem k_885 : Cond.methodLink "TwinTablesLaw" 114 yX9_leaner ∈ Tw := tw_of (tb_4 (List.mem_of_getElem? (i := 103) rfl)) rfl
set_option maxRecDepth 100000 in
theorem k_886 : Cond.instanceMethod yX9_leaner ∈ Tw := tw_of (tb_4 (List.mem_of_getElem? (i := 104) rfl)) rfl
set_option maxRecDepth 100000 in
theorem k_887 : Cond.selects "TwinTables" yX9_leaner yX9_leaner ∈ Tw := tw_of (tb_4 (List.mem_of_getElem? (i := 105) rfl)) rfl
set_option maxRecDepth 100000 in
theorem k_888 : Cond.code yX9_leaner prog_1_method_26_code 5 (some FieldType.int) ∈ Tw := tw_of (tb_4 (List.mem_of_getElem? (i := 106) rfl)) rfl
set_option maxRecDepth 100000 in
theorem k_889 : Cond.methodLink "TwinTables" 240 yX9_lowBits ∈ Tw := tw_of (tb_4 (List.mem_of_getElem? (i := 107) rfl)) rfl
set_option maxRecDepth 100000 in
theorem k_890 : Cond.static yX9_lowBits ∈ Tw := tw_of (tb_4 (List.mem_of_getElem? (i := 108) rfl)) rfl
set_option maxRecDepth 100000 in
theorem k_891 : Cond.code yX9_lowBits prog_1_method_57_code 1 (some FieldType.int) ∈ Tw := tw_of (tb_4 (List.mem_of_getElem? (i := 109) rfl)) rfl
set_option maxRecDepth 100000 in
theorem k_892 : Cond.methodLink "TwinTables" 248 yX1_addLeaner ∈ Tw := tw_of (tb_4 (List.mem_of_getElem? (i := 110) rfl)) rfl
set_option maxRecDepth 100000 in
theorem k_893 : Cond.instanceMethod yX1_addLeaner ∈ Tw := tw_of (tb_4 (List.mem_of_getElem? (i := 111) rfl)) rfl
set_option maxRecDepth 100000 in
theorem k_894 : Cond.selects "TwinTables$Leaning" yX1_addLeaner yX1_addLeaner ∈ Tw := tw_of (tb_4 (List.mem_of_getElem? (i := 112) rfl)) rfl
set_option maxRecDepth 100000 in
theorem k_895 : Cond.code yX1_addLeaner prog_3_method_3_code 4 (some FieldType.int) ∈ Tw := tw_of (tb_4 (List.mem_of_getElem? (i := 113) rfl)) rfl
set_option maxRecDepth 100000 in
theorem k_896 : Cond.constant "TwinTables$Leaning" 37 (-1000000003) ∈ Tw := tw_of (tb_4 (List.mem_of_getElem? (i := 114) rfl)) rfl
set_option maxRecDepth 100000 in
theorem k_897 : Cond.methodLink "TwinTablesLaw" 118 yX9_falls ∈ Tw := tw_of (tb_4 (List.mem_of_getElem? (i := 115) rfl)) rfl
set_option maxRecDepth 100000 in
theorem k_898 : Cond.instanceMethod yX9_falls ∈ Tw := tw_of (tb_4 (List.mem_of_getElem? (i := 116) rfl)) rfl
set_option maxRecDepth 100000 in
theorem k_899 : Cond.selects "TwinTables" yX9_falls yX9_falls ∈ Tw := tw_of (tb_4 (List.mem_of_getElem? (i := 117) rfl)) rfl
set_option maxRecDepth 100000 in
theorem k_900 : Cond.code yX9_falls prog_1_method_27_code 2 (some FieldType.int) ∈ Tw := tw_of (tb_4 (List.mem_of_getElem? (i := 118) rfl)) rfl
set_option maxRecDepth 100000 in
theorem k_901 : Cond.methodLink "TwinTables" 251 yX1_fallen ∈ Tw := tw_of (tb_4 (List.mem_of_getElem? (i := 119) rfl)) rfl
set_option maxRecDepth 100000 in
theorem k_902 : Cond.instanceMethod yX1_fallen ∈ Tw := tw_of (tb_4 (List.mem_of_getElem? (i := 120) rfl)) rfl
set_option maxRecDepth 100000 in
theorem k_903 : Cond.selects "TwinTables$Leaning" yX1_fallen yX1_fallen ∈ Tw := tw_of (tb_4 (List.mem_of_getElem? (i := 121) rfl)) rfl
set_option maxRecDepth 100000 in
theorem k_904 : Cond.code yX1_fallen prog_3_method_4_code 5 (some FieldType.int) ∈ Tw := tw_of (tb_4 (List.mem_of_getElem? (i := 122) rfl)) rfl
set_option maxRecDepth 100000 in
theorem k_905 : Cond.methodLink "TwinTables$Leaning" 38 yJ6_bitCount_0f7a4 ∈ Tw := tw_of (tb_4 (List.mem_of_getElem? (i := 123) rfl)) rfl
set_option maxRecDepth 100000 in
theorem k_906 : Cond.static yJ6_bitCount_0f7a4 ∈ Tw := tw_of (tb_4 (List.mem_of_getElem? (i := 124) rfl)) rfl
set_option maxRecDepth 100000 in
theorem k_907 : Cond.code yJ6_bitCount_0f7a4 prog_14_method_49_code 1 (some FieldType.int) ∈ Tw := tw_of (tb_4 (List.mem_of_getElem? (i := 125) rfl)) rfl
set_option maxRecDepth 100000 in
theorem k_908 : Cond.constant "java/lang/Integer" 265 (1431655765) ∈ Tw := tw_of (tb_4 (List.mem_of_getElem? (i := 126) rfl)) rfl
set_option maxRecDepth 100000 in
theorem k_909 : Cond.constant "java/lang/Integer" 266 (858993459) ∈ Tw := tw_of (tb_4 (List.mem_of_getElem? (i := 127) rfl)) rfl
set_option maxRecDepth 100000 in
theorem k_910 : Cond.constant "java/lang/Integer" 267 (252645135) ∈ Tw := tw_of (tb_4 (List.mem_of_getElem? (i := 128) rfl)) rfl
set_option maxRecDepth 100000 in
theorem k_911 : Cond.methodLink "TwinTablesLaw" 122 yX9_left ∈ Tw := tw_of (tb_4 (List.mem_of_getElem? (i := 129) rfl)) rfl
set_option maxRecDepth 100000 in
theorem k_912 : Cond.instanceMethod yX9_left ∈ Tw := tw_of (tb_4 (List.mem_of_getElem? (i := 130) rfl)) rfl
set_option maxRecDepth 100000 in
theorem k_913 : Cond.selects "TwinTables" yX9_left yX9_left ∈ Tw := tw_of (tb_4 (List.mem_of_getElem? (i := 131) rfl)) rfl
set_option maxRecDepth 100000 in
theorem k_914 : Cond.code yX9_left prog_1_method_28_code 2 (some FieldType.int) ∈ Tw := tw_of (tb_4 (List.mem_of_getElem? (i := 132) rfl)) rfl
set_option maxRecDepth 100000 in
theorem k_915 : Cond.methodLink "TwinTablesLaw" 126 yX9_pillar ∈ Tw := tw_of (tb_4 (List.mem_of_getElem? (i := 133) rfl)) rfl
set_option maxRecDepth 100000 in
theorem k_916 : Cond.instanceMethod yX9_pillar ∈ Tw := tw_of (tb_4 (List.mem_of_getElem? (i := 134) rfl)) rfl
set_option maxRecDepth 100000 in
theorem k_917 : Cond.selects "TwinTables" yX9_pillar yX9_pillar ∈ Tw := tw_of (tb_4 (List.mem_of_getElem? (i := 135) rfl)) rfl
set_option maxRecDepth 100000 in
theorem k_918 : Cond.code yX9_pillar prog_1_method_29_code 5 (some FieldType.int) ∈ Tw := tw_of (tb_4 (List.mem_of_getElem? (i := 136) rfl)) rfl
set_option maxRecDepth 100000 in
theorem k_919 : Cond.methodLink "TwinTables" 254 yJ6_bitCount_0f7a4 ∈ Tw := tw_of (tb_4 (List.mem_of_getElem? (i := 137) rfl)) rfl
set_option maxRecDepth 100000 in
theorem k_920 : Cond.methodLink "TwinTablesLaw" 130 yX9_source ∈ Tw := tw_of (tb_4 (List.mem_of_getElem? (i := 138) rfl)) rfl
set_option maxRecDepth 100000 in
theorem k_921 : Cond.instanceMethod yX9_source ∈ Tw := tw_of (tb_4 (List.mem_of_getElem? (i := 139) rfl)) rfl
set_option maxRecDepth 100000 in
theorem k_922 : Cond.selects "TwinTables" yX9_source yX9_source ∈ Tw := tw_of (tb_4 (List.mem_of_getElem? (i := 140) rfl)) rfl
set_option maxRecDepth 100000 in
theorem k_923 : Cond.code yX9_source prog_1_method_30_code 2 (some FieldType.int) ∈ Tw := tw_of (tb_4 (List.mem_of_getElem? (i := 141) rfl)) rfl
set_option maxRecDepth 100000 in
theorem k_924 : Cond.methodLink "TwinTables" 259 yX1_addSource ∈ Tw := tw_of (tb_4 (List.mem_of_getElem? (i := 142) rfl)) rfl
set_option maxRecDepth 100000 in
theorem k_925 : Cond.instanceMethod yX1_addSource ∈ Tw := tw_of (tb_4 (List.mem_of_getElem? (i := 143) rfl)) rfl
set_option maxRecDepth 100000 in
theorem k_926 : Cond.selects "TwinTables$Leaning" yX1_addSource yX1_addSource ∈ Tw := tw_of (tb_4 (List.mem_of_getElem? (i := 144) rfl)) rfl
set_option maxRecDepth 100000 in
theorem k_927 : Cond.code yX1_addSource prog_3_method_5_code 2 (some FieldType.int) ∈ Tw := tw_of (tb_4 (List.mem_of_getElem? (i := 145) rfl)) rfl
set_option maxRecDepth 100000 in
theorem k_928 : Cond.methodLink "TwinTablesLaw" 134 yX9_next ∈ Tw := tw_of (tb_4 (List.mem_of_getElem? (i := 146) rfl)) rfl
set_option maxRecDepth 100000 in
theorem k_929 : Cond.instanceMethod yX9_next ∈ Tw := tw_of (tb_4 (List.mem_of_getElem? (i := 147) rfl)) rfl
set_option maxRecDepth 100000 in
theorem k_930 : Cond.selects "TwinTables" yX9_next yX9_next ∈ Tw := tw_of (tb_4 (List.mem_of_getElem? (i := 148) rfl)) rfl
set_option maxRecDepth 100000 in
theorem k_931 : Cond.code yX9_next prog_1_method_31_code 2 (some FieldType.int) ∈ Tw := tw_of (tb_4 (List.mem_of_getElem? (i := 149) rfl)) rfl
set_option maxRecDepth 100000 in
theorem k_932 : Cond.methodLink "TwinTables" 262 yX1_bestSource ∈ Tw := tw_of (tb_4 (List.mem_of_getElem? (i := 150) rfl)) rfl
set_option maxRecDepth 100000 in
theorem k_933 : Cond.instanceMethod yX1_bestSource ∈ Tw := tw_of (tb_4 (List.mem_of_getElem? (i := 151) rfl)) rfl
set_option maxRecDepth 100000 in
theorem k_934 : Cond.selects "TwinTables$Leaning" yX1_bestSource yX1_bestSource ∈ Tw := tw_of (tb_4 (List.mem_of_getElem? (i := 152) rfl)) rfl
set_option maxRecDepth 100000 in
theorem k_935 : Cond.code yX1_bestSource prog_3_method_8_code 6 (some FieldType.int) ∈ Tw := tw_of (tb_4 (List.mem_of_getElem? (i := 153) rfl)) rfl
set_option maxRecDepth 100000 in
theorem k_936 : Cond.constant "TwinTables$Leaning" 54 (-1000000005) ∈ Tw := tw_of (tb_4 (List.mem_of_getElem? (i := 154) rfl)) rfl
set_option maxRecDepth 100000 in
theorem k_937 : Cond.methodLink "TwinTables$Leaning" 55 yX1_mostLeft ∈ Tw := tw_of (tb_4 (List.mem_of_getElem? (i := 155) rfl)) rfl
set_option maxRecDepth 100000 in
theorem k_939 : Cond.instanceMethod yX1_mostLeft ∈ Tw := tw_of (tb_4 (List.mem_of_getElem? (i := 157) rfl)) rfl
set_option maxRecDepth 100000 in
theorem k_940 : Cond.code yX1_mostLeft prog_3_method_7_code 5 (some FieldType.int) ∈ Tw := tw_of (tb_4 (List.mem_of_getElem? (i := 158) rfl)) rfl
set_option maxRecDepth 100000 in
theorem k_941 : Cond.methodLink "TwinTables$Leaning" 44 yX1_agreeing ∈ Tw := tw_of (tb_4 (List.mem_of_getElem? (i := 159) rfl)) rfl
set_option maxRecDepth 100000 in
theorem k_942 : Cond.instanceMethod yX1_agreeing ∈ Tw := tw_of (tb_4 (List.mem_of_getElem? (i := 160) rfl)) rfl
set_option maxRecDepth 100000 in
theorem k_943 : Cond.selects "TwinTables$Leaning" yX1_agreeing yX1_agreeing ∈ Tw := tw_of (tb_4 (List.mem_of_getElem? (i := 161) rfl)) rfl
set_option maxRecDepth 100000 in
theorem k_944 : Cond.code yX1_agreeing prog_3_method_6_code 7 (some FieldType.int) ∈ Tw := tw_of (tb_4 (List.mem_of_getElem? (i := 162) rfl)) rfl
set_option maxRecDepth 100000 in
theorem k_945 : Cond.methodLink "TwinTables$Leaning" 48 yJ9_max_7cf53 ∈ Tw := tw_of (tb_4 (List.mem_of_getElem? (i := 163) rfl)) rfl
set_option maxRecDepth 100000 in
theorem k_946 : Cond.methodLink "TwinTablesLaw" 138 yX9_heard ∈ Tw := tw_of (tb_4 (List.mem_of_getElem? (i := 164) rfl)) rfl
set_option maxRecDepth 100000 in
theorem k_947 : Cond.instanceMethod yX9_heard ∈ Tw := tw_of (tb_4 (List.mem_of_getElem? (i := 165) rfl)) rfl
set_option maxRecDepth 100000 in
theorem k_948 : Cond.selects "TwinTables" yX9_heard yX9_heard ∈ Tw := tw_of (tb_4 (List.mem_of_getElem? (i := 166) rfl)) rfl
set_option maxRecDepth 100000 in
theorem k_949 : Cond.code yX9_heard prog_1_method_32_code 4 (some FieldType.int) ∈ Tw := tw_of (tb_4 (List.mem_of_getElem? (i := 167) rfl)) rfl
set_option maxRecDepth 100000 in
theorem k_950 : Cond.methodLink "TwinTables" 268 yX1_agreeing ∈ Tw := tw_of (tb_4 (List.mem_of_getElem? (i := 168) rfl)) rfl
set_option maxRecDepth 100000 in
theorem k_951 : Cond.methodLink "TwinTablesLaw" 142 yX9_seed ∈ Tw := tw_of (tb_4 (List.mem_of_getElem? (i := 169) rfl)) rfl
set_option maxRecDepth 100000 in
theorem k_952 : Cond.instanceMethod yX9_seed ∈ Tw := tw_of (tb_4 (List.mem_of_getElem? (i := 170) rfl)) rfl
set_option maxRecDepth 100000 in
theorem k_953 : Cond.selects "TwinTables" yX9_seed yX9_seed ∈ Tw := tw_of (tb_4 (List.mem_of_getElem? (i := 171) rfl)) rfl
set_option maxRecDepth 100000 in
theorem k_954 : Cond.code yX9_seed prog_1_method_33_code 3 (some FieldType.int) ∈ Tw := tw_of (tb_4 (List.mem_of_getElem? (i := 172) rfl)) rfl
set_option maxRecDepth 100000 in
theorem k_955 : Cond.methodLink "TwinTablesLaw" 146 yX9_share ∈ Tw := tw_of (tb_4 (List.mem_of_getElem? (i := 173) rfl)) rfl
set_option maxRecDepth 100000 in
theorem k_956 : Cond.instanceMethod yX9_share ∈ Tw := tw_of (tb_4 (List.mem_of_getElem? (i := 174) rfl)) rfl
set_option maxRecDepth 100000 in
theorem k_957 : Cond.selects "TwinTables" yX9_share yX9_share ∈ Tw := tw_of (tb_4 (List.mem_of_getElem? (i := 175) rfl)) rfl
set_option maxRecDepth 100000 in
theorem k_958 : Cond.code yX9_share prog_1_method_34_code 9 (some FieldType.int) ∈ Tw := tw_of (tb_4 (List.mem_of_getElem? (i := 176) rfl)) rfl
set_option maxRecDepth 100000 in
theorem k_959 : Cond.methodLink "TwinTables" 274 yX9_areLandTables ∈ Tw := tw_of (tb_4 (List.mem_of_getElem? (i := 177) rfl)) rfl
set_option maxRecDepth 100000 in
theorem k_960 : Cond.static yX9_areLandTables ∈ Tw := tw_of (tb_4 (List.mem_of_getElem? (i := 178) rfl)) rfl
set_option maxRecDepth 100000 in
theorem k_961 : Cond.code yX9_areLandTables prog_1_method_53_code 1 (some FieldType.boolean) ∈ Tw := tw_of (tb_4 (List.mem_of_getElem? (i := 179) rfl)) rfl
set_option maxRecDepth 100000 in
theorem k_962 : Cond.methodLink "TwinTables" 277 yX6_drawLand ∈ Tw := tw_of (tb_4 (List.mem_of_getElem? (i := 180) rfl)) rfl
set_option maxRecDepth 100000 in
theorem k_963 : Cond.instanceMethod yX6_drawLand ∈ Tw := tw_of (tb_4 (List.mem_of_getElem? (i := 181) rfl)) rfl
set_option maxRecDepth 100000 in
theorem k_964 : Cond.selects "TwinTables$State" yX6_drawLand yX6_drawLand ∈ Tw := tw_of (tb_4 (List.mem_of_getElem? (i := 182) rfl)) rfl
set_option maxRecDepth 100000 in
theorem k_965 : Cond.code yX6_drawLand prog_8_method_16_code 6 none ∈ Tw := tw_of (tb_4 (List.mem_of_getElem? (i := 183) rfl)) rfl
set_option maxRecDepth 100000 in
theorem k_966 : Cond.methodLink "TwinTables$State" 176 yJ9_max_7cf53 ∈ Tw := tw_of (tb_4 (List.mem_of_getElem? (i := 184) rfl)) rfl
set_option maxRecDepth 100000 in
theorem k_967 : Cond.methodLink "TwinTables$State" 179 yX6_draw ∈ Tw := tw_of (tb_4 (List.mem_of_getElem? (i := 185) rfl)) rfl
set_option maxRecDepth 100000 in
theorem k_969 : Cond.instanceMethod yX6_draw ∈ Tw := tw_of (tb_4 (List.mem_of_getElem? (i := 187) rfl)) rfl
set_option maxRecDepth 100000 in
theorem k_970 : Cond.code yX6_draw prog_8_method_15_code 1 (some FieldType.int) ∈ Tw := tw_of (tb_4 (List.mem_of_getElem? (i := 188) rfl)) rfl
set_option maxRecDepth 100000 in
theorem k_971 : Cond.constant "TwinTables$State" 175 (1103515245) ∈ Tw := tw_of (tb_4 (List.mem_of_getElem? (i := 189) rfl)) rfl
set_option maxRecDepth 100000 in
theorem k_972 : Cond.methodLink "TwinTablesLaw" 151 yX9_sheet ∈ Tw := tw_of (tb_4 (List.mem_of_getElem? (i := 190) rfl)) rfl
set_option maxRecDepth 100000 in
theorem k_973 : Cond.instanceMethod yX9_sheet ∈ Tw := tw_of (tb_4 (List.mem_of_getElem? (i := 191) rfl)) rfl
set_option maxRecDepth 100000 in
theorem k_974 : Cond.selects "TwinTables" yX9_sheet yX9_sheet ∈ Tw := tw_of (tb_4 (List.mem_of_getElem? (i := 192) rfl)) rfl
set_option maxRecDepth 100000 in
theorem k_975 : Cond.code yX9_sheet prog_1_method_35_code 4 (some FieldType.int) ∈ Tw := tw_of (tb_4 (List.mem_of_getElem? (i := 193) rfl)) rfl
set_option maxRecDepth 100000 in
theorem k_976 : Cond.methodLink "TwinTables" 281 yX9_isSheet ∈ Tw := tw_of (tb_4 (List.mem_of_getElem? (i := 194) rfl)) rfl
set_option maxRecDepth 100000 in
theorem k_977 : Cond.static yX9_isSheet ∈ Tw := tw_of (tb_4 (List.mem_of_getElem? (i := 195) rfl)) rfl
set_option maxRecDepth 100000 in
theorem k_978 : Cond.code yX9_isSheet prog_1_method_55_code 1 (some FieldType.boolean) ∈ Tw := tw_of (tb_4 (List.mem_of_getElem? (i := 196) rfl)) rfl
set_option maxRecDepth 100000 in
theorem k_979 : Cond.methodLink "TwinTables" 284 yX4_renew ∈ Tw := tw_of (tb_4 (List.mem_of_getElem? (i := 197) rfl)) rfl
set_option maxRecDepth 100000 in
theorem k_980 : Cond.instanceMethod yX4_renew ∈ Tw := tw_of (tb_4 (List.mem_of_getElem? (i := 198) rfl)) rfl
set_option maxRecDepth 100000 in
theorem k_981 : Cond.selects "TwinTables$Sheet" yX4_renew yX4_renew ∈ Tw := tw_of (tb_4 (List.mem_of_getElem? (i := 199) rfl)) rfl
set_option maxRecDepth 100000 in
theorem k_982 : Cond.code yX4_renew prog_6_method_3_code 4 (some FieldType.int) ∈ Tw := tw_of (tb_4 (List.mem_of_getElem? (i := 200) rfl)) rfl
set_option maxRecDepth 100000 in
theorem k_983 : Cond.constant "TwinTables" 287 (-1000000014) ∈ Tw := tw_of (tb_4 (List.mem_of_getElem? (i := 201) rfl)) rfl
set_option maxRecDepth 100000 in
theorem k_984 : Cond.methodLink "TwinTablesLaw" 155 yX9_mark ∈ Tw := tw_of (tb_4 (List.mem_of_getElem? (i := 202) rfl)) rfl
set_option maxRecDepth 100000 in
theorem k_985 : Cond.instanceMethod yX9_mark ∈ Tw := tw_of (tb_4 (List.mem_of_getElem? (i := 203) rfl)) rfl
set_option maxRecDepth 100000 in
theorem k_986 : Cond.selects "TwinTables" yX9_mark yX9_mark ∈ Tw := tw_of (tb_4 (List.mem_of_getElem? (i := 204) rfl)) rfl
set_option maxRecDepth 100000 in
theorem k_987 : Cond.code yX9_mark prog_1_method_36_code 5 (some FieldType.int) ∈ Tw := tw_of (tb_4 (List.mem_of_getElem? (i := 205) rfl)) rfl
set_option maxRecDepth 100000 in
theorem k_988 : Cond.constant "TwinTables" 291 (-1000000011) ∈ Tw := tw_of (tb_4 (List.mem_of_getElem? (i := 206) rfl)) rfl
set_option maxRecDepth 100000 in
theorem k_989 : Cond.methodLink "TwinTables" 292 yX4_has ∈ Tw := tw_of (tb_4 (List.mem_of_getElem? (i := 207) rfl)) rfl
set_option maxRecDepth 100000 in
theorem k_990 : Cond.instanceMethod yX4_has ∈ Tw := tw_of (tb_4 (List.mem_of_getElem? (i := 208) rfl)) rfl
set_option maxRecDepth 100000 in
theorem k_991 : Cond.selects "TwinTables$Sheet" yX4_has yX4_has ∈ Tw := tw_of (tb_4 (List.mem_of_getElem? (i := 209) rfl)) rfl
set_option maxRecDepth 100000 in
theorem k_992 : Cond.code yX4_has prog_6_method_4_code 2 (some FieldType.boolean) ∈ Tw := tw_of (tb_4 (List.mem_of_getElem? (i := 210) rfl)) rfl
set_option maxRecDepth 100000 in
theorem k_993 : Cond.constant "TwinTables" 293 (-1000000013) ∈ Tw := tw_of (tb_4 (List.mem_of_getElem? (i := 211) rfl)) rfl
set_option maxRecDepth 100000 in
theorem k_994 : Cond.constant "TwinTables" 297 (-99999) ∈ Tw := tw_of (tb_4 (List.mem_of_getElem? (i := 212) rfl)) rfl
set_option maxRecDepth 100000 in
theorem k_995 : Cond.constant "TwinTables" 298 (99999) ∈ Tw := tw_of (tb_4 (List.mem_of_getElem? (i := 213) rfl)) rfl
set_option maxRecDepth 100000 in
theorem k_996 : Cond.methodLink "TwinTablesLaw" 159 yX9_print ∈ Tw := tw_of (tb_4 (List.mem_of_getElem? (i := 214) rfl)) rfl
set_option maxRecDepth 100000 in
theorem k_997 : Cond.instanceMethod yX9_print ∈ Tw := tw_of (tb_4 (List.mem_of_getElem? (i := 215) rfl)) rfl
set_option maxRecDepth 100000 in
theorem k_998 : Cond.selects "TwinTables" yX9_print yX9_print ∈ Tw := tw_of (tb_4 (List.mem_of_getElem? (i := 216) rfl)) rfl
set_option maxRecDepth 100000 in
theorem k_999 : Cond.code yX9_print prog_1_method_37_code 7 (some FieldType.int) ∈ Tw := tw_of (tb_4 (List.mem_of_getElem? (i := 217) rfl)) rfl
set_option maxRecDepth 100000 in
theorem k_1000 : Cond.methodLink "TwinTables" 299 yX4_values ∈ Tw := tw_of (tb_4 (List.mem_of_getElem? (i := 218) rfl)) rfl
set_option maxRecDepth 100000 in
theorem k_1001 : Cond.instanceMethod yX4_values ∈ Tw := tw_of (tb_4 (List.mem_of_getElem? (i := 219) rfl)) rfl
set_option maxRecDepth 100000 in
theorem k_1002 : Cond.selects "TwinTables$Sheet" yX4_values yX4_values ∈ Tw := tw_of (tb_4 (List.mem_of_getElem? (i := 220) rfl)) rfl
set_option maxRecDepth 100000 in
theorem k_1003 : Cond.code yX4_values prog_6_method_6_code 2 (some FieldType.int) ∈ Tw := tw_of (tb_4 (List.mem_of_getElem? (i := 221) rfl)) rfl
set_option maxRecDepth 100000 in
theorem k_1004 : Cond.methodLinkNest "TwinTables$Sheet" 28 yX9_within "TwinTables" ∈ lw_tbl := tb_4 (List.mem_of_getElem? (i := 222) rfl)
set_option maxRecDepth 100000 in
theorem k_1005 : Cond.methodLink "TwinTablesLaw" 163 yX9_copy ∈ Tw := tw_of (tb_4 (List.mem_of_getElem? (i := 223) rfl)) rfl
set_option maxRecDepth 100000 in
theorem k_1006 : Cond.instanceMethod yX9_copy ∈ Tw := tw_of (tb_4 (List.mem_of_getElem? (i := 224) rfl)) rfl
set_option maxRecDepth 100000 in
theorem k_1007 : Cond.selects "TwinTables" yX9_copy yX9_copy ∈ Tw := tw_of (tb_4 (List.mem_of_getElem? (i := 225) rfl)) rfl
set_option maxRecDepth 100000 in
theorem k_1008 : Cond.code yX9_copy prog_1_method_38_code 8 (some FieldType.int) ∈ Tw := tw_of (tb_4 (List.mem_of_getElem? (i := 226) rfl)) rfl
set_option maxRecDepth 100000 in
theorem k_1009 : Cond.methodLink "TwinTables" 303 yX4_hasRow ∈ Tw := tw_of (tb_4 (List.mem_of_getElem? (i := 227) rfl)) rfl
set_option maxRecDepth 100000 in
theorem k_1010 : Cond.instanceMethod yX4_hasRow ∈ Tw := tw_of (tb_4 (List.mem_of_getElem? (i := 228) rfl)) rfl
set_option maxRecDepth 100000 in
theorem k_1011 : Cond.selects "TwinTables$Sheet" yX4_hasRow yX4_hasRow ∈ Tw := tw_of (tb_4 (List.mem_of_getElem? (i := 229) rfl)) rfl
set_option maxRecDepth 100000 in
theorem k_1012 : Cond.code yX4_hasRow prog_6_method_5_code 3 (some FieldType.boolean) ∈ Tw := tw_of (tb_4 (List.mem_of_getElem? (i := 230) rfl)) rfl
set_option maxRecDepth 100000 in
theorem k_1013 : Cond.methodLink "TwinTables" 306 ⟨"java/lang/System", "arraycopy", "(Ljava/lang/Object;ILjava/lang/Object;II)V"⟩ ∈ Tw := tw_of (tb_4 (List.mem_of_getElem? (i := 231) rfl)) rfl
set_option maxRecDepth 100000 in
theorem k_1014 : Cond.methodLink "TwinTablesLaw" 167 yX9_lay ∈ Tw := tw_of (tb_4 (List.mem_of_getElem? (i := 232) rfl)) rfl
set_option maxRecDepth 100000 in
theorem k_1015 : Cond.instanceMethod yX9_lay ∈ Tw := tw_of (tb_4 (List.mem_of_getElem? (i := 233) rfl)) rfl
set_option maxRecDepth 100000 in
theorem k_1016 : Cond.selects "TwinTables" yX9_lay yX9_lay ∈ Tw := tw_of (tb_4 (List.mem_of_getElem? (i := 234) rfl)) rfl
set_option maxRecDepth 100000 in
theorem k_1017 : Cond.code yX9_lay prog_1_method_39_code 6 (some FieldType.int) ∈ Tw := tw_of (tb_4 (List.mem_of_getElem? (i := 235) rfl)) rfl
set_option maxRecDepth 100000 in
theorem k_1018 : Cond.methodLink "TwinTables" 312 yX9_isSlot ∈ Tw := tw_of (tb_4 (List.mem_of_getElem? (i := 236) rfl)) rfl
set_option maxRecDepth 100000 in
theorem k_1019 : Cond.static yX9_isSlot ∈ Tw := tw_of (tb_4 (List.mem_of_getElem? (i := 237) rfl)) rfl
set_option maxRecDepth 100000 in
theorem k_1020 : Cond.code yX9_isSlot prog_1_method_56_code 1 (some FieldType.boolean) ∈ Tw := tw_of (tb_4 (List.mem_of_getElem? (i := 238) rfl)) rfl
set_option maxRecDepth 100000 in
theorem k_1021 : Cond.methodLink "TwinTables" 318 yX5_holdFigure ∈ Tw := tw_of (tb_4 (List.mem_of_getElem? (i := 239) rfl)) rfl
set_option maxRecDepth 100000 in
theorem k_1022 : Cond.instanceMethod yX5_holdFigure ∈ Tw := tw_of (tb_5 (List.mem_of_getElem? (i := 0) rfl)) rfl
set_option maxRecDepth 100000 in
theorem k_1023 : Cond.selects "TwinTables$Slot" yX5_holdFigure yX5_holdFigure ∈ Tw := tw_of (tb_5 (List.mem_of_getElem? (i := 1) rfl)) rfl
set_option maxRecDepth 100000 in
theorem k_1024 : Cond.code yX5_holdFigure prog_7_method_2_code 3 none ∈ Tw := tw_of (tb_5 (List.mem_of_getElem? (i := 2) rfl)) rfl
set_option maxRecDepth 100000 in
theorem k_1025 : Cond.methodLink "TwinTables" 325 yX4_become ∈ Tw := tw_of (tb_5 (List.mem_of_getElem? (i := 3) rfl)) rfl
set_option maxRecDepth 100000 in
theorem k_1026 : Cond.instanceMethod yX4_become ∈ Tw := tw_of (tb_5 (List.mem_of_getElem? (i := 4) rfl)) rfl
set_option maxRecDepth 100000 in
theorem k_1027 : Cond.selects "TwinTables$Sheet" yX4_become yX4_become ∈ Tw := tw_of (tb_5 (List.mem_of_getElem? (i := 5) rfl)) rfl
set_option maxRecDepth 100000 in
theorem k_1028 : Cond.code yX4_become prog_6_method_2_code 2 none ∈ Tw := tw_of (tb_5 (List.mem_of_getElem? (i := 6) rfl)) rfl
set_option maxRecDepth 100000 in
theorem k_1029 : Cond.methodLink "TwinTables$Sheet" 22 ⟨"java/lang/System", "arraycopy", "(Ljava/lang/Object;ILjava/lang/Object;II)V"⟩ ∈ Tw := tw_of (tb_5 (List.mem_of_getElem? (i := 7) rfl)) rfl
set_option maxRecDepth 100000 in
theorem k_1030 : Cond.methodLink "TwinTablesLaw" 171 yX9_ask ∈ Tw := tw_of (tb_5 (List.mem_of_getElem? (i := 8) rfl)) rfl
set_option maxRecDepth 100000 in
theorem k_1031 : Cond.instanceMethod yX9_ask ∈ Tw := tw_of (tb_5 (List.mem_of_getElem? (i := 9) rfl)) rfl
set_option maxRecDepth 100000 in
theorem k_1032 : Cond.selects "TwinTables" yX9_ask yX9_ask ∈ Tw := tw_of (tb_5 (List.mem_of_getElem? (i := 10) rfl)) rfl
set_option maxRecDepth 100000 in
theorem k_1033 : Cond.code yX9_ask prog_1_method_40_code 4 (some FieldType.int) ∈ Tw := tw_of (tb_5 (List.mem_of_getElem? (i := 11) rfl)) rfl
set_option maxRecDepth 100000 in
theorem k_1034 : Cond.methodLink "TwinTablesLaw" 175 yX9_item ∈ Tw := tw_of (tb_5 (List.mem_of_getElem? (i := 12) rfl)) rfl
set_option maxRecDepth 100000 in
theorem k_1035 : Cond.instanceMethod yX9_item ∈ Tw := tw_of (tb_5 (List.mem_of_getElem? (i := 13) rfl)) rfl
set_option maxRecDepth 100000 in
theorem k_1036 : Cond.selects "TwinTables" yX9_item yX9_item ∈ Tw := tw_of (tb_5 (List.mem_of_getElem? (i := 14) rfl)) rfl
set_option maxRecDepth 100000 in
theorem k_1037 : Cond.code yX9_item prog_1_method_41_code 4 (some FieldType.int) ∈ Tw := tw_of (tb_5 (List.mem_of_getElem? (i := 15) rfl)) rfl
set_option maxRecDepth 100000 in
theorem k_1038 : Cond.methodLink "TwinTablesLaw" 179 yX9_rest ∈ Tw := tw_of (tb_5 (List.mem_of_getElem? (i := 16) rfl)) rfl
set_option maxRecDepth 100000 in
theorem k_1039 : Cond.instanceMethod yX9_rest ∈ Tw := tw_of (tb_5 (List.mem_of_getElem? (i := 17) rfl)) rfl
set_option maxRecDepth 100000 in
theorem k_1040 : Cond.selects "TwinTables" yX9_rest yX9_rest ∈ Tw := tw_of (tb_5 (List.mem_of_getElem? (i := 18) rfl)) rfl
set_option maxRecDepth 100000 in
theorem k_1041 : Cond.code yX9_rest prog_1_method_42_code 4 (some FieldType.int) ∈ Tw := tw_of (tb_5 (List.mem_of_getElem? (i := 19) rfl)) rfl
set_option maxRecDepth 100000 in
theorem k_1042 : Cond.methodLink "TwinTablesLaw" 183 yX9_tell ∈ Tw := tw_of (tb_5 (List.mem_of_getElem? (i := 20) rfl)) rfl
set_option maxRecDepth 100000 in
theorem k_1043 : Cond.instanceMethod yX9_tell ∈ Tw := tw_of (tb_5 (List.mem_of_getElem? (i := 21) rfl)) rfl
set_option maxRecDepth 100000 in
theorem k_1044 : Cond.selects "TwinTables" yX9_tell yX9_tell ∈ Tw := tw_of (tb_5 (List.mem_of_getElem? (i := 22) rfl)) rfl
set_option maxRecDepth 100000 in
theorem k_1045 : Cond.code yX9_tell prog_1_method_43_code 2 (some FieldType.int) ∈ Tw := tw_of (tb_5 (List.mem_of_getElem? (i := 23) rfl)) rfl
set_option maxRecDepth 100000 in
theorem k_1046 : Cond.methodLink "TwinTablesLaw" 187 yX9_check ∈ Tw := tw_of (tb_5 (List.mem_of_getElem? (i := 24) rfl)) rfl
set_option maxRecDepth 100000 in
theorem k_1047 : Cond.instanceMethod yX9_check ∈ Tw := tw_of (tb_5 (List.mem_of_getElem? (i := 25) rfl)) rfl
set_option maxRecDepth 100000 in
theorem k_1048 : Cond.selects "TwinTables" yX9_check yX9_check ∈ Tw := tw_of (tb_5 (List.mem_of_getElem? (i := 26) rfl)) rfl
set_option maxRecDepth 100000 in
theorem k_1049 : Cond.code yX9_check prog_1_method_44_code 6 (some FieldType.int) ∈ Tw := tw_of (tb_5 (List.mem_of_getElem? (i := 27) rfl)) rfl
set_option maxRecDepth 100000 in
theorem k_1050 : Cond.methodLink "TwinTablesLaw" 191 yX9_keep ∈ Tw := tw_of (tb_5 (List.mem_of_getElem? (i := 28) rfl)) rfl
set_option maxRecDepth 100000 in
theorem k_1051 : Cond.instanceMethod yX9_keep ∈ Tw := tw_of (tb_5 (List.mem_of_getElem? (i := 29) rfl)) rfl
set_option maxRecDepth 100000 in
theorem k_1052 : Cond.selects "TwinTables" yX9_keep yX9_keep ∈ Tw := tw_of (tb_5 (List.mem_of_getElem? (i := 30) rfl)) rfl
set_option maxRecDepth 100000 in
theorem k_1053 : Cond.code yX9_keep prog_1_method_45_code 1 (some FieldType.int) ∈ Tw := tw_of (tb_5 (List.mem_of_getElem? (i := 31) rfl)) rfl
set_option maxRecDepth 100000 in
theorem k_1054 : Cond.methodLink "TwinTables" 343 yX6_become ∈ Tw := tw_of (tb_5 (List.mem_of_getElem? (i := 32) rfl)) rfl
set_option maxRecDepth 100000 in
theorem k_1055 : Cond.instanceMethod yX6_become ∈ Tw := tw_of (tb_5 (List.mem_of_getElem? (i := 33) rfl)) rfl
set_option maxRecDepth 100000 in
theorem k_1056 : Cond.selects "TwinTables$State" yX6_become yX6_become ∈ Tw := tw_of (tb_5 (List.mem_of_getElem? (i := 34) rfl)) rfl
set_option maxRecDepth 100000 in
theorem k_1057 : Cond.code yX6_become prog_8_method_2_code 2 none ∈ Tw := tw_of (tb_5 (List.mem_of_getElem? (i := 35) rfl)) rfl
set_option maxRecDepth 100000 in
theorem k_1058 : Cond.methodLink "TwinTables$State" 60 yX0_become ∈ Tw := tw_of (tb_5 (List.mem_of_getElem? (i := 36) rfl)) rfl
set_option maxRecDepth 100000 in
theorem k_1059 : Cond.instanceMethod yX0_become ∈ Tw := tw_of (tb_5 (List.mem_of_getElem? (i := 37) rfl)) rfl
set_option maxRecDepth 100000 in
theorem k_1060 : Cond.selects "TwinTables$Figures" yX0_become yX0_become ∈ Tw := tw_of (tb_5 (List.mem_of_getElem? (i := 38) rfl)) rfl
set_option maxRecDepth 100000 in
theorem k_1061 : Cond.code yX0_become prog_2_method_2_code 2 none ∈ Tw := tw_of (tb_5 (List.mem_of_getElem? (i := 39) rfl)) rfl
set_option maxRecDepth 100000 in
theorem k_1062 : Cond.methodLink "TwinTables$Figures" 34 ⟨"java/lang/System", "arraycopy", "(Ljava/lang/Object;ILjava/lang/Object;II)V"⟩ ∈ Tw := tw_of (tb_5 (List.mem_of_getElem? (i := 40) rfl)) rfl
set_option maxRecDepth 100000 in
theorem k_1063 : Cond.methodLink "TwinTables$State" 64 yX8_become ∈ Tw := tw_of (tb_5 (List.mem_of_getElem? (i := 41) rfl)) rfl
set_option maxRecDepth 100000 in
theorem k_1064 : Cond.instanceMethod yX8_become ∈ Tw := tw_of (tb_5 (List.mem_of_getElem? (i := 42) rfl)) rfl
set_option maxRecDepth 100000 in
theorem k_1065 : Cond.selects "TwinTables$Texts" yX8_become yX8_become ∈ Tw := tw_of (tb_5 (List.mem_of_getElem? (i := 43) rfl)) rfl
set_option maxRecDepth 100000 in
theorem k_1066 : Cond.code yX8_become prog_10_method_2_code 2 none ∈ Tw := tw_of (tb_5 (List.mem_of_getElem? (i := 44) rfl)) rfl
set_option maxRecDepth 100000 in
theorem k_1067 : Cond.methodLink "TwinTables$State" 67 yX3_become ∈ Tw := tw_of (tb_5 (List.mem_of_getElem? (i := 45) rfl)) rfl
set_option maxRecDepth 100000 in
theorem k_1068 : Cond.instanceMethod yX3_become ∈ Tw := tw_of (tb_5 (List.mem_of_getElem? (i := 46) rfl)) rfl
set_option maxRecDepth 100000 in
theorem k_1069 : Cond.selects "TwinTables$Lines" yX3_become yX3_become ∈ Tw := tw_of (tb_5 (List.mem_of_getElem? (i := 47) rfl)) rfl
set_option maxRecDepth 100000 in
theorem k_1070 : Cond.code yX3_become prog_5_method_2_code 2 none ∈ Tw := tw_of (tb_5 (List.mem_of_getElem? (i := 48) rfl)) rfl
set_option maxRecDepth 100000 in
theorem k_1071 : Cond.methodLink "TwinTables$Lines" 18 ⟨"java/lang/System", "arraycopy", "(Ljava/lang/Object;ILjava/lang/Object;II)V"⟩ ∈ Tw := tw_of (tb_5 (List.mem_of_getElem? (i := 49) rfl)) rfl
set_option maxRecDepth 100000 in
theorem k_1072 : Cond.methodLink "TwinTables$State" 70 yX2_become ∈ Tw := tw_of (tb_5 (List.mem_of_getElem? (i := 50) rfl)) rfl
set_option maxRecDepth 100000 in
theorem k_1073 : Cond.instanceMethod yX2_become ∈ Tw := tw_of (tb_5 (List.mem_of_getElem? (i := 51) rfl)) rfl
set_option maxRecDepth 100000 in
theorem k_1074 : Cond.selects "TwinTables$Life" yX2_become yX2_become ∈ Tw := tw_of (tb_5 (List.mem_of_getElem? (i := 52) rfl)) rfl
set_option maxRecDepth 100000 in
theorem k_1075 : Cond.code yX2_become prog_4_method_2_code 2 none ∈ Tw := tw_of (tb_5 (List.mem_of_getElem? (i := 53) rfl)) rfl
set_option maxRecDepth 100000 in
theorem k_1076 : Cond.methodLink "TwinTables$Life" 24 ⟨"java/lang/System", "arraycopy", "(Ljava/lang/Object;ILjava/lang/Object;II)V"⟩ ∈ Tw := tw_of (tb_5 (List.mem_of_getElem? (i := 54) rfl)) rfl
set_option maxRecDepth 100000 in
theorem k_1077 : Cond.methodLink "TwinTables$State" 73 yX1_become ∈ Tw := tw_of (tb_5 (List.mem_of_getElem? (i := 55) rfl)) rfl
set_option maxRecDepth 100000 in
theorem k_1078 : Cond.instanceMethod yX1_become ∈ Tw := tw_of (tb_5 (List.mem_of_getElem? (i := 56) rfl)) rfl
set_option maxRecDepth 100000 in
theorem k_1079 : Cond.selects "TwinTables$Leaning" yX1_become yX1_become ∈ Tw := tw_of (tb_5 (List.mem_of_getElem? (i := 57) rfl)) rfl
set_option maxRecDepth 100000 in
theorem k_1080 : Cond.code yX1_become prog_3_method_2_code 2 none ∈ Tw := tw_of (tb_5 (List.mem_of_getElem? (i := 58) rfl)) rfl
set_option maxRecDepth 100000 in
theorem k_1081 : Cond.methodLink "TwinTables$Leaning" 28 ⟨"java/lang/System", "arraycopy", "(Ljava/lang/Object;ILjava/lang/Object;II)V"⟩ ∈ Tw := tw_of (tb_5 (List.mem_of_getElem? (i := 59) rfl)) rfl
set_option maxRecDepth 100000 in
theorem k_1082 : Cond.methodLink "TwinTables$State" 76 ⟨"java/lang/System", "arraycopy", "(Ljava/lang/Object;ILjava/lang/Object;II)V"⟩ ∈ Tw := tw_of (tb_5 (List.mem_of_getElem? (i := 60) rfl)) rfl
set_option maxRecDepth 100000 in
theorem k_1083 : Cond.methodLink "TwinTablesLaw" 195 yX9_back ∈ Tw := tw_of (tb_5 (List.mem_of_getElem? (i := 61) rfl)) rfl
set_option maxRecDepth 100000 in
theorem k_1084 : Cond.instanceMethod yX9_back ∈ Tw := tw_of (tb_5 (List.mem_of_getElem? (i := 62) rfl)) rfl
set_option maxRecDepth 100000 in
theorem k_1085 : Cond.selects "TwinTables" yX9_back yX9_back ∈ Tw := tw_of (tb_5 (List.mem_of_getElem? (i := 63) rfl)) rfl
set_option maxRecDepth 100000 in
theorem k_1086 : Cond.code yX9_back prog_1_method_46_code 1 (some FieldType.int) ∈ Tw := tw_of (tb_5 (List.mem_of_getElem? (i := 64) rfl)) rfl
set_option maxRecDepth 100000 in
theorem k_1087 : Cond.methodLink "TwinTablesLaw" 199 yX9_count ∈ Tw := tw_of (tb_5 (List.mem_of_getElem? (i := 65) rfl)) rfl
set_option maxRecDepth 100000 in
theorem k_1088 : Cond.instanceMethod yX9_count ∈ Tw := tw_of (tb_5 (List.mem_of_getElem? (i := 66) rfl)) rfl
set_option maxRecDepth 100000 in
theorem k_1089 : Cond.selects "TwinTables" yX9_count yX9_count ∈ Tw := tw_of (tb_5 (List.mem_of_getElem? (i := 67) rfl)) rfl
set_option maxRecDepth 100000 in
theorem k_1090 : Cond.code yX9_count prog_1_method_47_code 2 (some FieldType.int) ∈ Tw := tw_of (tb_5 (List.mem_of_getElem? (i := 68) rfl)) rfl
set_option maxRecDepth 100000 in
theorem k_1091 : Cond.methodLink "TwinTables" 346 yX6_fitting ∈ Tw := tw_of (tb_5 (List.mem_of_getElem? (i := 69) rfl)) rfl
set_option maxRecDepth 100000 in
theorem k_1092 : Cond.instanceMethod yX6_fitting ∈ Tw := tw_of (tb_5 (List.mem_of_getElem? (i := 70) rfl)) rfl
set_option maxRecDepth 100000 in
theorem k_1093 : Cond.selects "TwinTables$State" yX6_fitting yX6_fitting ∈ Tw := tw_of (tb_5 (List.mem_of_getElem? (i := 71) rfl)) rfl
set_option maxRecDepth 100000 in
theorem k_1094 : Cond.code yX6_fitting prog_8_method_10_code 3 (some FieldType.int) ∈ Tw := tw_of (tb_5 (List.mem_of_getElem? (i := 72) rfl)) rfl
set_option maxRecDepth 100000 in
theorem k_1095 : Cond.methodLink "TwinTables" 349 yX0_unkind ∈ Tw := tw_of (tb_5 (List.mem_of_getElem? (i := 73) rfl)) rfl
set_option maxRecDepth 100000 in
theorem k_1096 : Cond.instanceMethod yX0_unkind ∈ Tw := tw_of (tb_5 (List.mem_of_getElem? (i := 74) rfl)) rfl
set_option maxRecDepth 100000 in
theorem k_1097 : Cond.selects "TwinTables$Figures" yX0_unkind yX0_unkind ∈ Tw := tw_of (tb_5 (List.mem_of_getElem? (i := 75) rfl)) rfl
set_option maxRecDepth 100000 in
theorem k_1098 : Cond.code yX0_unkind prog_2_method_10_code 3 (some FieldType.int) ∈ Tw := tw_of (tb_5 (List.mem_of_getElem? (i := 76) rfl)) rfl
set_option maxRecDepth 100000 in
theorem k_1099 : Cond.methodLinkNest "TwinTables$Figures" 45 yX9_isUnkind "TwinTables" ∈ lw_tbl := tb_5 (List.mem_of_getElem? (i := 77) rfl)
set_option maxRecDepth 100000 in
theorem k_1100 : Cond.classLink "TwinTablesLaw" 10 "TwinTablesModel" ∈ Tw := tw_of (tb_5 (List.mem_of_getElem? (i := 78) rfl)) rfl
set_option maxRecDepth 100000 in
theorem k_1101 : Cond.instantiable "TwinTablesModel" 39 ∈ Tw := tw_of (tb_5 (List.mem_of_getElem? (i := 79) rfl)) rfl
set_option maxRecDepth 100000 in
theorem k_1102 : Cond.methodLink "TwinTablesLaw" 12 yX10_init ∈ Tw := tw_of (tb_5 (List.mem_of_getElem? (i := 80) rfl)) rfl
set_option maxRecDepth 100000 in
theorem k_1103 : Cond.instanceMethod yX10_init ∈ Tw := tw_of (tb_5 (List.mem_of_getElem? (i := 81) rfl)) rfl
set_option maxRecDepth 100000 in
theorem k_1104 : Cond.code yX10_init prog_12_method_1_code 2 none ∈ Tw := tw_of (tb_5 (List.mem_of_getElem? (i := 82) rfl)) rfl
set_option maxRecDepth 100000 in
theorem k_1105 : Cond.methodLink "TwinTablesModel" 1 ⟨"java/lang/Object", "<init>", "()V"⟩ ∈ Tw := tw_of (tb_5 (List.mem_of_getElem? (i := 83) rfl)) rfl
set_option maxRecDepth 100000 in
theorem k_1106 : Cond.fieldLink "TwinTablesModel" 7 "TwinTablesModel" "s" "[I" ∈ Tw := tw_of (tb_5 (List.mem_of_getElem? (i := 84) rfl)) rfl
set_option maxRecDepth 100000 in
theorem k_1107 : Cond.fieldLink "TwinTablesModel" 13 "TwinTablesModel" "image" "[I" ∈ Tw := tw_of (tb_5 (List.mem_of_getElem? (i := 85) rfl)) rfl
set_option maxRecDepth 100000 in
theorem k_1108 : Cond.fieldLink "TwinTablesModel" 16 "TwinTablesModel" "aside" "[I" ∈ Tw := tw_of (tb_5 (List.mem_of_getElem? (i := 86) rfl)) rfl
set_option maxRecDepth 100000 in
theorem k_1109 : Cond.fieldLink "TwinTablesModel" 381 "TwinTablesModel" "hasImage" "Z" ∈ Tw := tw_of (tb_5 (List.mem_of_getElem? (i := 87) rfl)) rfl
set_option maxRecDepth 100000 in
theorem k_1110 : Cond.fieldLink "TwinTablesModel" 19 "TwinTablesModel" "tSort" "[I" ∈ Tw := tw_of (tb_5 (List.mem_of_getElem? (i := 88) rfl)) rfl
set_option maxRecDepth 100000 in
theorem k_1111 : Cond.fieldLink "TwinTablesModel" 22 "TwinTablesModel" "tSize" "[I" ∈ Tw := tw_of (tb_5 (List.mem_of_getElem? (i := 89) rfl)) rfl
set_option maxRecDepth 100000 in
theorem k_1112 : Cond.fieldLink "TwinTablesModel" 25 "TwinTablesModel" "tNumber" "[I" ∈ Tw := tw_of (tb_5 (List.mem_of_getElem? (i := 90) rfl)) rfl
set_option maxRecDepth 100000 in
theorem k_1113 : Cond.fieldLink "TwinTablesModel" 28 "TwinTablesModel" "held" "[I" ∈ Tw := tw_of (tb_5 (List.mem_of_getElem? (i := 91) rfl)) rfl
set_option maxRecDepth 100000 in
theorem k_1114 : Cond.fieldLink "TwinTablesModel" 31 "TwinTablesModel" "heldNumber" "[I" ∈ Tw := tw_of (tb_5 (List.mem_of_getElem? (i := 92) rfl)) rfl
set_option maxRecDepth 100000 in
theorem k_1115 : Cond.fieldLink "TwinTablesModel" 34 "TwinTablesModel" "heldPairs" "[I" ∈ Tw := tw_of (tb_5 (List.mem_of_getElem? (i := 93) rfl)) rfl
set_option maxRecDepth 100000 in
theorem k_1116 : Cond.fieldLink "TwinTablesModel" 37 "TwinTablesModel" "heldSize" "[I" ∈ Tw := tw_of (tb_5 (List.mem_of_getElem? (i := 94) rfl)) rfl
set_option maxRecDepth 100000 in
theorem k_1117 : Cond.fieldLink "TwinTablesModel" 40 "TwinTablesModel" "heldRow" "[I" ∈ Tw := tw_of (tb_5 (List.mem_of_getElem? (i := 95) rfl)) rfl
set_option maxRecDepth 100000 in
theorem k_1118 : Cond.fieldLink "TwinTablesModel" 43 "TwinTablesModel" "tape" "[I" ∈ Tw := tw_of (tb_5 (List.mem_of_getElem? (i := 96) rfl)) rfl
set_option maxRecDepth 100000 in
theorem k_1119 : Cond.fieldLink "TwinTablesModel" 158 "TwinTablesModel" "taped" "I" ∈ Tw := tw_of (tb_5 (List.mem_of_getElem? (i := 97) rfl)) rfl
set_option maxRecDepth 100000 in
theorem k_1120 : Cond.fieldLink "TwinTablesModel" 176 "TwinTablesModel" "begin" "I" ∈ Tw := tw_of (tb_5 (List.mem_of_getElem? (i := 98) rfl)) rfl
set_option maxRecDepth 100000 in
theorem k_1121 : Cond.fieldLink "TwinTablesModel" 170 "TwinTablesModel" "behind" "I" ∈ Tw := tw_of (tb_5 (List.mem_of_getElem? (i := 99) rfl)) rfl
set_option maxRecDepth 100000 in
theorem k_1122 : Cond.fieldLink "TwinTablesModel" 173 "TwinTablesModel" "token" "I" ∈ Tw := tw_of (tb_5 (List.mem_of_getElem? (i := 100) rfl)) rfl
set_option maxRecDepth 100000 in
theorem k_1123 : Cond.fieldLink "TwinTablesModel" 188 "TwinTablesModel" "number" "I" ∈ Tw := tw_of (tb_5 (List.mem_of_getElem? (i := 101) rfl)) rfl
set_option maxRecDepth 100000 in
theorem k_1124 : Cond.fieldLink "TwinTablesModel" 182 "TwinTablesModel" "letter" "I" ∈ Tw := tw_of (tb_5 (List.mem_of_getElem? (i := 102) rfl)) rfl
set_option maxRecDepth 100000 in
theorem k_1125 : Cond.fieldLink "TwinTablesModel" 243 "TwinTablesModel" "deep" "I" ∈ Tw := tw_of (tb_5 (List.mem_of_getElem? (i := 103) rfl)) rfl
set_option maxRecDepth 100000 in
theorem k_1126 : Cond.fieldLink "TwinTablesModel" 240 "TwinTablesModel" "turned" "I" ∈ Tw := tw_of (tb_5 (List.mem_of_getElem? (i := 104) rfl)) rfl
set_option maxRecDepth 100000 in
theorem k_1127 : Cond.fieldLink "TwinTablesModel" 209 "TwinTablesModel" "laid" "I" ∈ Tw := tw_of (tb_5 (List.mem_of_getElem? (i := 105) rfl)) rfl
set_option maxRecDepth 100000 in
theorem k_1128 : Cond.fieldLink "TwinTablesModel" 206 "TwinTablesModel" "laidAt" "I" ∈ Tw := tw_of (tb_5 (List.mem_of_getElem? (i := 106) rfl)) rfl
set_option maxRecDepth 100000 in
theorem k_1129 : Cond.fieldLink "TwinTablesModel" 234 "TwinTablesModel" "said" "I" ∈ Tw := tw_of (tb_5 (List.mem_of_getElem? (i := 107) rfl)) rfl
set_option maxRecDepth 100000 in
theorem k_1130 : Cond.fieldLink "TwinTablesModel" 46 "TwinTablesModel" "named" "[I" ∈ Tw := tw_of (tb_5 (List.mem_of_getElem? (i := 108) rfl)) rfl
set_option maxRecDepth 100000 in
theorem k_1131 : Cond.fieldLink "TwinTablesModel" 49 "TwinTablesModel" "pile" "[I" ∈ Tw := tw_of (tb_5 (List.mem_of_getElem? (i := 109) rfl)) rfl
set_option maxRecDepth 100000 in
theorem k_1132 : Cond.fieldLink "TwinTablesModel" 275 "TwinTablesModel" "runMany" "I" ∈ Tw := tw_of (tb_5 (List.mem_of_getElem? (i := 110) rfl)) rfl
set_option maxRecDepth 100000 in
theorem k_1133 : Cond.fieldLink "TwinTablesModel" 278 "TwinTablesModel" "runAt" "I" ∈ Tw := tw_of (tb_5 (List.mem_of_getElem? (i := 111) rfl)) rfl
set_option maxRecDepth 100000 in
theorem k_1134 : Cond.fieldLink "TwinTablesModel" 52 "TwinTablesModel" "costs" "[I" ∈ Tw := tw_of (tb_5 (List.mem_of_getElem? (i := 112) rfl)) rfl
set_option maxRecDepth 100000 in
theorem k_1135 : Cond.fieldLink "TwinTablesModel" 55 "TwinTablesModel" "kindsNow" "[I" ∈ Tw := tw_of (tb_5 (List.mem_of_getElem? (i := 113) rfl)) rfl
set_option maxRecDepth 100000 in
theorem k_1136 : Cond.fieldLink "TwinTablesModel" 58 "TwinTablesModel" "kindsBest" "[I" ∈ Tw := tw_of (tb_5 (List.mem_of_getElem? (i := 114) rfl)) rfl
set_option maxRecDepth 100000 in
theorem k_1137 : Cond.fieldLink "TwinTablesModel" 305 "TwinTablesModel" "bestPrice" "I" ∈ Tw := tw_of (tb_5 (List.mem_of_getElem? (i := 115) rfl)) rfl
set_option maxRecDepth 100000 in
theorem k_1138 : Cond.fieldLink "TwinTablesModel" 308 "TwinTablesModel" "bestUnkind" "I" ∈ Tw := tw_of (tb_5 (List.mem_of_getElem? (i := 116) rfl)) rfl
set_option maxRecDepth 100000 in
theorem k_1139 : Cond.fieldLink "TwinTablesModel" 302 "TwinTablesModel" "unkindMost" "I" ∈ Tw := tw_of (tb_5 (List.mem_of_getElem? (i := 117) rfl)) rfl
set_option maxRecDepth 100000 in
theorem k_1140 : Cond.fieldLink "TwinTablesModel" 61 "TwinTablesModel" "days" "[I" ∈ Tw := tw_of (tb_5 (List.mem_of_getElem? (i := 118) rfl)) rfl
set_option maxRecDepth 100000 in
theorem k_1141 : Cond.fieldLink "TwinTablesModel" 64 "TwinTablesModel" "carried" "[I" ∈ Tw := tw_of (tb_5 (List.mem_of_getElem? (i := 119) rfl)) rfl
set_option maxRecDepth 100000 in
theorem k_1142 : Cond.fieldLink "TwinTablesModel" 67 "TwinTablesModel" "waits" "[I" ∈ Tw := tw_of (tb_5 (List.mem_of_getElem? (i := 120) rfl)) rfl
set_option maxRecDepth 100000 in
theorem k_1143 : Cond.fieldLink "TwinTablesModel" 378 "TwinTablesModel" "waiting" "I" ∈ Tw := tw_of (tb_5 (List.mem_of_getElem? (i := 121) rfl)) rfl
set_option maxRecDepth 100000 in
theorem k_1144 : Cond.fieldLink "TwinTablesModel" 70 "TwinTablesModel" "row" "[I" ∈ Tw := tw_of (tb_5 (List.mem_of_getElem? (i := 122) rfl)) rfl
set_option maxRecDepth 100000 in
theorem k_1224 : Cond.methodLink "TwinTablesLaw" 17 yX10_table ∈ Tw := tw_of (tb_5 (List.mem_of_getElem? (i := 202) rfl)) rfl
set_option maxRecDepth 100000 in
theorem k_1225 : Cond.instanceMethod yX10_table ∈ Tw := tw_of (tb_5 (List.mem_of_getElem? (i := 203) rfl)) rfl
set_option maxRecDepth 100000 in
theorem k_1226 : Cond.selects "TwinTablesModel" yX10_table yX10_table ∈ Tw := tw_of (tb_5 (List.mem_of_getElem? (i := 204) rfl)) rfl
set_option maxRecDepth 100000 in
theorem k_1227 : Cond.code yX10_table prog_12_method_15_code 2 (some FieldType.int) ∈ Tw := tw_of (tb_5 (List.mem_of_getElem? (i := 205) rfl)) rfl
set_option maxRecDepth 100000 in
theorem k_1228 : Cond.constantLong "TwinTablesModel" 82 (59) ∈ Tw := tw_of (tb_5 (List.mem_of_getElem? (i := 206) rfl)) rfl
set_option maxRecDepth 100000 in
theorem k_1229 : Cond.methodLink "TwinTablesModel" 74 yX10_isIn ∈ Tw := tw_of (tb_5 (List.mem_of_getElem? (i := 207) rfl)) rfl
set_option maxRecDepth 100000 in
theorem k_1230 : Cond.static yX10_isIn ∈ Tw := tw_of (tb_5 (List.mem_of_getElem? (i := 208) rfl)) rfl
set_option maxRecDepth 100000 in
theorem k_1231 : Cond.code yX10_isIn prog_12_method_2_code 6 (some FieldType.boolean) ∈ Tw := tw_of (tb_5 (List.mem_of_getElem? (i := 209) rfl)) rfl
set_option maxRecDepth 100000 in
theorem k_1232 : Cond.constant "TwinTablesModel" 84 (-1000000001) ∈ Tw := tw_of (tb_5 (List.mem_of_getElem? (i := 210) rfl)) rfl
set_option maxRecDepth 100000 in
theorem k_1233 : Cond.constant "TwinTablesModel" 85 (-1000000002) ∈ Tw := tw_of (tb_5 (List.mem_of_getElem? (i := 211) rfl)) rfl
set_option maxRecDepth 100000 in
theorem k_1234 : Cond.constant "TwinTablesModel" 86 (-1000000003) ∈ Tw := tw_of (tb_5 (List.mem_of_getElem? (i := 212) rfl)) rfl
set_option maxRecDepth 100000 in
theorem k_1235 : Cond.methodLink "TwinTablesLaw" 22 yX10_figure ∈ Tw := tw_of (tb_5 (List.mem_of_getElem? (i := 213) rfl)) rfl
set_option maxRecDepth 100000 in
theorem k_1236 : Cond.instanceMethod yX10_figure ∈ Tw := tw_of (tb_5 (List.mem_of_getElem? (i := 214) rfl)) rfl
set_option maxRecDepth 100000 in
theorem k_1237 : Cond.selects "TwinTablesModel" yX10_figure yX10_figure ∈ Tw := tw_of (tb_5 (List.mem_of_getElem? (i := 215) rfl)) rfl
set_option maxRecDepth 100000 in
theorem k_1238 : Cond.code yX10_figure prog_12_method_17_code 6 (some FieldType.int) ∈ Tw := tw_of (tb_5 (List.mem_of_getElem? (i := 216) rfl)) rfl
set_option maxRecDepth 100000 in
theorem k_1239 : Cond.methodLink "TwinTablesModel" 91 yX10_isTable ∈ Tw := tw_of (tb_5 (List.mem_of_getElem? (i := 217) rfl)) rfl
set_option maxRecDepth 100000 in
theorem k_1241 : Cond.instanceMethod yX10_isTable ∈ Tw := tw_of (tb_5 (List.mem_of_getElem? (i := 219) rfl)) rfl
set_option maxRecDepth 100000 in
theorem k_1242 : Cond.code yX10_isTable prog_12_method_10_code 2 (some FieldType.boolean) ∈ Tw := tw_of (tb_5 (List.mem_of_getElem? (i := 220) rfl)) rfl
set_option maxRecDepth 100000 in
theorem k_1243 : Cond.constantLong "TwinTablesModel" 95 (7) ∈ Tw := tw_of (tb_5 (List.mem_of_getElem? (i := 221) rfl)) rfl
set_option maxRecDepth 100000 in
theorem k_1244 : Cond.constantLong "TwinTablesModel" 97 (9999) ∈ Tw := tw_of (tb_5 (List.mem_of_getElem? (i := 222) rfl)) rfl
set_option maxRecDepth 100000 in
theorem k_1245 : Cond.methodLink "TwinTablesModel" 99 yX10_isPairs ∈ Tw := tw_of (tb_5 (List.mem_of_getElem? (i := 223) rfl)) rfl
set_option maxRecDepth 100000 in
theorem k_1246 : Cond.static yX10_isPairs ∈ Tw := tw_of (tb_5 (List.mem_of_getElem? (i := 224) rfl)) rfl
set_option maxRecDepth 100000 in
theorem k_1247 : Cond.code yX10_isPairs prog_12_method_14_code 1 (some FieldType.boolean) ∈ Tw := tw_of (tb_5 (List.mem_of_getElem? (i := 225) rfl)) rfl
set_option maxRecDepth 100000 in
theorem k_1248 : Cond.constantLong "TwinTablesModel" 80 (999) ∈ Tw := tw_of (tb_5 (List.mem_of_getElem? (i := 226) rfl)) rfl
set_option maxRecDepth 100000 in
theorem k_1249 : Cond.methodLink "TwinTablesModel" 102 yX10_isFigure ∈ Tw := tw_of (tb_5 (List.mem_of_getElem? (i := 227) rfl)) rfl
set_option maxRecDepth 100000 in
theorem k_1251 : Cond.instanceMethod yX10_isFigure ∈ Tw := tw_of (tb_5 (List.mem_of_getElem? (i := 229) rfl)) rfl
set_option maxRecDepth 100000 in
theorem k_1252 : Cond.code yX10_isFigure prog_12_method_11_code 2 (some FieldType.boolean) ∈ Tw := tw_of (tb_5 (List.mem_of_getElem? (i := 230) rfl)) rfl
set_option maxRecDepth 100000 in
theorem k_1253 : Cond.methodLink "TwinTablesModel" 87 yX10_figureAt ∈ Tw := tw_of (tb_5 (List.mem_of_getElem? (i := 231) rfl)) rfl
set_option maxRecDepth 100000 in
theorem k_1255 : Cond.instanceMethod yX10_figureAt ∈ Tw := tw_of (tb_5 (List.mem_of_getElem? (i := 233) rfl)) rfl
set_option maxRecDepth 100000 in
theorem k_1256 : Cond.code yX10_figureAt prog_12_method_7_code 2 (some FieldType.int) ∈ Tw := tw_of (tb_5 (List.mem_of_getElem? (i := 234) rfl)) rfl
set_option maxRecDepth 100000 in
theorem k_1257 : Cond.methodLink "TwinTablesModel" 105 yX10_newFigure ∈ Tw := tw_of (tb_5 (List.mem_of_getElem? (i := 235) rfl)) rfl
set_option maxRecDepth 100000 in
theorem k_1259 : Cond.instanceMethod yX10_newFigure ∈ Tw := tw_of (tb_5 (List.mem_of_getElem? (i := 237) rfl)) rfl
set_option maxRecDepth 100000 in
theorem k_1260 : Cond.code yX10_newFigure prog_12_method_16_code 7 (some FieldType.int) ∈ Tw := tw_of (tb_5 (List.mem_of_getElem? (i := 238) rfl)) rfl
set_option maxRecDepth 100000 in
theorem k_1261 : Cond.methodLink "TwinTablesLaw" 27 yX10_told ∈ Tw := tw_of (tb_5 (List.mem_of_getElem? (i := 239) rfl)) rfl
set_option maxRecDepth 100000 in
theorem k_1262 : Cond.instanceMethod yX10_told ∈ Tw := tw_of (tb_6 (List.mem_of_getElem? (i := 0) rfl)) rfl
set_option maxRecDepth 100000 in
theorem k_1263 : Cond.selects "TwinTablesModel" yX10_told yX10_told ∈ Tw := tw_of (tb_6 (List.mem_of_getElem? (i := 1) rfl)) rfl
set_option maxRecDepth 100000 in
theorem k_1264 : Cond.code yX10_told prog_12_method_26_code 4 (some FieldType.int) ∈ Tw := tw_of (tb_6 (List.mem_of_getElem? (i := 2) rfl)) rfl
set_option maxRecDepth 100000 in
theorem k_1265 : Cond.methodLink "TwinTablesModel" 141 yX10_orNone ∈ Tw := tw_of (tb_6 (List.mem_of_getElem? (i := 3) rfl)) rfl
set_option maxRecDepth 100000 in
theorem k_1266 : Cond.static yX10_orNone ∈ Tw := tw_of (tb_6 (List.mem_of_getElem? (i := 4) rfl)) rfl
set_option maxRecDepth 100000 in
theorem k_1267 : Cond.code yX10_orNone prog_12_method_3_code 1 (some FieldType.int) ∈ Tw := tw_of (tb_6 (List.mem_of_getElem? (i := 5) rfl)) rfl
set_option maxRecDepth 100000 in
theorem k_1268 : Cond.constant "TwinTablesModel" 73 (-1000000005) ∈ Tw := tw_of (tb_6 (List.mem_of_getElem? (i := 6) rfl)) rfl
set_option maxRecDepth 100000 in
theorem k_1269 : Cond.methodLink "TwinTablesModel" 144 yX10_fits ∈ Tw := tw_of (tb_6 (List.mem_of_getElem? (i := 7) rfl)) rfl
set_option maxRecDepth 100000 in
theorem k_1271 : Cond.instanceMethod yX10_fits ∈ Tw := tw_of (tb_6 (List.mem_of_getElem? (i := 9) rfl)) rfl
set_option maxRecDepth 100000 in
theorem k_1272 : Cond.code yX10_fits prog_12_method_24_code 7 (some FieldType.boolean) ∈ Tw := tw_of (tb_6 (List.mem_of_getElem? (i := 10) rfl)) rfl
set_option maxRecDepth 100000 in
theorem k_1273 : Cond.methodLink "TwinTablesModel" 112 yX10_counts ∈ Tw := tw_of (tb_6 (List.mem_of_getElem? (i := 11) rfl)) rfl
set_option maxRecDepth 100000 in
theorem k_1275 : Cond.instanceMethod yX10_counts ∈ Tw := tw_of (tb_6 (List.mem_of_getElem? (i := 13) rfl)) rfl
set_option maxRecDepth 100000 in
theorem k_1276 : Cond.code yX10_counts prog_12_method_19_code 4 (some FieldType.int) ∈ Tw := tw_of (tb_6 (List.mem_of_getElem? (i := 14) rfl)) rfl
set_option maxRecDepth 100000 in
theorem k_1277 : Cond.methodLink "TwinTablesModel" 109 yX10_textAt ∈ Tw := tw_of (tb_6 (List.mem_of_getElem? (i := 15) rfl)) rfl
set_option maxRecDepth 100000 in
theorem k_1279 : Cond.instanceMethod yX10_textAt ∈ Tw := tw_of (tb_6 (List.mem_of_getElem? (i := 17) rfl)) rfl
set_option maxRecDepth 100000 in
theorem k_1280 : Cond.code yX10_textAt prog_12_method_9_code 2 (some FieldType.int) ∈ Tw := tw_of (tb_6 (List.mem_of_getElem? (i := 18) rfl)) rfl
set_option maxRecDepth 100000 in
theorem k_1281 : Cond.methodLink "TwinTablesModel" 128 yX10_spreadOf ∈ Tw := tw_of (tb_6 (List.mem_of_getElem? (i := 19) rfl)) rfl
set_option maxRecDepth 100000 in
theorem k_1283 : Cond.instanceMethod yX10_spreadOf ∈ Tw := tw_of (tb_6 (List.mem_of_getElem? (i := 21) rfl)) rfl
set_option maxRecDepth 100000 in
theorem k_1284 : Cond.code yX10_spreadOf prog_12_method_22_code 2 (some FieldType.int) ∈ Tw := tw_of (tb_6 (List.mem_of_getElem? (i := 22) rfl)) rfl
set_option maxRecDepth 100000 in
theorem k_1285 : Cond.methodLink "TwinTablesModel" 122 yX10_yearOf ∈ Tw := tw_of (tb_6 (List.mem_of_getElem? (i := 23) rfl)) rfl
set_option maxRecDepth 100000 in
theorem k_1287 : Cond.instanceMethod yX10_yearOf ∈ Tw := tw_of (tb_6 (List.mem_of_getElem? (i := 25) rfl)) rfl
set_option maxRecDepth 100000 in
theorem k_1288 : Cond.code yX10_yearOf prog_12_method_18_code 2 (some FieldType.int) ∈ Tw := tw_of (tb_6 (List.mem_of_getElem? (i := 26) rfl)) rfl
set_option maxRecDepth 100000 in
theorem k_1289 : Cond.methodLink "TwinTablesModel" 125 yX10_spreadFor ∈ Tw := tw_of (tb_6 (List.mem_of_getElem? (i := 27) rfl)) rfl
set_option maxRecDepth 100000 in
theorem k_1291 : Cond.instanceMethod yX10_spreadFor ∈ Tw := tw_of (tb_6 (List.mem_of_getElem? (i := 29) rfl)) rfl
set_option maxRecDepth 100000 in
theorem k_1292 : Cond.code yX10_spreadFor prog_12_method_21_code 4 (some FieldType.int) ∈ Tw := tw_of (tb_6 (List.mem_of_getElem? (i := 30) rfl)) rfl
set_option maxRecDepth 100000 in
theorem k_1293 : Cond.methodLink "TwinTablesModel" 115 yX10_worked ∈ Tw := tw_of (tb_6 (List.mem_of_getElem? (i := 31) rfl)) rfl
set_option maxRecDepth 100000 in
theorem k_1295 : Cond.instanceMethod yX10_worked ∈ Tw := tw_of (tb_6 (List.mem_of_getElem? (i := 33) rfl)) rfl
set_option maxRecDepth 100000 in
theorem k_1296 : Cond.code yX10_worked prog_12_method_54_code 6 (some FieldType.int) ∈ Tw := tw_of (tb_6 (List.mem_of_getElem? (i := 34) rfl)) rfl
set_option maxRecDepth 100000 in
theorem k_1297 : Cond.methodLink "TwinTablesModel" 263 yX10_joined ∈ Tw := tw_of (tb_6 (List.mem_of_getElem? (i := 35) rfl)) rfl
set_option maxRecDepth 100000 in
theorem k_1298 : Cond.static yX10_joined ∈ Tw := tw_of (tb_6 (List.mem_of_getElem? (i := 36) rfl)) rfl
set_option maxRecDepth 100000 in
theorem k_1299 : Cond.code yX10_joined prog_12_method_53_code 3 (some FieldType.int) ∈ Tw := tw_of (tb_6 (List.mem_of_getElem? (i := 37) rfl)) rfl
set_option maxRecDepth 100000 in
theorem k_1300 : Cond.methodLink "TwinTablesModel" 118 yX10_heldIn ∈ Tw := tw_of (tb_6 (List.mem_of_getElem? (i := 38) rfl)) rfl
set_option maxRecDepth 100000 in
theorem k_1301 : Cond.static yX10_heldIn ∈ Tw := tw_of (tb_6 (List.mem_of_getElem? (i := 39) rfl)) rfl
set_option maxRecDepth 100000 in
theorem k_1302 : Cond.code yX10_heldIn prog_12_method_5_code 2 (some FieldType.int) ∈ Tw := tw_of (tb_6 (List.mem_of_getElem? (i := 40) rfl)) rfl
set_option maxRecDepth 100000 in
theorem k_1303 : Cond.methodLink "TwinTablesModel" 131 yX10_workedOf ∈ Tw := tw_of (tb_6 (List.mem_of_getElem? (i := 41) rfl)) rfl
set_option maxRecDepth 100000 in
theorem k_1305 : Cond.instanceMethod yX10_workedOf ∈ Tw := tw_of (tb_6 (List.mem_of_getElem? (i := 43) rfl)) rfl
set_option maxRecDepth 100000 in
theorem k_1306 : Cond.code yX10_workedOf prog_12_method_20_code 5 (some FieldType.int) ∈ Tw := tw_of (tb_6 (List.mem_of_getElem? (i := 44) rfl)) rfl
set_option maxRecDepth 100000 in
theorem k_1307 : Cond.constantLong "TwinTablesModel" 134 (-50) ∈ Tw := tw_of (tb_6 (List.mem_of_getElem? (i := 45) rfl)) rfl
set_option maxRecDepth 100000 in
theorem k_1308 : Cond.constantLong "TwinTablesModel" 136 (50) ∈ Tw := tw_of (tb_6 (List.mem_of_getElem? (i := 46) rfl)) rfl
set_option maxRecDepth 100000 in
theorem k_1309 : Cond.methodLink "TwinTablesModel" 138 yX10_unlike ∈ Tw := tw_of (tb_6 (List.mem_of_getElem? (i := 47) rfl)) rfl
set_option maxRecDepth 100000 in
theorem k_1310 : Cond.static yX10_unlike ∈ Tw := tw_of (tb_6 (List.mem_of_getElem? (i := 48) rfl)) rfl
set_option maxRecDepth 100000 in
theorem k_1311 : Cond.code yX10_unlike prog_12_method_23_code 6 (some FieldType.int) ∈ Tw := tw_of (tb_6 (List.mem_of_getElem? (i := 49) rfl)) rfl
set_option maxRecDepth 100000 in
theorem k_1312 : Cond.methodLink "TwinTablesModel" 148 yX10_priceOf ∈ Tw := tw_of (tb_6 (List.mem_of_getElem? (i := 50) rfl)) rfl
set_option maxRecDepth 100000 in
theorem k_1313 : Cond.static yX10_priceOf ∈ Tw := tw_of (tb_6 (List.mem_of_getElem? (i := 51) rfl)) rfl
set_option maxRecDepth 100000 in
theorem k_1314 : Cond.code yX10_priceOf prog_12_method_25_code 2 (some FieldType.int) ∈ Tw := tw_of (tb_6 (List.mem_of_getElem? (i := 52) rfl)) rfl
set_option maxRecDepth 100000 in
theorem k_1315 : Cond.methodLink "TwinTablesLaw" 31 yX10_as ∈ Tw := tw_of (tb_6 (List.mem_of_getElem? (i := 53) rfl)) rfl
set_option maxRecDepth 100000 in
theorem k_1316 : Cond.instanceMethod yX10_as ∈ Tw := tw_of (tb_6 (List.mem_of_getElem? (i := 54) rfl)) rfl
set_option maxRecDepth 100000 in
theorem k_1317 : Cond.selects "TwinTablesModel" yX10_as yX10_as ∈ Tw := tw_of (tb_6 (List.mem_of_getElem? (i := 55) rfl)) rfl
set_option maxRecDepth 100000 in
theorem k_1318 : Cond.code yX10_as prog_12_method_28_code 3 (some FieldType.int) ∈ Tw := tw_of (tb_6 (List.mem_of_getElem? (i := 56) rfl)) rfl
set_option maxRecDepth 100000 in
theorem k_1319 : Cond.methodLink "TwinTablesModel" 151 yX10_isOf ∈ Tw := tw_of (tb_6 (List.mem_of_getElem? (i := 57) rfl)) rfl
set_option maxRecDepth 100000 in
theorem k_1320 : Cond.static yX10_isOf ∈ Tw := tw_of (tb_6 (List.mem_of_getElem? (i := 58) rfl)) rfl
set_option maxRecDepth 100000 in
theorem k_1321 : Cond.code yX10_isOf prog_12_method_27_code 2 (some FieldType.boolean) ∈ Tw := tw_of (tb_6 (List.mem_of_getElem? (i := 59) rfl)) rfl
set_option maxRecDepth 100000 in
theorem k_1322 : Cond.constant "TwinTablesModel" 154 (-1000000012) ∈ Tw := tw_of (tb_6 (List.mem_of_getElem? (i := 60) rfl)) rfl
set_option maxRecDepth 100000 in
theorem k_1323 : Cond.methodLink "TwinTablesLaw" 35 yX10_turns ∈ Tw := tw_of (tb_6 (List.mem_of_getElem? (i := 61) rfl)) rfl
set_option maxRecDepth 100000 in
theorem k_1324 : Cond.instanceMethod yX10_turns ∈ Tw := tw_of (tb_6 (List.mem_of_getElem? (i := 62) rfl)) rfl
set_option maxRecDepth 100000 in
theorem k_1325 : Cond.selects "TwinTablesModel" yX10_turns yX10_turns ∈ Tw := tw_of (tb_6 (List.mem_of_getElem? (i := 63) rfl)) rfl
set_option maxRecDepth 100000 in
theorem k_1326 : Cond.code yX10_turns prog_12_method_29_code 3 (some FieldType.int) ∈ Tw := tw_of (tb_6 (List.mem_of_getElem? (i := 64) rfl)) rfl
set_option maxRecDepth 100000 in
theorem k_1327 : Cond.methodLink "TwinTablesModel" 155 yX10_becomes ∈ Tw := tw_of (tb_6 (List.mem_of_getElem? (i := 65) rfl)) rfl
set_option maxRecDepth 100000 in
theorem k_1329 : Cond.instanceMethod yX10_becomes ∈ Tw := tw_of (tb_6 (List.mem_of_getElem? (i := 67) rfl)) rfl
set_option maxRecDepth 100000 in
theorem k_1330 : Cond.code yX10_becomes prog_12_method_6_code 4 (some FieldType.int) ∈ Tw := tw_of (tb_6 (List.mem_of_getElem? (i := 68) rfl)) rfl
set_option maxRecDepth 100000 in
theorem k_1331 : Cond.methodLink "TwinTablesLaw" 39 yX10_base ∈ Tw := tw_of (tb_6 (List.mem_of_getElem? (i := 69) rfl)) rfl
set_option maxRecDepth 100000 in
theorem k_1332 : Cond.instanceMethod yX10_base ∈ Tw := tw_of (tb_6 (List.mem_of_getElem? (i := 70) rfl)) rfl
set_option maxRecDepth 100000 in
theorem k_1333 : Cond.selects "TwinTablesModel" yX10_base yX10_base ∈ Tw := tw_of (tb_6 (List.mem_of_getElem? (i := 71) rfl)) rfl
set_option maxRecDepth 100000 in
theorem k_1334 : Cond.code yX10_base prog_12_method_30_code 2 (some FieldType.int) ∈ Tw := tw_of (tb_6 (List.mem_of_getElem? (i := 72) rfl)) rfl
set_option maxRecDepth 100000 in
theorem k_1335 : Cond.methodLink "TwinTablesLaw" 44 yX10_feed ∈ Tw := tw_of (tb_6 (List.mem_of_getElem? (i := 73) rfl)) rfl
set_option maxRecDepth 100000 in
theorem k_1336 : Cond.instanceMethod yX10_feed ∈ Tw := tw_of (tb_6 (List.mem_of_getElem? (i := 74) rfl)) rfl
set_option maxRecDepth 100000 in
theorem k_1337 : Cond.selects "TwinTablesModel" yX10_feed yX10_feed ∈ Tw := tw_of (tb_6 (List.mem_of_getElem? (i := 75) rfl)) rfl
set_option maxRecDepth 100000 in
theorem k_1338 : Cond.code yX10_feed prog_12_method_31_code 6 (some FieldType.int) ∈ Tw := tw_of (tb_6 (List.mem_of_getElem? (i := 76) rfl)) rfl
set_option maxRecDepth 100000 in
theorem k_1339 : Cond.methodLink "TwinTablesLaw" 48 yX10_trim ∈ Tw := tw_of (tb_6 (List.mem_of_getElem? (i := 77) rfl)) rfl
set_option maxRecDepth 100000 in
theorem k_1340 : Cond.instanceMethod yX10_trim ∈ Tw := tw_of (tb_6 (List.mem_of_getElem? (i := 78) rfl)) rfl
set_option maxRecDepth 100000 in
theorem k_1341 : Cond.selects "TwinTablesModel" yX10_trim yX10_trim ∈ Tw := tw_of (tb_6 (List.mem_of_getElem? (i := 79) rfl)) rfl
set_option maxRecDepth 100000 in
theorem k_1342 : Cond.code yX10_trim prog_12_method_32_code 2 (some FieldType.int) ∈ Tw := tw_of (tb_6 (List.mem_of_getElem? (i := 80) rfl)) rfl
set_option maxRecDepth 100000 in
theorem k_1343 : Cond.methodLink "TwinTablesLaw" 53 yX10_text ∈ Tw := tw_of (tb_6 (List.mem_of_getElem? (i := 81) rfl)) rfl
set_option maxRecDepth 100000 in
theorem k_1344 : Cond.instanceMethod yX10_text ∈ Tw := tw_of (tb_6 (List.mem_of_getElem? (i := 82) rfl)) rfl
set_option maxRecDepth 100000 in
theorem k_1345 : Cond.selects "TwinTablesModel" yX10_text yX10_text ∈ Tw := tw_of (tb_6 (List.mem_of_getElem? (i := 83) rfl)) rfl
set_option maxRecDepth 100000 in
theorem k_1346 : Cond.code yX10_text prog_12_method_50_code 3 (some FieldType.int) ∈ Tw := tw_of (tb_6 (List.mem_of_getElem? (i := 84) rfl)) rfl
set_option maxRecDepth 100000 in
theorem k_1347 : Cond.methodLink "TwinTablesModel" 253 yX10_parse ∈ Tw := tw_of (tb_6 (List.mem_of_getElem? (i := 85) rfl)) rfl
set_option maxRecDepth 100000 in
theorem k_1349 : Cond.instanceMethod yX10_parse ∈ Tw := tw_of (tb_6 (List.mem_of_getElem? (i := 87) rfl)) rfl
set_option maxRecDepth 100000 in
theorem k_1350 : Cond.code yX10_parse prog_12_method_49_code 3 (some FieldType.int) ∈ Tw := tw_of (tb_6 (List.mem_of_getElem? (i := 88) rfl)) rfl
set_option maxRecDepth 100000 in
theorem k_1351 : Cond.methodLink "TwinTablesModel" 203 yX10_goesOn ∈ Tw := tw_of (tb_6 (List.mem_of_getElem? (i := 89) rfl)) rfl
set_option maxRecDepth 100000 in
theorem k_1353 : Cond.instanceMethod yX10_goesOn ∈ Tw := tw_of (tb_6 (List.mem_of_getElem? (i := 91) rfl)) rfl
set_option maxRecDepth 100000 in
theorem k_1354 : Cond.code yX10_goesOn prog_12_method_35_code 3 none ∈ Tw := tw_of (tb_6 (List.mem_of_getElem? (i := 92) rfl)) rfl
set_option maxRecDepth 100000 in
theorem k_1355 : Cond.methodLink "TwinTablesModel" 179 yX10_isLetter ∈ Tw := tw_of (tb_6 (List.mem_of_getElem? (i := 93) rfl)) rfl
set_option maxRecDepth 100000 in
theorem k_1357 : Cond.instanceMethod yX10_isLetter ∈ Tw := tw_of (tb_6 (List.mem_of_getElem? (i := 95) rfl)) rfl
set_option maxRecDepth 100000 in
theorem k_1358 : Cond.code yX10_isLetter prog_12_method_33_code 2 (some FieldType.boolean) ∈ Tw := tw_of (tb_6 (List.mem_of_getElem? (i := 96) rfl)) rfl
set_option maxRecDepth 100000 in
theorem k_1359 : Cond.constantLong "TwinTablesModel" 162 (97) ∈ Tw := tw_of (tb_6 (List.mem_of_getElem? (i := 97) rfl)) rfl
set_option maxRecDepth 100000 in
theorem k_1360 : Cond.constantLong "TwinTablesModel" 164 (122) ∈ Tw := tw_of (tb_6 (List.mem_of_getElem? (i := 98) rfl)) rfl
set_option maxRecDepth 100000 in
theorem k_1361 : Cond.methodLink "TwinTablesModel" 185 yX10_isDigit ∈ Tw := tw_of (tb_6 (List.mem_of_getElem? (i := 99) rfl)) rfl
set_option maxRecDepth 100000 in
theorem k_1363 : Cond.instanceMethod yX10_isDigit ∈ Tw := tw_of (tb_6 (List.mem_of_getElem? (i := 101) rfl)) rfl
set_option maxRecDepth 100000 in
theorem k_1364 : Cond.code yX10_isDigit prog_12_method_34_code 2 (some FieldType.boolean) ∈ Tw := tw_of (tb_6 (List.mem_of_getElem? (i := 102) rfl)) rfl
set_option maxRecDepth 100000 in
theorem k_1365 : Cond.constantLong "TwinTablesModel" 166 (48) ∈ Tw := tw_of (tb_6 (List.mem_of_getElem? (i := 103) rfl)) rfl
set_option maxRecDepth 100000 in
theorem k_1366 : Cond.constantLong "TwinTablesModel" 168 (57) ∈ Tw := tw_of (tb_6 (List.mem_of_getElem? (i := 104) rfl)) rfl
set_option maxRecDepth 100000 in
theorem k_1367 : Cond.methodLink "TwinTablesModel" 249 yX10_key ∈ Tw := tw_of (tb_6 (List.mem_of_getElem? (i := 105) rfl)) rfl
set_option maxRecDepth 100000 in
theorem k_1369 : Cond.instanceMethod yX10_key ∈ Tw := tw_of (tb_6 (List.mem_of_getElem? (i := 107) rfl)) rfl
set_option maxRecDepth 100000 in
theorem k_1370 : Cond.code yX10_key prog_12_method_40_code 1 (some FieldType.int) ∈ Tw := tw_of (tb_6 (List.mem_of_getElem? (i := 108) rfl)) rfl
set_option maxRecDepth 100000 in
theorem k_1371 : Cond.methodLink "TwinTablesModel" 191 yX10_isLong ∈ Tw := tw_of (tb_6 (List.mem_of_getElem? (i := 109) rfl)) rfl
set_option maxRecDepth 100000 in
theorem k_1373 : Cond.instanceMethod yX10_isLong ∈ Tw := tw_of (tb_6 (List.mem_of_getElem? (i := 111) rfl)) rfl
set_option maxRecDepth 100000 in
theorem k_1374 : Cond.code yX10_isLong prog_12_method_38_code 8 (some FieldType.boolean) ∈ Tw := tw_of (tb_6 (List.mem_of_getElem? (i := 112) rfl)) rfl
set_option maxRecDepth 100000 in
theorem k_1375 : Cond.methodLink "TwinTablesModel" 195 yX10_isWordAt ∈ Tw := tw_of (tb_6 (List.mem_of_getElem? (i := 113) rfl)) rfl
set_option maxRecDepth 100000 in
theorem k_1377 : Cond.instanceMethod yX10_isWordAt ∈ Tw := tw_of (tb_6 (List.mem_of_getElem? (i := 115) rfl)) rfl
set_option maxRecDepth 100000 in
theorem k_1378 : Cond.code yX10_isWordAt prog_12_method_37_code 6 (some FieldType.boolean) ∈ Tw := tw_of (tb_6 (List.mem_of_getElem? (i := 116) rfl)) rfl
set_option maxRecDepth 100000 in
theorem k_1379 : Cond.methodLink "TwinTablesModel" 199 yX10_isWorking ∈ Tw := tw_of (tb_6 (List.mem_of_getElem? (i := 117) rfl)) rfl
set_option maxRecDepth 100000 in
theorem k_1381 : Cond.instanceMethod yX10_isWorking ∈ Tw := tw_of (tb_6 (List.mem_of_getElem? (i := 119) rfl)) rfl
set_option maxRecDepth 100000 in
theorem k_1382 : Cond.code yX10_isWorking prog_12_method_39_code 2 (some FieldType.boolean) ∈ Tw := tw_of (tb_6 (List.mem_of_getElem? (i := 120) rfl)) rfl
set_option maxRecDepth 100000 in
theorem k_1383 : Cond.methodLink "TwinTablesModel" 246 yX10_either ∈ Tw := tw_of (tb_6 (List.mem_of_getElem? (i := 121) rfl)) rfl
set_option maxRecDepth 100000 in
theorem k_1385 : Cond.instanceMethod yX10_either ∈ Tw := tw_of (tb_6 (List.mem_of_getElem? (i := 123) rfl)) rfl
set_option maxRecDepth 100000 in
theorem k_1386 : Cond.code yX10_either prog_12_method_43_code 2 (some FieldType.boolean) ∈ Tw := tw_of (tb_6 (List.mem_of_getElem? (i := 124) rfl)) rfl
set_option maxRecDepth 100000 in
theorem k_1387 : Cond.methodLink "TwinTablesModel" 212 yX10_both ∈ Tw := tw_of (tb_6 (List.mem_of_getElem? (i := 125) rfl)) rfl
set_option maxRecDepth 100000 in
theorem k_1389 : Cond.instanceMethod yX10_both ∈ Tw := tw_of (tb_6 (List.mem_of_getElem? (i := 127) rfl)) rfl
set_option maxRecDepth 100000 in
theorem k_1390 : Cond.code yX10_both prog_12_method_44_code 2 (some FieldType.boolean) ∈ Tw := tw_of (tb_6 (List.mem_of_getElem? (i := 128) rfl)) rfl
set_option maxRecDepth 100000 in
theorem k_1391 : Cond.methodLink "TwinTablesModel" 222 yX10_test ∈ Tw := tw_of (tb_6 (List.mem_of_getElem? (i := 129) rfl)) rfl
set_option maxRecDepth 100000 in
theorem k_1393 : Cond.instanceMethod yX10_test ∈ Tw := tw_of (tb_6 (List.mem_of_getElem? (i := 131) rfl)) rfl
set_option maxRecDepth 100000 in
theorem k_1394 : Cond.code yX10_test prog_12_method_45_code 3 (some FieldType.boolean) ∈ Tw := tw_of (tb_6 (List.mem_of_getElem? (i := 132) rfl)) rfl
set_option maxRecDepth 100000 in
theorem k_1395 : Cond.methodLink "TwinTablesModel" 225 yX10_sum ∈ Tw := tw_of (tb_6 (List.mem_of_getElem? (i := 133) rfl)) rfl
set_option maxRecDepth 100000 in
theorem k_1397 : Cond.instanceMethod yX10_sum ∈ Tw := tw_of (tb_6 (List.mem_of_getElem? (i := 135) rfl)) rfl
set_option maxRecDepth 100000 in
theorem k_1398 : Cond.code yX10_sum prog_12_method_46_code 3 (some FieldType.boolean) ∈ Tw := tw_of (tb_6 (List.mem_of_getElem? (i := 136) rfl)) rfl
set_option maxRecDepth 100000 in
theorem k_1399 : Cond.methodLink "TwinTablesModel" 228 yX10_term ∈ Tw := tw_of (tb_6 (List.mem_of_getElem? (i := 137) rfl)) rfl
set_option maxRecDepth 100000 in
theorem k_1401 : Cond.instanceMethod yX10_term ∈ Tw := tw_of (tb_6 (List.mem_of_getElem? (i := 139) rfl)) rfl
set_option maxRecDepth 100000 in
theorem k_1402 : Cond.code yX10_term prog_12_method_47_code 3 (some FieldType.boolean) ∈ Tw := tw_of (tb_6 (List.mem_of_getElem? (i := 140) rfl)) rfl
set_option maxRecDepth 100000 in
theorem k_1403 : Cond.methodLink "TwinTablesModel" 231 yX10_part0 ∈ Tw := tw_of (tb_6 (List.mem_of_getElem? (i := 141) rfl)) rfl
set_option maxRecDepth 100000 in
theorem k_1405 : Cond.instanceMethod yX10_part0 ∈ Tw := tw_of (tb_6 (List.mem_of_getElem? (i := 143) rfl)) rfl
set_option maxRecDepth 100000 in
theorem k_1406 : Cond.code yX10_part0 prog_12_method_48_code 2 (some FieldType.boolean) ∈ Tw := tw_of (tb_6 (List.mem_of_getElem? (i := 144) rfl)) rfl
set_option maxRecDepth 100000 in
theorem k_1407 : Cond.methodLink "TwinTablesModel" 218 yX10_step ∈ Tw := tw_of (tb_6 (List.mem_of_getElem? (i := 145) rfl)) rfl
set_option maxRecDepth 100000 in
theorem k_1409 : Cond.instanceMethod yX10_step ∈ Tw := tw_of (tb_6 (List.mem_of_getElem? (i := 147) rfl)) rfl
set_option maxRecDepth 100000 in
theorem k_1410 : Cond.code yX10_step prog_12_method_42_code 3 none ∈ Tw := tw_of (tb_6 (List.mem_of_getElem? (i := 148) rfl)) rfl
set_option maxRecDepth 100000 in
theorem k_1411 : Cond.methodLink "TwinTablesModel" 237 yX10_isName ∈ Tw := tw_of (tb_6 (List.mem_of_getElem? (i := 149) rfl)) rfl
set_option maxRecDepth 100000 in
theorem k_1412 : Cond.static yX10_isName ∈ Tw := tw_of (tb_6 (List.mem_of_getElem? (i := 150) rfl)) rfl
set_option maxRecDepth 100000 in
theorem k_1413 : Cond.code yX10_isName prog_12_method_41_code 2 (some FieldType.boolean) ∈ Tw := tw_of (tb_6 (List.mem_of_getElem? (i := 151) rfl)) rfl
set_option maxRecDepth 100000 in
theorem k_1414 : Cond.methodLink "TwinTablesModel" 215 yX10_isSign ∈ Tw := tw_of (tb_6 (List.mem_of_getElem? (i := 152) rfl)) rfl
set_option maxRecDepth 100000 in
theorem k_1416 : Cond.instanceMethod yX10_isSign ∈ Tw := tw_of (tb_6 (List.mem_of_getElem? (i := 154) rfl)) rfl
set_option maxRecDepth 100000 in
theorem k_1417 : Cond.code yX10_isSign prog_12_method_36_code 2 (some FieldType.boolean) ∈ Tw := tw_of (tb_6 (List.mem_of_getElem? (i := 155) rfl)) rfl
set_option maxRecDepth 100000 in
theorem k_1418 : Cond.methodLink "TwinTablesLaw" 57 yX10_of ∈ Tw := tw_of (tb_6 (List.mem_of_getElem? (i := 156) rfl)) rfl
set_option maxRecDepth 100000 in
theorem k_1419 : Cond.instanceMethod yX10_of ∈ Tw := tw_of (tb_6 (List.mem_of_getElem? (i := 157) rfl)) rfl
set_option maxRecDepth 100000 in
theorem k_1420 : Cond.selects "TwinTablesModel" yX10_of yX10_of ∈ Tw := tw_of (tb_6 (List.mem_of_getElem? (i := 158) rfl)) rfl
set_option maxRecDepth 100000 in
theorem k_1421 : Cond.code yX10_of prog_12_method_51_code 4 (some FieldType.int) ∈ Tw := tw_of (tb_6 (List.mem_of_getElem? (i := 159) rfl)) rfl
set_option maxRecDepth 100000 in
theorem k_1422 : Cond.methodLink "TwinTablesModel" 256 yX10_isText ∈ Tw := tw_of (tb_6 (List.mem_of_getElem? (i := 160) rfl)) rfl
set_option maxRecDepth 100000 in
theorem k_1424 : Cond.instanceMethod yX10_isText ∈ Tw := tw_of (tb_6 (List.mem_of_getElem? (i := 162) rfl)) rfl
set_option maxRecDepth 100000 in
theorem k_1425 : Cond.code yX10_isText prog_12_method_12_code 2 (some FieldType.boolean) ∈ Tw := tw_of (tb_6 (List.mem_of_getElem? (i := 163) rfl)) rfl
set_option maxRecDepth 100000 in
theorem k_1426 : Cond.constantLong "TwinTablesModel" 259 (2) ∈ Tw := tw_of (tb_6 (List.mem_of_getElem? (i := 164) rfl)) rfl
set_option maxRecDepth 100000 in
theorem k_1427 : Cond.methodLink "TwinTablesLaw" 61 yX10_why ∈ Tw := tw_of (tb_6 (List.mem_of_getElem? (i := 165) rfl)) rfl
set_option maxRecDepth 100000 in
theorem k_1428 : Cond.instanceMethod yX10_why ∈ Tw := tw_of (tb_6 (List.mem_of_getElem? (i := 166) rfl)) rfl
set_option maxRecDepth 100000 in
theorem k_1429 : Cond.selects "TwinTablesModel" yX10_why yX10_why ∈ Tw := tw_of (tb_6 (List.mem_of_getElem? (i := 167) rfl)) rfl
set_option maxRecDepth 100000 in
theorem k_1430 : Cond.code yX10_why prog_12_method_52_code 3 (some FieldType.int) ∈ Tw := tw_of (tb_6 (List.mem_of_getElem? (i := 168) rfl)) rfl
set_option maxRecDepth 100000 in
theorem k_1431 : Cond.constantLong "TwinTablesModel" 261 (11) ∈ Tw := tw_of (tb_6 (List.mem_of_getElem? (i := 169) rfl)) rfl
set_option maxRecDepth 100000 in
theorem k_1432 : Cond.methodLink "TwinTablesLaw" 65 yX10_line ∈ Tw := tw_of (tb_6 (List.mem_of_getElem? (i := 170) rfl)) rfl
set_option maxRecDepth 100000 in
theorem k_1433 : Cond.instanceMethod yX10_line ∈ Tw := tw_of (tb_6 (List.mem_of_getElem? (i := 171) rfl)) rfl
set_option maxRecDepth 100000 in
theorem k_1434 : Cond.selects "TwinTablesModel" yX10_line yX10_line ∈ Tw := tw_of (tb_6 (List.mem_of_getElem? (i := 172) rfl)) rfl
set_option maxRecDepth 100000 in
theorem k_1435 : Cond.code yX10_line prog_12_method_55_code 5 (some FieldType.int) ∈ Tw := tw_of (tb_6 (List.mem_of_getElem? (i := 173) rfl)) rfl
set_option maxRecDepth 100000 in
theorem k_1436 : Cond.constantLong "TwinTablesModel" 267 (5) ∈ Tw := tw_of (tb_6 (List.mem_of_getElem? (i := 174) rfl)) rfl
set_option maxRecDepth 100000 in
theorem k_1437 : Cond.methodLink "TwinTablesModel" 269 yX10_lineAt ∈ Tw := tw_of (tb_6 (List.mem_of_getElem? (i := 175) rfl)) rfl
set_option maxRecDepth 100000 in
theorem k_1439 : Cond.instanceMethod yX10_lineAt ∈ Tw := tw_of (tb_6 (List.mem_of_getElem? (i := 177) rfl)) rfl
set_option maxRecDepth 100000 in
theorem k_1440 : Cond.code yX10_lineAt prog_12_method_8_code 2 (some FieldType.int) ∈ Tw := tw_of (tb_6 (List.mem_of_getElem? (i := 178) rfl)) rfl
set_option maxRecDepth 100000 in
theorem k_1441 : Cond.methodLink "TwinTablesLaw" 69 yX10_run ∈ Tw := tw_of (tb_6 (List.mem_of_getElem? (i := 179) rfl)) rfl
set_option maxRecDepth 100000 in
theorem k_1442 : Cond.instanceMethod yX10_run ∈ Tw := tw_of (tb_6 (List.mem_of_getElem? (i := 180) rfl)) rfl
set_option maxRecDepth 100000 in
theorem k_1443 : Cond.selects "TwinTablesModel" yX10_run yX10_run ∈ Tw := tw_of (tb_6 (List.mem_of_getElem? (i := 181) rfl)) rfl
set_option maxRecDepth 100000 in
theorem k_1444 : Cond.code yX10_run prog_12_method_60_code 4 (some FieldType.int) ∈ Tw := tw_of (tb_6 (List.mem_of_getElem? (i := 182) rfl)) rfl
set_option maxRecDepth 100000 in
theorem k_1445 : Cond.methodLink "TwinTablesModel" 286 yX10_isPlaces ∈ Tw := tw_of (tb_6 (List.mem_of_getElem? (i := 183) rfl)) rfl
set_option maxRecDepth 100000 in
theorem k_1446 : Cond.static yX10_isPlaces ∈ Tw := tw_of (tb_6 (List.mem_of_getElem? (i := 184) rfl)) rfl
set_option maxRecDepth 100000 in
theorem k_1447 : Cond.code yX10_isPlaces prog_12_method_13_code 1 (some FieldType.boolean) ∈ Tw := tw_of (tb_6 (List.mem_of_getElem? (i := 185) rfl)) rfl
set_option maxRecDepth 100000 in
theorem k_1448 : Cond.constantLong "TwinTablesModel" 78 (4) ∈ Tw := tw_of (tb_6 (List.mem_of_getElem? (i := 186) rfl)) rfl
set_option maxRecDepth 100000 in
theorem k_1449 : Cond.methodLink "TwinTablesModel" 289 yX10_findRun ∈ Tw := tw_of (tb_6 (List.mem_of_getElem? (i := 187) rfl)) rfl
set_option maxRecDepth 100000 in
theorem k_1451 : Cond.instanceMethod yX10_findRun ∈ Tw := tw_of (tb_6 (List.mem_of_getElem? (i := 189) rfl)) rfl
set_option maxRecDepth 100000 in
theorem k_1452 : Cond.code yX10_findRun prog_12_method_58_code 5 none ∈ Tw := tw_of (tb_6 (List.mem_of_getElem? (i := 190) rfl)) rfl
set_option maxRecDepth 100000 in
theorem k_1453 : Cond.methodLink "TwinTablesModel" 281 yX10_inLine ∈ Tw := tw_of (tb_6 (List.mem_of_getElem? (i := 191) rfl)) rfl
set_option maxRecDepth 100000 in
theorem k_1455 : Cond.instanceMethod yX10_inLine ∈ Tw := tw_of (tb_6 (List.mem_of_getElem? (i := 193) rfl)) rfl
set_option maxRecDepth 100000 in
theorem k_1456 : Cond.code yX10_inLine prog_12_method_57_code 4 (some FieldType.int) ∈ Tw := tw_of (tb_6 (List.mem_of_getElem? (i := 194) rfl)) rfl
set_option maxRecDepth 100000 in
theorem k_1457 : Cond.methodLink "TwinTablesModel" 272 yX10_placed ∈ Tw := tw_of (tb_6 (List.mem_of_getElem? (i := 195) rfl)) rfl
set_option maxRecDepth 100000 in
theorem k_1458 : Cond.static yX10_placed ∈ Tw := tw_of (tb_6 (List.mem_of_getElem? (i := 196) rfl)) rfl
set_option maxRecDepth 100000 in
theorem k_1459 : Cond.code yX10_placed prog_12_method_56_code 2 (some FieldType.int) ∈ Tw := tw_of (tb_6 (List.mem_of_getElem? (i := 197) rfl)) rfl
set_option maxRecDepth 100000 in
theorem k_1460 : Cond.methodLink "TwinTablesModel" 292 yX10_oddsOf ∈ Tw := tw_of (tb_6 (List.mem_of_getElem? (i := 198) rfl)) rfl
set_option maxRecDepth 100000 in
theorem k_1462 : Cond.instanceMethod yX10_oddsOf ∈ Tw := tw_of (tb_6 (List.mem_of_getElem? (i := 200) rfl)) rfl
set_option maxRecDepth 100000 in
theorem k_1463 : Cond.code yX10_oddsOf prog_12_method_59_code 5 (some FieldType.int) ∈ Tw := tw_of (tb_6 (List.mem_of_getElem? (i := 201) rfl)) rfl
set_option maxRecDepth 100000 in
theorem k_1464 : Cond.constantLong "TwinTablesModel" 284 (1000000000) ∈ Tw := tw_of (tb_6 (List.mem_of_getElem? (i := 202) rfl)) rfl
set_option maxRecDepth 100000 in
theorem k_1465 : Cond.methodLink "TwinTablesLaw" 73 yX10_soon ∈ Tw := tw_of (tb_6 (List.mem_of_getElem? (i := 203) rfl)) rfl
set_option maxRecDepth 100000 in
theorem k_1466 : Cond.instanceMethod yX10_soon ∈ Tw := tw_of (tb_6 (List.mem_of_getElem? (i := 204) rfl)) rfl
set_option maxRecDepth 100000 in
theorem k_1467 : Cond.selects "TwinTablesModel" yX10_soon yX10_soon ∈ Tw := tw_of (tb_6 (List.mem_of_getElem? (i := 205) rfl)) rfl
set_option maxRecDepth 100000 in
theorem k_1468 : Cond.code yX10_soon prog_12_method_61_code 8 (some FieldType.int) ∈ Tw := tw_of (tb_6 (List.mem_of_getElem? (i := 206) rfl)) rfl
set_option maxRecDepth 100000 in
theorem k_1469 : Cond.constantLong "TwinTablesModel" 295 (12) ∈ Tw := tw_of (tb_6 (List.mem_of_getElem? (i := 207) rfl)) rfl
set_option maxRecDepth 100000 in
theorem k_1470 : Cond.methodLink "TwinTablesLaw" 77 yX10_even ∈ Tw := tw_of (tb_6 (List.mem_of_getElem? (i := 208) rfl)) rfl
set_option maxRecDepth 100000 in
theorem k_1471 : Cond.instanceMethod yX10_even ∈ Tw := tw_of (tb_6 (List.mem_of_getElem? (i := 209) rfl)) rfl
set_option maxRecDepth 100000 in
theorem k_1472 : Cond.selects "TwinTablesModel" yX10_even yX10_even ∈ Tw := tw_of (tb_6 (List.mem_of_getElem? (i := 210) rfl)) rfl
set_option maxRecDepth 100000 in
theorem k_1473 : Cond.code yX10_even prog_12_method_63_code 4 (some FieldType.int) ∈ Tw := tw_of (tb_6 (List.mem_of_getElem? (i := 211) rfl)) rfl
set_option maxRecDepth 100000 in
theorem k_1474 : Cond.methodLink "TwinTablesModel" 297 yX10_digitOf ∈ Tw := tw_of (tb_6 (List.mem_of_getElem? (i := 212) rfl)) rfl
set_option maxRecDepth 100000 in
theorem k_1476 : Cond.instanceMethod yX10_digitOf ∈ Tw := tw_of (tb_6 (List.mem_of_getElem? (i := 214) rfl)) rfl
set_option maxRecDepth 100000 in
theorem k_1477 : Cond.code yX10_digitOf prog_12_method_62_code 4 (some FieldType.int) ∈ Tw := tw_of (tb_6 (List.mem_of_getElem? (i := 215) rfl)) rfl
set_option maxRecDepth 100000 in
theorem k_1478 : Cond.methodLink "TwinTablesLaw" 81 yX10_digit ∈ Tw := tw_of (tb_6 (List.mem_of_getElem? (i := 216) rfl)) rfl
set_option maxRecDepth 100000 in
theorem k_1479 : Cond.instanceMethod yX10_digit ∈ Tw := tw_of (tb_6 (List.mem_of_getElem? (i := 217) rfl)) rfl
set_option maxRecDepth 100000 in
theorem k_1480 : Cond.selects "TwinTablesModel" yX10_digit yX10_digit ∈ Tw := tw_of (tb_6 (List.mem_of_getElem? (i := 218) rfl)) rfl
set_option maxRecDepth 100000 in
theorem k_1481 : Cond.code yX10_digit prog_12_method_64_code 2 (some FieldType.int) ∈ Tw := tw_of (tb_6 (List.mem_of_getElem? (i := 219) rfl)) rfl
set_option maxRecDepth 100000 in
theorem k_1482 : Cond.constantLong "TwinTablesModel" 300 (9) ∈ Tw := tw_of (tb_6 (List.mem_of_getElem? (i := 220) rfl)) rfl
set_option maxRecDepth 100000 in
theorem k_1483 : Cond.methodLink "TwinTablesLaw" 85 yX10_odd ∈ Tw := tw_of (tb_6 (List.mem_of_getElem? (i := 221) rfl)) rfl
set_option maxRecDepth 100000 in
theorem k_1484 : Cond.instanceMethod yX10_odd ∈ Tw := tw_of (tb_6 (List.mem_of_getElem? (i := 222) rfl)) rfl
set_option maxRecDepth 100000 in
theorem k_1485 : Cond.selects "TwinTablesModel" yX10_odd yX10_odd ∈ Tw := tw_of (tb_6 (List.mem_of_getElem? (i := 223) rfl)) rfl
set_option maxRecDepth 100000 in
theorem k_1486 : Cond.code yX10_odd prog_12_method_65_code 5 (some FieldType.int) ∈ Tw := tw_of (tb_6 (List.mem_of_getElem? (i := 224) rfl)) rfl
set_option maxRecDepth 100000 in
theorem k_1487 : Cond.methodLink "TwinTablesLaw" 89 yX10_choose ∈ Tw := tw_of (tb_6 (List.mem_of_getElem? (i := 225) rfl)) rfl
set_option maxRecDepth 100000 in
theorem k_1488 : Cond.instanceMethod yX10_choose ∈ Tw := tw_of (tb_6 (List.mem_of_getElem? (i := 226) rfl)) rfl
set_option maxRecDepth 100000 in
theorem k_1489 : Cond.selects "TwinTablesModel" yX10_choose yX10_choose ∈ Tw := tw_of (tb_6 (List.mem_of_getElem? (i := 227) rfl)) rfl
set_option maxRecDepth 100000 in
theorem k_1490 : Cond.code yX10_choose prog_12_method_66_code 3 (some FieldType.int) ∈ Tw := tw_of (tb_6 (List.mem_of_getElem? (i := 228) rfl)) rfl
set_option maxRecDepth 100000 in
theorem k_1491 : Cond.methodLink "TwinTablesLaw" 93 yX10_story ∈ Tw := tw_of (tb_6 (List.mem_of_getElem? (i := 229) rfl)) rfl
set_option maxRecDepth 100000 in
theorem k_1492 : Cond.instanceMethod yX10_story ∈ Tw := tw_of (tb_6 (List.mem_of_getElem? (i := 230) rfl)) rfl
set_option maxRecDepth 100000 in
theorem k_1493 : Cond.selects "TwinTablesModel" yX10_story yX10_story ∈ Tw := tw_of (tb_6 (List.mem_of_getElem? (i := 231) rfl)) rfl
set_option maxRecDepth 100000 in
theorem k_1494 : Cond.code yX10_story prog_12_method_68_code 6 (some FieldType.int) ∈ Tw := tw_of (tb_6 (List.mem_of_getElem? (i := 232) rfl)) rfl
set_option maxRecDepth 100000 in
theorem k_1495 : Cond.constantLong "TwinTablesModel" 315 (6) ∈ Tw := tw_of (tb_6 (List.mem_of_getElem? (i := 233) rfl)) rfl
set_option maxRecDepth 100000 in
theorem k_1496 : Cond.methodLink "TwinTablesModel" 311 yX10_tries ∈ Tw := tw_of (tb_6 (List.mem_of_getElem? (i := 234) rfl)) rfl
set_option maxRecDepth 100000 in
theorem k_1498 : Cond.instanceMethod yX10_tries ∈ Tw := tw_of (tb_6 (List.mem_of_getElem? (i := 236) rfl)) rfl
set_option maxRecDepth 100000 in
theorem k_1499 : Cond.code yX10_tries prog_12_method_67_code 5 none ∈ Tw := tw_of (tb_6 (List.mem_of_getElem? (i := 237) rfl)) rfl
set_option maxRecDepth 100000 in
theorem k_1500 : Cond.methodLink "TwinTablesLaw" 97 yX10_clear ∈ Tw := tw_of (tb_6 (List.mem_of_getElem? (i := 238) rfl)) rfl
set_option maxRecDepth 100000 in
theorem k_1501 : Cond.instanceMethod yX10_clear ∈ Tw := tw_of (tb_6 (List.mem_of_getElem? (i := 239) rfl)) rfl
set_option maxRecDepth 100000 in
theorem k_1502 : Cond.selects "TwinTablesModel" yX10_clear yX10_clear ∈ Tw := tw_of (tb_7 (List.mem_of_getElem? (i := 0) rfl)) rfl
set_option maxRecDepth 100000 in
theorem k_1503 : Cond.code yX10_clear prog_12_method_69_code 1 (some FieldType.int) ∈ Tw := tw_of (tb_7 (List.mem_of_getElem? (i := 1) rfl)) rfl
set_option maxRecDepth 100000 in
theorem k_1504 : Cond.methodLink "TwinTablesLaw" 101 yX10_road ∈ Tw := tw_of (tb_7 (List.mem_of_getElem? (i := 2) rfl)) rfl
set_option maxRecDepth 100000 in
theorem k_1505 : Cond.instanceMethod yX10_road ∈ Tw := tw_of (tb_7 (List.mem_of_getElem? (i := 3) rfl)) rfl
set_option maxRecDepth 100000 in
theorem k_1506 : Cond.selects "TwinTablesModel" yX10_road yX10_road ∈ Tw := tw_of (tb_7 (List.mem_of_getElem? (i := 4) rfl)) rfl
set_option maxRecDepth 100000 in
theorem k_1507 : Cond.code yX10_road prog_12_method_71_code 4 (some FieldType.int) ∈ Tw := tw_of (tb_7 (List.mem_of_getElem? (i := 5) rfl)) rfl
set_option maxRecDepth 100000 in
theorem k_1508 : Cond.methodLink "TwinTablesModel" 317 yX10_isPlace ∈ Tw := tw_of (tb_7 (List.mem_of_getElem? (i := 6) rfl)) rfl
set_option maxRecDepth 100000 in
theorem k_1509 : Cond.static yX10_isPlace ∈ Tw := tw_of (tb_7 (List.mem_of_getElem? (i := 7) rfl)) rfl
set_option maxRecDepth 100000 in
theorem k_1510 : Cond.code yX10_isPlace prog_12_method_70_code 1 (some FieldType.boolean) ∈ Tw := tw_of (tb_7 (List.mem_of_getElem? (i := 8) rfl)) rfl
set_option maxRecDepth 100000 in
theorem k_1511 : Cond.constantLong "TwinTablesModel" 320 (30) ∈ Tw := tw_of (tb_7 (List.mem_of_getElem? (i := 9) rfl)) rfl
set_option maxRecDepth 100000 in
theorem k_1512 : Cond.methodLink "TwinTablesLaw" 105 yX10_far ∈ Tw := tw_of (tb_7 (List.mem_of_getElem? (i := 10) rfl)) rfl
set_option maxRecDepth 100000 in
theorem k_1513 : Cond.instanceMethod yX10_far ∈ Tw := tw_of (tb_7 (List.mem_of_getElem? (i := 11) rfl)) rfl
set_option maxRecDepth 100000 in
theorem k_1514 : Cond.selects "TwinTablesModel" yX10_far yX10_far ∈ Tw := tw_of (tb_7 (List.mem_of_getElem? (i := 12) rfl)) rfl
set_option maxRecDepth 100000 in
theorem k_1515 : Cond.code yX10_far prog_12_method_73_code 3 (some FieldType.int) ∈ Tw := tw_of (tb_7 (List.mem_of_getElem? (i := 13) rfl)) rfl
set_option maxRecDepth 100000 in
theorem k_1516 : Cond.methodLink "TwinTablesModel" 326 yX10_daysFrom ∈ Tw := tw_of (tb_7 (List.mem_of_getElem? (i := 14) rfl)) rfl
set_option maxRecDepth 100000 in
theorem k_1518 : Cond.instanceMethod yX10_daysFrom ∈ Tw := tw_of (tb_7 (List.mem_of_getElem? (i := 16) rfl)) rfl
set_option maxRecDepth 100000 in
theorem k_1519 : Cond.code yX10_daysFrom prog_12_method_72_code 7 (some FieldType.int) ∈ Tw := tw_of (tb_7 (List.mem_of_getElem? (i := 17) rfl)) rfl
set_option maxRecDepth 100000 in
theorem k_1520 : Cond.constant "TwinTablesModel" 322 (100000) ∈ Tw := tw_of (tb_7 (List.mem_of_getElem? (i := 18) rfl)) rfl
set_option maxRecDepth 100000 in
theorem k_1521 : Cond.methodLink "TwinTablesModel" 323 yX10_least ∈ Tw := tw_of (tb_7 (List.mem_of_getElem? (i := 19) rfl)) rfl
set_option maxRecDepth 100000 in
theorem k_1522 : Cond.static yX10_least ∈ Tw := tw_of (tb_7 (List.mem_of_getElem? (i := 20) rfl)) rfl
set_option maxRecDepth 100000 in
theorem k_1523 : Cond.code yX10_least prog_12_method_4_code 2 (some FieldType.int) ∈ Tw := tw_of (tb_7 (List.mem_of_getElem? (i := 21) rfl)) rfl
set_option maxRecDepth 100000 in
theorem k_1524 : Cond.methodLink "TwinTablesLaw" 109 yX10_diary ∈ Tw := tw_of (tb_7 (List.mem_of_getElem? (i := 22) rfl)) rfl
set_option maxRecDepth 100000 in
theorem k_1525 : Cond.instanceMethod yX10_diary ∈ Tw := tw_of (tb_7 (List.mem_of_getElem? (i := 23) rfl)) rfl
set_option maxRecDepth 100000 in
theorem k_1526 : Cond.selects "TwinTablesModel" yX10_diary yX10_diary ∈ Tw := tw_of (tb_7 (List.mem_of_getElem? (i := 24) rfl)) rfl
set_option maxRecDepth 100000 in
theorem k_1527 : Cond.code yX10_diary prog_12_method_75_code 3 (some FieldType.int) ∈ Tw := tw_of (tb_7 (List.mem_of_getElem? (i := 25) rfl)) rfl
set_option maxRecDepth 100000 in
theorem k_1528 : Cond.methodLink "TwinTablesModel" 329 yX10_hasDay ∈ Tw := tw_of (tb_7 (List.mem_of_getElem? (i := 26) rfl)) rfl
set_option maxRecDepth 100000 in
theorem k_1530 : Cond.instanceMethod yX10_hasDay ∈ Tw := tw_of (tb_7 (List.mem_of_getElem? (i := 28) rfl)) rfl
set_option maxRecDepth 100000 in
theorem k_1531 : Cond.code yX10_hasDay prog_12_method_74_code 4 (some FieldType.boolean) ∈ Tw := tw_of (tb_7 (List.mem_of_getElem? (i := 29) rfl)) rfl
set_option maxRecDepth 100000 in
theorem k_1532 : Cond.methodLink "TwinTablesLaw" 113 yX10_could ∈ Tw := tw_of (tb_7 (List.mem_of_getElem? (i := 30) rfl)) rfl
set_option maxRecDepth 100000 in
theorem k_1533 : Cond.instanceMethod yX10_could ∈ Tw := tw_of (tb_7 (List.mem_of_getElem? (i := 31) rfl)) rfl
set_option maxRecDepth 100000 in
theorem k_1534 : Cond.selects "TwinTablesModel" yX10_could yX10_could ∈ Tw := tw_of (tb_7 (List.mem_of_getElem? (i := 32) rfl)) rfl
set_option maxRecDepth 100000 in
theorem k_1535 : Cond.code yX10_could prog_12_method_76_code 9 (some FieldType.int) ∈ Tw := tw_of (tb_7 (List.mem_of_getElem? (i := 33) rfl)) rfl
set_option maxRecDepth 100000 in
theorem k_1536 : Cond.constantLong "TwinTablesModel" 332 (99) ∈ Tw := tw_of (tb_7 (List.mem_of_getElem? (i := 34) rfl)) rfl
set_option maxRecDepth 100000 in
theorem k_1537 : Cond.methodLink "TwinTablesModel" 334 yX10_isNear ∈ Tw := tw_of (tb_7 (List.mem_of_getElem? (i := 35) rfl)) rfl
set_option maxRecDepth 100000 in
theorem k_1539 : Cond.instanceMethod yX10_isNear ∈ Tw := tw_of (tb_7 (List.mem_of_getElem? (i := 37) rfl)) rfl
set_option maxRecDepth 100000 in
theorem k_1540 : Cond.code yX10_isNear prog_12_method_77_code 6 (some FieldType.boolean) ∈ Tw := tw_of (tb_7 (List.mem_of_getElem? (i := 38) rfl)) rfl
set_option maxRecDepth 100000 in
theorem k_1541 : Cond.methodLink "TwinTablesLaw" 117 yX10_leaner ∈ Tw := tw_of (tb_7 (List.mem_of_getElem? (i := 39) rfl)) rfl
set_option maxRecDepth 100000 in
theorem k_1542 : Cond.instanceMethod yX10_leaner ∈ Tw := tw_of (tb_7 (List.mem_of_getElem? (i := 40) rfl)) rfl
set_option maxRecDepth 100000 in
theorem k_1543 : Cond.selects "TwinTablesModel" yX10_leaner yX10_leaner ∈ Tw := tw_of (tb_7 (List.mem_of_getElem? (i := 41) rfl)) rfl
set_option maxRecDepth 100000 in
theorem k_1544 : Cond.code yX10_leaner prog_12_method_79_code 5 (some FieldType.int) ∈ Tw := tw_of (tb_7 (List.mem_of_getElem? (i := 42) rfl)) rfl
set_option maxRecDepth 100000 in
theorem k_1545 : Cond.constantLong "TwinTablesModel" 338 (28) ∈ Tw := tw_of (tb_7 (List.mem_of_getElem? (i := 43) rfl)) rfl
set_option maxRecDepth 100000 in
theorem k_1546 : Cond.methodLink "TwinTablesLaw" 121 yX10_falls ∈ Tw := tw_of (tb_7 (List.mem_of_getElem? (i := 44) rfl)) rfl
set_option maxRecDepth 100000 in
theorem k_1547 : Cond.instanceMethod yX10_falls ∈ Tw := tw_of (tb_7 (List.mem_of_getElem? (i := 45) rfl)) rfl
set_option maxRecDepth 100000 in
theorem k_1548 : Cond.selects "TwinTablesModel" yX10_falls yX10_falls ∈ Tw := tw_of (tb_7 (List.mem_of_getElem? (i := 46) rfl)) rfl
set_option maxRecDepth 100000 in
theorem k_1549 : Cond.code yX10_falls prog_12_method_81_code 2 (some FieldType.int) ∈ Tw := tw_of (tb_7 (List.mem_of_getElem? (i := 47) rfl)) rfl
set_option maxRecDepth 100000 in
theorem k_1550 : Cond.constantLong "TwinTablesModel" 343 (4095) ∈ Tw := tw_of (tb_7 (List.mem_of_getElem? (i := 48) rfl)) rfl
set_option maxRecDepth 100000 in
theorem k_1551 : Cond.methodLink "TwinTablesModel" 345 yX10_fallen ∈ Tw := tw_of (tb_7 (List.mem_of_getElem? (i := 49) rfl)) rfl
set_option maxRecDepth 100000 in
theorem k_1553 : Cond.instanceMethod yX10_fallen ∈ Tw := tw_of (tb_7 (List.mem_of_getElem? (i := 51) rfl)) rfl
set_option maxRecDepth 100000 in
theorem k_1554 : Cond.code yX10_fallen prog_12_method_80_code 6 (some FieldType.int) ∈ Tw := tw_of (tb_7 (List.mem_of_getElem? (i := 52) rfl)) rfl
set_option maxRecDepth 100000 in
theorem k_1555 : Cond.methodLink "TwinTablesModel" 340 yX10_ones ∈ Tw := tw_of (tb_7 (List.mem_of_getElem? (i := 53) rfl)) rfl
set_option maxRecDepth 100000 in
theorem k_1556 : Cond.static yX10_ones ∈ Tw := tw_of (tb_7 (List.mem_of_getElem? (i := 54) rfl)) rfl
set_option maxRecDepth 100000 in
theorem k_1557 : Cond.code yX10_ones prog_12_method_78_code 3 (some FieldType.int) ∈ Tw := tw_of (tb_7 (List.mem_of_getElem? (i := 55) rfl)) rfl
set_option maxRecDepth 100000 in
theorem k_1558 : Cond.methodLink "TwinTablesLaw" 125 yX10_left ∈ Tw := tw_of (tb_7 (List.mem_of_getElem? (i := 56) rfl)) rfl
set_option maxRecDepth 100000 in
theorem k_1559 : Cond.instanceMethod yX10_left ∈ Tw := tw_of (tb_7 (List.mem_of_getElem? (i := 57) rfl)) rfl
set_option maxRecDepth 100000 in
theorem k_1560 : Cond.selects "TwinTablesModel" yX10_left yX10_left ∈ Tw := tw_of (tb_7 (List.mem_of_getElem? (i := 58) rfl)) rfl
set_option maxRecDepth 100000 in
theorem k_1561 : Cond.code yX10_left prog_12_method_82_code 2 (some FieldType.int) ∈ Tw := tw_of (tb_7 (List.mem_of_getElem? (i := 59) rfl)) rfl
set_option maxRecDepth 100000 in
theorem k_1562 : Cond.methodLink "TwinTablesLaw" 129 yX10_pillar ∈ Tw := tw_of (tb_7 (List.mem_of_getElem? (i := 60) rfl)) rfl
set_option maxRecDepth 100000 in
theorem k_1563 : Cond.instanceMethod yX10_pillar ∈ Tw := tw_of (tb_7 (List.mem_of_getElem? (i := 61) rfl)) rfl
set_option maxRecDepth 100000 in
theorem k_1564 : Cond.selects "TwinTablesModel" yX10_pillar yX10_pillar ∈ Tw := tw_of (tb_7 (List.mem_of_getElem? (i := 62) rfl)) rfl
set_option maxRecDepth 100000 in
theorem k_1565 : Cond.code yX10_pillar prog_12_method_83_code 3 (some FieldType.int) ∈ Tw := tw_of (tb_7 (List.mem_of_getElem? (i := 63) rfl)) rfl
set_option maxRecDepth 100000 in
theorem k_1566 : Cond.methodLink "TwinTablesLaw" 133 yX10_source ∈ Tw := tw_of (tb_7 (List.mem_of_getElem? (i := 64) rfl)) rfl
set_option maxRecDepth 100000 in
theorem k_1567 : Cond.instanceMethod yX10_source ∈ Tw := tw_of (tb_7 (List.mem_of_getElem? (i := 65) rfl)) rfl
set_option maxRecDepth 100000 in
theorem k_1568 : Cond.selects "TwinTablesModel" yX10_source yX10_source ∈ Tw := tw_of (tb_7 (List.mem_of_getElem? (i := 66) rfl)) rfl
set_option maxRecDepth 100000 in
theorem k_1569 : Cond.code yX10_source prog_12_method_84_code 2 (some FieldType.int) ∈ Tw := tw_of (tb_7 (List.mem_of_getElem? (i := 67) rfl)) rfl
set_option maxRecDepth 100000 in
theorem k_1570 : Cond.constantLong "TwinTablesModel" 348 (65535) ∈ Tw := tw_of (tb_7 (List.mem_of_getElem? (i := 68) rfl)) rfl
set_option maxRecDepth 100000 in
theorem k_1571 : Cond.methodLink "TwinTablesLaw" 137 yX10_next ∈ Tw := tw_of (tb_7 (List.mem_of_getElem? (i := 69) rfl)) rfl
set_option maxRecDepth 100000 in
theorem k_1572 : Cond.instanceMethod yX10_next ∈ Tw := tw_of (tb_7 (List.mem_of_getElem? (i := 70) rfl)) rfl
set_option maxRecDepth 100000 in
theorem k_1573 : Cond.selects "TwinTablesModel" yX10_next yX10_next ∈ Tw := tw_of (tb_7 (List.mem_of_getElem? (i := 71) rfl)) rfl
set_option maxRecDepth 100000 in
theorem k_1574 : Cond.code yX10_next prog_12_method_86_code 8 (some FieldType.int) ∈ Tw := tw_of (tb_7 (List.mem_of_getElem? (i := 72) rfl)) rfl
set_option maxRecDepth 100000 in
theorem k_1575 : Cond.constantLong "TwinTablesModel" 350 (255) ∈ Tw := tw_of (tb_7 (List.mem_of_getElem? (i := 73) rfl)) rfl
set_option maxRecDepth 100000 in
theorem k_1576 : Cond.methodLink "TwinTablesModel" 352 yX10_leftBy ∈ Tw := tw_of (tb_7 (List.mem_of_getElem? (i := 74) rfl)) rfl
set_option maxRecDepth 100000 in
theorem k_1578 : Cond.instanceMethod yX10_leftBy ∈ Tw := tw_of (tb_7 (List.mem_of_getElem? (i := 76) rfl)) rfl
set_option maxRecDepth 100000 in
theorem k_1579 : Cond.code yX10_leftBy prog_12_method_85_code 7 (some FieldType.int) ∈ Tw := tw_of (tb_7 (List.mem_of_getElem? (i := 77) rfl)) rfl
set_option maxRecDepth 100000 in
theorem k_1580 : Cond.methodLink "TwinTablesLaw" 141 yX10_heard ∈ Tw := tw_of (tb_7 (List.mem_of_getElem? (i := 78) rfl)) rfl
set_option maxRecDepth 100000 in
theorem k_1581 : Cond.instanceMethod yX10_heard ∈ Tw := tw_of (tb_7 (List.mem_of_getElem? (i := 79) rfl)) rfl
set_option maxRecDepth 100000 in
theorem k_1582 : Cond.selects "TwinTablesModel" yX10_heard yX10_heard ∈ Tw := tw_of (tb_7 (List.mem_of_getElem? (i := 80) rfl)) rfl
set_option maxRecDepth 100000 in
theorem k_1583 : Cond.code yX10_heard prog_12_method_87_code 4 (some FieldType.int) ∈ Tw := tw_of (tb_7 (List.mem_of_getElem? (i := 81) rfl)) rfl
set_option maxRecDepth 100000 in
theorem k_1584 : Cond.constantLong "TwinTablesModel" 355 (3) ∈ Tw := tw_of (tb_7 (List.mem_of_getElem? (i := 82) rfl)) rfl
set_option maxRecDepth 100000 in
theorem k_1585 : Cond.methodLink "TwinTablesLaw" 145 yX10_seed ∈ Tw := tw_of (tb_7 (List.mem_of_getElem? (i := 83) rfl)) rfl
set_option maxRecDepth 100000 in
theorem k_1586 : Cond.instanceMethod yX10_seed ∈ Tw := tw_of (tb_7 (List.mem_of_getElem? (i := 84) rfl)) rfl
set_option maxRecDepth 100000 in
theorem k_1587 : Cond.selects "TwinTablesModel" yX10_seed yX10_seed ∈ Tw := tw_of (tb_7 (List.mem_of_getElem? (i := 85) rfl)) rfl
set_option maxRecDepth 100000 in
theorem k_1588 : Cond.code yX10_seed prog_12_method_88_code 2 (some FieldType.int) ∈ Tw := tw_of (tb_7 (List.mem_of_getElem? (i := 86) rfl)) rfl
set_option maxRecDepth 100000 in
theorem k_1589 : Cond.methodLink "TwinTablesLaw" 150 yX10_share ∈ Tw := tw_of (tb_7 (List.mem_of_getElem? (i := 87) rfl)) rfl
set_option maxRecDepth 100000 in
theorem k_1590 : Cond.instanceMethod yX10_share ∈ Tw := tw_of (tb_7 (List.mem_of_getElem? (i := 88) rfl)) rfl
set_option maxRecDepth 100000 in
theorem k_1591 : Cond.selects "TwinTablesModel" yX10_share yX10_share ∈ Tw := tw_of (tb_7 (List.mem_of_getElem? (i := 89) rfl)) rfl
set_option maxRecDepth 100000 in
theorem k_1592 : Cond.code yX10_share prog_12_method_90_code 15 (some FieldType.int) ∈ Tw := tw_of (tb_7 (List.mem_of_getElem? (i := 90) rfl)) rfl
set_option maxRecDepth 100000 in
theorem k_1593 : Cond.constantLong "TwinTablesModel" 358 (200) ∈ Tw := tw_of (tb_7 (List.mem_of_getElem? (i := 91) rfl)) rfl
set_option maxRecDepth 100000 in
theorem k_1594 : Cond.methodLink "TwinTablesModel" 360 yX10_drawn ∈ Tw := tw_of (tb_7 (List.mem_of_getElem? (i := 92) rfl)) rfl
set_option maxRecDepth 100000 in
theorem k_1596 : Cond.instanceMethod yX10_drawn ∈ Tw := tw_of (tb_7 (List.mem_of_getElem? (i := 94) rfl)) rfl
set_option maxRecDepth 100000 in
theorem k_1597 : Cond.code yX10_drawn prog_12_method_89_code 2 (some FieldType.int) ∈ Tw := tw_of (tb_7 (List.mem_of_getElem? (i := 95) rfl)) rfl
set_option maxRecDepth 100000 in
theorem k_1598 : Cond.constant "TwinTablesModel" 357 (1103515245) ∈ Tw := tw_of (tb_7 (List.mem_of_getElem? (i := 96) rfl)) rfl
set_option maxRecDepth 100000 in
theorem k_1599 : Cond.methodLink "TwinTablesLaw" 154 yX10_sheet ∈ Tw := tw_of (tb_7 (List.mem_of_getElem? (i := 97) rfl)) rfl
set_option maxRecDepth 100000 in
theorem k_1600 : Cond.instanceMethod yX10_sheet ∈ Tw := tw_of (tb_7 (List.mem_of_getElem? (i := 98) rfl)) rfl
set_option maxRecDepth 100000 in
theorem k_1601 : Cond.selects "TwinTablesModel" yX10_sheet yX10_sheet ∈ Tw := tw_of (tb_7 (List.mem_of_getElem? (i := 99) rfl)) rfl
set_option maxRecDepth 100000 in
theorem k_1602 : Cond.code yX10_sheet prog_12_method_92_code 5 (some FieldType.int) ∈ Tw := tw_of (tb_7 (List.mem_of_getElem? (i := 100) rfl)) rfl
set_option maxRecDepth 100000 in
theorem k_1603 : Cond.methodLink "TwinTablesModel" 363 yX10_isSheet ∈ Tw := tw_of (tb_7 (List.mem_of_getElem? (i := 101) rfl)) rfl
set_option maxRecDepth 100000 in
theorem k_1604 : Cond.static yX10_isSheet ∈ Tw := tw_of (tb_7 (List.mem_of_getElem? (i := 102) rfl)) rfl
set_option maxRecDepth 100000 in
theorem k_1605 : Cond.code yX10_isSheet prog_12_method_91_code 1 (some FieldType.boolean) ∈ Tw := tw_of (tb_7 (List.mem_of_getElem? (i := 103) rfl)) rfl
set_option maxRecDepth 100000 in
theorem k_1606 : Cond.constantLong "TwinTablesModel" 366 (-1) ∈ Tw := tw_of (tb_7 (List.mem_of_getElem? (i := 104) rfl)) rfl
set_option maxRecDepth 100000 in
theorem k_1607 : Cond.constant "TwinTablesModel" 368 (-1000000014) ∈ Tw := tw_of (tb_7 (List.mem_of_getElem? (i := 105) rfl)) rfl
set_option maxRecDepth 100000 in
theorem k_1608 : Cond.methodLink "TwinTablesLaw" 158 yX10_mark ∈ Tw := tw_of (tb_7 (List.mem_of_getElem? (i := 106) rfl)) rfl
set_option maxRecDepth 100000 in
theorem k_1609 : Cond.instanceMethod yX10_mark ∈ Tw := tw_of (tb_7 (List.mem_of_getElem? (i := 107) rfl)) rfl
set_option maxRecDepth 100000 in
theorem k_1610 : Cond.selects "TwinTablesModel" yX10_mark yX10_mark ∈ Tw := tw_of (tb_7 (List.mem_of_getElem? (i := 108) rfl)) rfl
set_option maxRecDepth 100000 in
theorem k_1611 : Cond.code yX10_mark prog_12_method_93_code 4 (some FieldType.int) ∈ Tw := tw_of (tb_7 (List.mem_of_getElem? (i := 109) rfl)) rfl
set_option maxRecDepth 100000 in
theorem k_1612 : Cond.constant "TwinTablesModel" 369 (-1000000011) ∈ Tw := tw_of (tb_7 (List.mem_of_getElem? (i := 110) rfl)) rfl
set_option maxRecDepth 100000 in
theorem k_1613 : Cond.constant "TwinTablesModel" 370 (-1000000013) ∈ Tw := tw_of (tb_7 (List.mem_of_getElem? (i := 111) rfl)) rfl
set_option maxRecDepth 100000 in
theorem k_1614 : Cond.constantLong "TwinTablesModel" 371 (-99999) ∈ Tw := tw_of (tb_7 (List.mem_of_getElem? (i := 112) rfl)) rfl
set_option maxRecDepth 100000 in
theorem k_1615 : Cond.constantLong "TwinTablesModel" 373 (99999) ∈ Tw := tw_of (tb_7 (List.mem_of_getElem? (i := 113) rfl)) rfl
set_option maxRecDepth 100000 in
theorem k_1616 : Cond.methodLink "TwinTablesLaw" 162 yX10_print ∈ Tw := tw_of (tb_7 (List.mem_of_getElem? (i := 114) rfl)) rfl
set_option maxRecDepth 100000 in
theorem k_1617 : Cond.instanceMethod yX10_print ∈ Tw := tw_of (tb_7 (List.mem_of_getElem? (i := 115) rfl)) rfl
set_option maxRecDepth 100000 in
theorem k_1618 : Cond.selects "TwinTablesModel" yX10_print yX10_print ∈ Tw := tw_of (tb_7 (List.mem_of_getElem? (i := 116) rfl)) rfl
set_option maxRecDepth 100000 in
theorem k_1619 : Cond.code yX10_print prog_12_method_94_code 7 (some FieldType.int) ∈ Tw := tw_of (tb_7 (List.mem_of_getElem? (i := 117) rfl)) rfl
set_option maxRecDepth 100000 in
theorem k_1620 : Cond.methodLink "TwinTablesLaw" 166 yX10_copy ∈ Tw := tw_of (tb_7 (List.mem_of_getElem? (i := 118) rfl)) rfl
set_option maxRecDepth 100000 in
theorem k_1621 : Cond.instanceMethod yX10_copy ∈ Tw := tw_of (tb_7 (List.mem_of_getElem? (i := 119) rfl)) rfl
set_option maxRecDepth 100000 in
theorem k_1622 : Cond.selects "TwinTablesModel" yX10_copy yX10_copy ∈ Tw := tw_of (tb_7 (List.mem_of_getElem? (i := 120) rfl)) rfl
set_option maxRecDepth 100000 in
theorem k_1623 : Cond.code yX10_copy prog_12_method_95_code 7 (some FieldType.int) ∈ Tw := tw_of (tb_7 (List.mem_of_getElem? (i := 121) rfl)) rfl
set_option maxRecDepth 100000 in
theorem k_1624 : Cond.methodLink "TwinTablesLaw" 170 yX10_lay ∈ Tw := tw_of (tb_7 (List.mem_of_getElem? (i := 122) rfl)) rfl
set_option maxRecDepth 100000 in
theorem k_1625 : Cond.instanceMethod yX10_lay ∈ Tw := tw_of (tb_7 (List.mem_of_getElem? (i := 123) rfl)) rfl
set_option maxRecDepth 100000 in
theorem k_1626 : Cond.selects "TwinTablesModel" yX10_lay yX10_lay ∈ Tw := tw_of (tb_7 (List.mem_of_getElem? (i := 124) rfl)) rfl
set_option maxRecDepth 100000 in
theorem k_1627 : Cond.code yX10_lay prog_12_method_97_code 7 (some FieldType.int) ∈ Tw := tw_of (tb_7 (List.mem_of_getElem? (i := 125) rfl)) rfl
set_option maxRecDepth 100000 in
theorem k_1628 : Cond.methodLink "TwinTablesModel" 375 yX10_isSlot ∈ Tw := tw_of (tb_7 (List.mem_of_getElem? (i := 126) rfl)) rfl
set_option maxRecDepth 100000 in
theorem k_1629 : Cond.static yX10_isSlot ∈ Tw := tw_of (tb_7 (List.mem_of_getElem? (i := 127) rfl)) rfl
set_option maxRecDepth 100000 in
theorem k_1630 : Cond.code yX10_isSlot prog_12_method_96_code 1 (some FieldType.boolean) ∈ Tw := tw_of (tb_7 (List.mem_of_getElem? (i := 128) rfl)) rfl
set_option maxRecDepth 100000 in
theorem k_1631 : Cond.methodLink "TwinTablesLaw" 174 yX10_ask ∈ Tw := tw_of (tb_7 (List.mem_of_getElem? (i := 129) rfl)) rfl
set_option maxRecDepth 100000 in
theorem k_1632 : Cond.instanceMethod yX10_ask ∈ Tw := tw_of (tb_7 (List.mem_of_getElem? (i := 130) rfl)) rfl
set_option maxRecDepth 100000 in
theorem k_1633 : Cond.selects "TwinTablesModel" yX10_ask yX10_ask ∈ Tw := tw_of (tb_7 (List.mem_of_getElem? (i := 131) rfl)) rfl
set_option maxRecDepth 100000 in
theorem k_1634 : Cond.code yX10_ask prog_12_method_98_code 3 (some FieldType.int) ∈ Tw := tw_of (tb_7 (List.mem_of_getElem? (i := 132) rfl)) rfl
set_option maxRecDepth 100000 in
theorem k_1635 : Cond.methodLink "TwinTablesLaw" 178 yX10_item ∈ Tw := tw_of (tb_7 (List.mem_of_getElem? (i := 133) rfl)) rfl
set_option maxRecDepth 100000 in
theorem k_1636 : Cond.instanceMethod yX10_item ∈ Tw := tw_of (tb_7 (List.mem_of_getElem? (i := 134) rfl)) rfl
set_option maxRecDepth 100000 in
theorem k_1637 : Cond.selects "TwinTablesModel" yX10_item yX10_item ∈ Tw := tw_of (tb_7 (List.mem_of_getElem? (i := 135) rfl)) rfl
set_option maxRecDepth 100000 in
theorem k_1638 : Cond.code yX10_item prog_12_method_99_code 4 (some FieldType.int) ∈ Tw := tw_of (tb_7 (List.mem_of_getElem? (i := 136) rfl)) rfl
set_option maxRecDepth 100000 in
theorem k_1639 : Cond.methodLink "TwinTablesLaw" 182 yX10_rest ∈ Tw := tw_of (tb_7 (List.mem_of_getElem? (i := 137) rfl)) rfl
set_option maxRecDepth 100000 in
theorem k_1640 : Cond.instanceMethod yX10_rest ∈ Tw := tw_of (tb_7 (List.mem_of_getElem? (i := 138) rfl)) rfl
set_option maxRecDepth 100000 in
theorem k_1641 : Cond.selects "TwinTablesModel" yX10_rest yX10_rest ∈ Tw := tw_of (tb_7 (List.mem_of_getElem? (i := 139) rfl)) rfl
set_option maxRecDepth 100000 in
theorem k_1642 : Cond.code yX10_rest prog_12_method_100_code 3 (some FieldType.int) ∈ Tw := tw_of (tb_7 (List.mem_of_getElem? (i := 140) rfl)) rfl
set_option maxRecDepth 100000 in
theorem k_1643 : Cond.methodLink "TwinTablesLaw" 186 yX10_tell ∈ Tw := tw_of (tb_7 (List.mem_of_getElem? (i := 141) rfl)) rfl
set_option maxRecDepth 100000 in
theorem k_1644 : Cond.instanceMethod yX10_tell ∈ Tw := tw_of (tb_7 (List.mem_of_getElem? (i := 142) rfl)) rfl
set_option maxRecDepth 100000 in
theorem k_1645 : Cond.selects "TwinTablesModel" yX10_tell yX10_tell ∈ Tw := tw_of (tb_7 (List.mem_of_getElem? (i := 143) rfl)) rfl
set_option maxRecDepth 100000 in
theorem k_1646 : Cond.code yX10_tell prog_12_method_101_code 2 (some FieldType.int) ∈ Tw := tw_of (tb_7 (List.mem_of_getElem? (i := 144) rfl)) rfl
set_option maxRecDepth 100000 in
theorem k_1647 : Cond.methodLink "TwinTablesLaw" 190 yX10_check ∈ Tw := tw_of (tb_7 (List.mem_of_getElem? (i := 145) rfl)) rfl
set_option maxRecDepth 100000 in
theorem k_1648 : Cond.instanceMethod yX10_check ∈ Tw := tw_of (tb_7 (List.mem_of_getElem? (i := 146) rfl)) rfl
set_option maxRecDepth 100000 in
theorem k_1649 : Cond.selects "TwinTablesModel" yX10_check yX10_check ∈ Tw := tw_of (tb_7 (List.mem_of_getElem? (i := 147) rfl)) rfl
set_option maxRecDepth 100000 in
theorem k_1650 : Cond.code yX10_check prog_12_method_103_code 6 (some FieldType.int) ∈ Tw := tw_of (tb_7 (List.mem_of_getElem? (i := 148) rfl)) rfl
set_option maxRecDepth 100000 in
theorem k_1651 : Cond.methodLink "TwinTablesModel" 385 yX10_setAside ∈ Tw := tw_of (tb_7 (List.mem_of_getElem? (i := 149) rfl)) rfl
set_option maxRecDepth 100000 in
theorem k_1653 : Cond.instanceMethod yX10_setAside ∈ Tw := tw_of (tb_7 (List.mem_of_getElem? (i := 151) rfl)) rfl
set_option maxRecDepth 100000 in
theorem k_1654 : Cond.code yX10_setAside prog_12_method_102_code 4 none ∈ Tw := tw_of (tb_7 (List.mem_of_getElem? (i := 152) rfl)) rfl
set_option maxRecDepth 100000 in
theorem k_1655 : Cond.methodLink "TwinTablesLaw" 194 yX10_keep ∈ Tw := tw_of (tb_7 (List.mem_of_getElem? (i := 153) rfl)) rfl
set_option maxRecDepth 100000 in
theorem k_1656 : Cond.instanceMethod yX10_keep ∈ Tw := tw_of (tb_7 (List.mem_of_getElem? (i := 154) rfl)) rfl
set_option maxRecDepth 100000 in
theorem k_1657 : Cond.selects "TwinTablesModel" yX10_keep yX10_keep ∈ Tw := tw_of (tb_7 (List.mem_of_getElem? (i := 155) rfl)) rfl
set_option maxRecDepth 100000 in
theorem k_1658 : Cond.code yX10_keep prog_12_method_104_code 1 (some FieldType.int) ∈ Tw := tw_of (tb_7 (List.mem_of_getElem? (i := 156) rfl)) rfl
set_option maxRecDepth 100000 in
theorem k_1659 : Cond.methodLink "TwinTablesLaw" 198 yX10_back ∈ Tw := tw_of (tb_7 (List.mem_of_getElem? (i := 157) rfl)) rfl
set_option maxRecDepth 100000 in
theorem k_1660 : Cond.instanceMethod yX10_back ∈ Tw := tw_of (tb_7 (List.mem_of_getElem? (i := 158) rfl)) rfl
set_option maxRecDepth 100000 in
theorem k_1661 : Cond.selects "TwinTablesModel" yX10_back yX10_back ∈ Tw := tw_of (tb_7 (List.mem_of_getElem? (i := 159) rfl)) rfl
set_option maxRecDepth 100000 in
theorem k_1662 : Cond.code yX10_back prog_12_method_105_code 1 (some FieldType.int) ∈ Tw := tw_of (tb_7 (List.mem_of_getElem? (i := 160) rfl)) rfl
set_option maxRecDepth 100000 in
theorem k_1663 : Cond.methodLink "TwinTablesLaw" 202 yX10_count ∈ Tw := tw_of (tb_7 (List.mem_of_getElem? (i := 161) rfl)) rfl
set_option maxRecDepth 100000 in
theorem k_1664 : Cond.instanceMethod yX10_count ∈ Tw := tw_of (tb_7 (List.mem_of_getElem? (i := 162) rfl)) rfl
set_option maxRecDepth 100000 in
theorem k_1665 : Cond.selects "TwinTablesModel" yX10_count yX10_count ∈ Tw := tw_of (tb_7 (List.mem_of_getElem? (i := 163) rfl)) rfl
set_option maxRecDepth 100000 in
theorem k_1666 : Cond.code yX10_count prog_12_method_106_code 5 (some FieldType.int) ∈ Tw := tw_of (tb_7 (List.mem_of_getElem? (i := 164) rfl)) rfl
set_option maxRecDepth 100000 in
theorem k_1667 : Cond.fieldLink "java/lang/String" 9 "java/lang/String" "value" "[B" ∈ Tw := tw_of (tb_7 (List.mem_of_getElem? (i := 165) rfl)) rfl
set_option maxRecDepth 100000 in
theorem k_1668 : Cond.fieldLink "java/lang/String" 15 "java/lang/String" "coder" "B" ∈ Tw := tw_of (tb_7 (List.mem_of_getElem? (i := 166) rfl)) rfl
set_option maxRecDepth 20000 in
theorem inX0 : ∀ w ∈ u_ws RX0 TX0 8, w ∈ Tw := fun w h => tw_of ((by decide +kernel : ∀ w ∈ u_ws RX0 TX0 8, w ∈ lw_tbl) w h) ((by decide +kernel : ∀ w ∈ u_ws RX0 TX0 8, goodWord w = true) w h)
set_option maxRecDepth 20000 in
theorem inX1 : ∀ w ∈ u_ws RX1 TX1 6, w ∈ Tw := fun w h => tw_of ((by decide +kernel : ∀ w ∈ u_ws RX1 TX1 6, w ∈ lw_tbl) w h) ((by decide +kernel : ∀ w ∈ u_ws RX1 TX1 6, goodWord w = true) w h)
set_option maxRecDepth 20000 in
theorem inX2 : ∀ w ∈ u_ws RX2 TX2 5, w ∈ Tw := fun w h => tw_of ((by decide +kernel : ∀ w ∈ u_ws RX2 TX2 5, w ∈ lw_tbl) w h) ((by decide +kernel : ∀ w ∈ u_ws RX2 TX2 5, goodWord w = true) w h)
set_option maxRecDepth 20000 in
theorem inX3 : ∀ w ∈ u_ws RX3 TX3 2, w ∈ Tw := fun w h => tw_of ((by decide +kernel : ∀ w ∈ u_ws RX3 TX3 2, w ∈ lw_tbl) w h) ((by decide +kernel : ∀ w ∈ u_ws RX3 TX3 2, goodWord w = true) w h)
set_option maxRecDepth 20000 in
theorem inX4 : ∀ w ∈ u_ws RX4 TX4 3, w ∈ Tw := fun w h => tw_of ((by decide +kernel : ∀ w ∈ u_ws RX4 TX4 3, w ∈ lw_tbl) w h) ((by decide +kernel : ∀ w ∈ u_ws RX4 TX4 3, goodWord w = true) w h)
set_option maxRecDepth 20000 in
theorem inX5 : ∀ w ∈ u_ws RX5 TX5 5, w ∈ Tw := fun w h => tw_of ((by decide +kernel : ∀ w ∈ u_ws RX5 TX5 5, w ∈ lw_tbl) w h) ((by decide +kernel : ∀ w ∈ u_ws RX5 TX5 5, goodWord w = true) w h)
set_option maxRecDepth 20000 in
theorem inX6 : ∀ w ∈ u_ws RX6 TX6 10, w ∈ Tw := fun w h => tw_of ((by decide +kernel : ∀ w ∈ u_ws RX6 TX6 10, w ∈ lw_tbl) w h) ((by decide +kernel : ∀ w ∈ u_ws RX6 TX6 10, goodWord w = true) w h)
set_option maxRecDepth 20000 in
theorem inX7 : ∀ w ∈ u_ws RX7 TX7 11, w ∈ Tw := fun w h => tw_of ((by decide +kernel : ∀ w ∈ u_ws RX7 TX7 11, w ∈ lw_tbl) w h) ((by decide +kernel : ∀ w ∈ u_ws RX7 TX7 11, goodWord w = true) w h)
set_option maxRecDepth 20000 in
theorem inX8 : ∀ w ∈ u_ws RX8 TX8 7, w ∈ Tw := fun w h => tw_of ((by decide +kernel : ∀ w ∈ u_ws RX8 TX8 7, w ∈ lw_tbl) w h) ((by decide +kernel : ∀ w ∈ u_ws RX8 TX8 7, goodWord w = true) w h)
set_option maxRecDepth 20000 in
theorem inX9 : ∀ w ∈ u_ws RX9 TX9 8, w ∈ Tw := fun w h => tw_of ((by decide +kernel : ∀ w ∈ u_ws RX9 TX9 8, w ∈ lw_tbl) w h) ((by decide +kernel : ∀ w ∈ u_ws RX9 TX9 8, goodWord w = true) w h)
set_option maxRecDepth 20000 in
theorem inX10 : ∀ w ∈ u_ws RX10 TX10 39, w ∈ Tw := fun w h => tw_of ((by decide +kernel : ∀ w ∈ u_ws RX10 TX10 39, w ∈ lw_tbl) w h) ((by decide +kernel : ∀ w ∈ u_ws RX10 TX10 39, goodWord w = true) w h)
