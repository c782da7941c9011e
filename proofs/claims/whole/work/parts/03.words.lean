/-- the words that every contract here rests on: the tables' own that stay good -/
def wU : List Cond := lw_tbl.filter goodWord
theorem wU_in : ∀ w ∈ wU, w ∈ lw_tbl := fun w h => (List.mem_filter.mp h).1
theorem gU : GoodIn wU wU := fun w h => ⟨h, good_of_word (List.mem_filter.mp h).2⟩
theorem uA_int : Cond.arrayClass .int ∈ wU := List.mem_filter.mpr ⟨List.mem_of_getElem? (i := 86) (by decide +kernel), by decide +kernel⟩
theorem uA_boolean : Cond.arrayClass .boolean ∈ wU := List.mem_filter.mpr ⟨List.mem_of_getElem? (i := 866) (by decide +kernel), by decide +kernel⟩
theorem inLX0 : ∀ w ∈ wsX00, w ∈ lw_tbl := by decide +kernel
theorem inUX0 : ∀ w ∈ wsX00, w ∈ wU := fun w h => List.mem_filter.mpr ⟨inLX0 w h, List.all_eq_true.mp (show (wsX00).all goodWord = true by decide +kernel) w h⟩
theorem inLX1 : ∀ w ∈ wsX10, w ∈ lw_tbl := by decide +kernel
theorem inUX1 : ∀ w ∈ wsX10, w ∈ wU := fun w h => List.mem_filter.mpr ⟨inLX1 w h, List.all_eq_true.mp (show (wsX10).all goodWord = true by decide +kernel) w h⟩
theorem inLX2 : ∀ w ∈ wsX20, w ∈ lw_tbl := by decide +kernel
theorem inUX2 : ∀ w ∈ wsX20, w ∈ wU := fun w h => List.mem_filter.mpr ⟨inLX2 w h, List.all_eq_true.mp (show (wsX20).all goodWord = true by decide +kernel) w h⟩
theorem inLX3 : ∀ w ∈ wsX30, w ∈ lw_tbl := by decide +kernel
theorem inUX3 : ∀ w ∈ wsX30, w ∈ wU := fun w h => List.mem_filter.mpr ⟨inLX3 w h, List.all_eq_true.mp (show (wsX30).all goodWord = true by decide +kernel) w h⟩
theorem inLX4 : ∀ w ∈ wsX40, w ∈ lw_tbl := by decide +kernel
theorem inUX4 : ∀ w ∈ wsX40, w ∈ wU := fun w h => List.mem_filter.mpr ⟨inLX4 w h, List.all_eq_true.mp (show (wsX40).all goodWord = true by decide +kernel) w h⟩
theorem inLX5 : ∀ w ∈ wsX50, w ∈ lw_tbl := by decide +kernel
theorem inUX5 : ∀ w ∈ wsX50, w ∈ wU := fun w h => List.mem_filter.mpr ⟨inLX5 w h, List.all_eq_true.mp (show (wsX50).all goodWord = true by decide +kernel) w h⟩
theorem inLX6 : ∀ w ∈ wsX60, w ∈ lw_tbl := by decide +kernel
theorem inUX6 : ∀ w ∈ wsX60, w ∈ wU := fun w h => List.mem_filter.mpr ⟨inLX6 w h, List.all_eq_true.mp (show (wsX60).all goodWord = true by decide +kernel) w h⟩
theorem inLX7 : ∀ w ∈ wsX70, w ∈ lw_tbl := by decide +kernel
theorem inUX7 : ∀ w ∈ wsX70, w ∈ wU := fun w h => List.mem_filter.mpr ⟨inLX7 w h, List.all_eq_true.mp (show (wsX70).all goodWord = true by decide +kernel) w h⟩
theorem inLX8 : ∀ w ∈ wsX80, w ∈ lw_tbl := by decide +kernel
theorem inUX8 : ∀ w ∈ wsX80, w ∈ wU := fun w h => List.mem_filter.mpr ⟨inLX8 w h, List.all_eq_true.mp (show (wsX80).all goodWord = true by decide +kernel) w h⟩
theorem uS_X7_areTwoTowns : Cond.selects RX7 yX7_areTwoTowns yX7_areTwoTowns ∈ wU := List.mem_filter.mpr ⟨List.mem_of_getElem? (i := 0) (by decide +kernel), by decide +kernel⟩
theorem uS_X4_shorten : Cond.selects RX4 yX4_shorten yX4_shorten ∈ wU := List.mem_filter.mpr ⟨List.mem_of_getElem? (i := 1) (by decide +kernel), by decide +kernel⟩
theorem uS_X4_findWays : Cond.selects RX4 yX4_findWays yX4_findWays ∈ wU := List.mem_filter.mpr ⟨List.mem_of_getElem? (i := 2) (by decide +kernel), by decide +kernel⟩
theorem uS_X7_bestSight : Cond.selects RX7 yX7_bestSight yX7_bestSight ∈ wU := List.mem_filter.mpr ⟨List.mem_of_getElem? (i := 3) (by decide +kernel), by decide +kernel⟩
theorem uS_X2_makeRoom : Cond.selects RX2 yX2_makeRoom yX2_makeRoom ∈ wU := List.mem_filter.mpr ⟨List.mem_of_getElem? (i := 4) (by decide +kernel), by decide +kernel⟩
theorem uS_X6_comeToTowns : Cond.selects RX6 yX6_comeToTowns yX6_comeToTowns ∈ wU := List.mem_filter.mpr ⟨List.mem_of_getElem? (i := 5) (by decide +kernel), by decide +kernel⟩
theorem uS_X6_comeHome : Cond.selects RX6 yX6_comeHome yX6_comeHome ∈ wU := List.mem_filter.mpr ⟨List.mem_of_getElem? (i := 6) (by decide +kernel), by decide +kernel⟩
theorem uS_X6_queueUp : Cond.selects RX6 yX6_queueUp yX6_queueUp ∈ wU := List.mem_filter.mpr ⟨List.mem_of_getElem? (i := 7) (by decide +kernel), by decide +kernel⟩
theorem uS_X2_newPart : Cond.selects RX2 yX2_newPart yX2_newPart ∈ wU := List.mem_filter.mpr ⟨List.mem_of_getElem? (i := 8) (by decide +kernel), by decide +kernel⟩
theorem uS_X6_letCrowdsGo : Cond.selects RX6 yX6_letCrowdsGo yX6_letCrowdsGo ∈ wU := List.mem_filter.mpr ⟨List.mem_of_getElem? (i := 9) (by decide +kernel), by decide +kernel⟩
theorem uS_X6_setOut : Cond.selects RX6 yX6_setOut yX6_setOut ∈ wU := List.mem_filter.mpr ⟨List.mem_of_getElem? (i := 10) (by decide +kernel), by decide +kernel⟩
theorem uS_X6_setOutOn : Cond.selects RX6 yX6_setOutOn yX6_setOutOn ∈ wU := List.mem_filter.mpr ⟨List.mem_of_getElem? (i := 11) (by decide +kernel), by decide +kernel⟩
theorem uS_X7_logTheHour : Cond.selects RX7 yX7_logTheHour yX7_logTheHour ∈ wU := List.mem_filter.mpr ⟨List.mem_of_getElem? (i := 12) (by decide +kernel), by decide +kernel⟩
theorem uS_X1_noteLacks : Cond.selects RX1 yX1_noteLacks yX1_noteLacks ∈ wU := List.mem_filter.mpr ⟨List.mem_of_getElem? (i := 13) (by decide +kernel), by decide +kernel⟩
theorem uS_X1_findWaiting : Cond.selects RX1 yX1_findWaiting yX1_findWaiting ∈ wU := List.mem_filter.mpr ⟨List.mem_of_getElem? (i := 14) (by decide +kernel), by decide +kernel⟩
theorem uS_X1_isWithinHours : Cond.selects RX1 yX1_isWithinHours yX1_isWithinHours ∈ wU := List.mem_filter.mpr ⟨List.mem_of_getElem? (i := 15) (by decide +kernel), by decide +kernel⟩
theorem uS_X1_stepOf : Cond.selects RX1 yX1_stepOf yX1_stepOf ∈ wU := List.mem_filter.mpr ⟨List.mem_of_getElem? (i := 16) (by decide +kernel), by decide +kernel⟩
theorem uS_X1_tryWay : Cond.selects RX1 yX1_tryWay yX1_tryWay ∈ wU := List.mem_filter.mpr ⟨List.mem_of_getElem? (i := 17) (by decide +kernel), by decide +kernel⟩
theorem uS_X1_keepWay : Cond.selects RX1 yX1_keepWay yX1_keepWay ∈ wU := List.mem_filter.mpr ⟨List.mem_of_getElem? (i := 18) (by decide +kernel), by decide +kernel⟩
theorem uS_X7_logOf : Cond.selects RX7 yX7_logOf yX7_logOf ∈ wU := List.mem_filter.mpr ⟨List.mem_of_getElem? (i := 19) (by decide +kernel), by decide +kernel⟩
theorem uS_X7_isOver : Cond.selects RX7 yX7_isOver yX7_isOver ∈ wU := List.mem_filter.mpr ⟨List.mem_of_getElem? (i := 20) (by decide +kernel), by decide +kernel⟩
theorem uS_X8_reckons : Cond.selects RX8 yX8_reckons yX8_reckons ∈ wU := List.mem_filter.mpr ⟨List.mem_of_getElem? (i := 21) (by decide +kernel), by decide +kernel⟩
theorem uS_X8_isTown : Cond.selects RX8 yX8_isTown yX8_isTown ∈ wU := List.mem_filter.mpr ⟨List.mem_of_getElem? (i := 22) (by decide +kernel), by decide +kernel⟩
theorem uS_X8_worth : Cond.selects RX8 yX8_worth yX8_worth ∈ wU := List.mem_filter.mpr ⟨List.mem_of_getElem? (i := 23) (by decide +kernel), by decide +kernel⟩
theorem uS_X8_isCrowd : Cond.selects RX8 yX8_isCrowd yX8_isCrowd ∈ wU := List.mem_filter.mpr ⟨List.mem_of_getElem? (i := 24) (by decide +kernel), by decide +kernel⟩
theorem uS_X8_isRoad : Cond.selects RX8 yX8_isRoad yX8_isRoad ∈ wU := List.mem_filter.mpr ⟨List.mem_of_getElem? (i := 25) (by decide +kernel), by decide +kernel⟩
theorem uS_X8_hour : Cond.selects RX8 yX8_hour yX8_hour ∈ wU := List.mem_filter.mpr ⟨List.mem_of_getElem? (i := 26) (by decide +kernel), by decide +kernel⟩
theorem uS_X8_takes : Cond.selects RX8 yX8_takes yX8_takes ∈ wU := List.mem_filter.mpr ⟨List.mem_of_getElem? (i := 27) (by decide +kernel), by decide +kernel⟩
theorem uS_X8_arrives : Cond.selects RX8 yX8_arrives yX8_arrives ∈ wU := List.mem_filter.mpr ⟨List.mem_of_getElem? (i := 28) (by decide +kernel), by decide +kernel⟩
theorem uS_X8_way : Cond.selects RX8 yX8_way yX8_way ∈ wU := List.mem_filter.mpr ⟨List.mem_of_getElem? (i := 29) (by decide +kernel), by decide +kernel⟩
theorem uS_X8_adds : Cond.selects RX8 yX8_adds yX8_adds ∈ wU := List.mem_filter.mpr ⟨List.mem_of_getElem? (i := 30) (by decide +kernel), by decide +kernel⟩
theorem uS_X8_newLump : Cond.selects RX8 yX8_newLump yX8_newLump ∈ wU := List.mem_filter.mpr ⟨List.mem_of_getElem? (i := 31) (by decide +kernel), by decide +kernel⟩
theorem uS_X8_isShut : Cond.selects RX8 yX8_isShut yX8_isShut ∈ wU := List.mem_filter.mpr ⟨List.mem_of_getElem? (i := 32) (by decide +kernel), by decide +kernel⟩
theorem uS_X8_setsOut : Cond.selects RX8 yX8_setsOut yX8_setsOut ∈ wU := List.mem_filter.mpr ⟨List.mem_of_getElem? (i := 33) (by decide +kernel), by decide +kernel⟩
theorem uS_X8_carsIn : Cond.selects RX8 yX8_carsIn yX8_carsIn ∈ wU := List.mem_filter.mpr ⟨List.mem_of_getElem? (i := 34) (by decide +kernel), by decide +kernel⟩
theorem uS_X8_drinks : Cond.selects RX8 yX8_drinks yX8_drinks ∈ wU := List.mem_filter.mpr ⟨List.mem_of_getElem? (i := 35) (by decide +kernel), by decide +kernel⟩
theorem uS_X8_carsAt : Cond.selects RX8 yX8_carsAt yX8_carsAt ∈ wU := List.mem_filter.mpr ⟨List.mem_of_getElem? (i := 36) (by decide +kernel), by decide +kernel⟩
theorem uS_X8_foresees : Cond.selects RX8 yX8_foresees yX8_foresees ∈ wU := List.mem_filter.mpr ⟨List.mem_of_getElem? (i := 37) (by decide +kernel), by decide +kernel⟩
theorem uS_X8_all : Cond.selects RX8 yX8_all yX8_all ∈ wU := List.mem_filter.mpr ⟨List.mem_of_getElem? (i := 38) (by decide +kernel), by decide +kernel⟩
theorem uS_X8_keeps : Cond.selects RX8 yX8_keeps yX8_keeps ∈ wU := List.mem_filter.mpr ⟨List.mem_of_getElem? (i := 39) (by decide +kernel), by decide +kernel⟩
theorem uS_X8_plans : Cond.selects RX8 yX8_plans yX8_plans ∈ wU := List.mem_filter.mpr ⟨List.mem_of_getElem? (i := 40) (by decide +kernel), by decide +kernel⟩
theorem uS_X8_isOver : Cond.selects RX8 yX8_isOver yX8_isOver ∈ wU := List.mem_filter.mpr ⟨List.mem_of_getElem? (i := 41) (by decide +kernel), by decide +kernel⟩
theorem uN_L : Cond.initialized RL ∈ wU := List.mem_filter.mpr ⟨List.mem_of_getElem? (i := 42) (by decide +kernel), by decide +kernel⟩
theorem uN_X7 : Cond.initialized RX7 ∈ wU := List.mem_filter.mpr ⟨List.mem_of_getElem? (i := 43) (by decide +kernel), by decide +kernel⟩
theorem uN_X5 : Cond.initialized RX5 ∈ wU := List.mem_filter.mpr ⟨List.mem_of_getElem? (i := 44) (by decide +kernel), by decide +kernel⟩
theorem uN_X4 : Cond.initialized RX4 ∈ wU := List.mem_filter.mpr ⟨List.mem_of_getElem? (i := 45) (by decide +kernel), by decide +kernel⟩
theorem uN_J7 : Cond.initialized RJ7 ∈ wU := List.mem_filter.mpr ⟨List.mem_of_getElem? (i := 46) (by decide +kernel), by decide +kernel⟩
theorem uN_X0 : Cond.initialized RX0 ∈ wU := List.mem_filter.mpr ⟨List.mem_of_getElem? (i := 47) (by decide +kernel), by decide +kernel⟩
theorem uN_X6 : Cond.initialized RX6 ∈ wU := List.mem_filter.mpr ⟨List.mem_of_getElem? (i := 48) (by decide +kernel), by decide +kernel⟩
theorem uN_X2 : Cond.initialized RX2 ∈ wU := List.mem_filter.mpr ⟨List.mem_of_getElem? (i := 49) (by decide +kernel), by decide +kernel⟩
theorem uN_X1 : Cond.initialized RX1 ∈ wU := List.mem_filter.mpr ⟨List.mem_of_getElem? (i := 50) (by decide +kernel), by decide +kernel⟩
theorem uN_X8 : Cond.initialized RX8 ∈ wU := List.mem_filter.mpr ⟨List.mem_of_getElem? (i := 51) (by decide +kernel), by decide +kernel⟩
theorem uN_X3 : Cond.initialized RX3 ∈ wU := List.mem_filter.mpr ⟨List.mem_of_getElem? (i := 52) (by decide +kernel), by decide +kernel⟩
theorem uN_J9 : Cond.initialized RJ9 ∈ wU := List.mem_filter.mpr ⟨List.mem_of_getElem? (i := 53) (by decide +kernel), by decide +kernel⟩
theorem uN_J10 : Cond.initialized RJ10 ∈ wU := List.mem_filter.mpr ⟨List.mem_of_getElem? (i := 54) (by decide +kernel), by decide +kernel⟩
theorem uL_L_7 : Cond.classLink RL 7 RX7 ∈ wU := List.mem_filter.mpr ⟨List.mem_of_getElem? (i := 55) (by decide +kernel), by decide +kernel⟩
theorem uB_X7 : Cond.instantiable RX7 6 ∈ wU := List.mem_filter.mpr ⟨List.mem_of_getElem? (i := 56) (by decide +kernel), by decide +kernel⟩
theorem uM_L_9 : Cond.methodLink RL 9 yX7_init ∈ wU := List.mem_filter.mpr ⟨List.mem_of_getElem? (i := 57) (by decide +kernel), by decide +kernel⟩
theorem uI_X7_init : Cond.instanceMethod yX7_init ∈ wU := List.mem_filter.mpr ⟨List.mem_of_getElem? (i := 58) (by decide +kernel), by decide +kernel⟩
theorem uC_X7_init : Cond.code yX7_init cX7_init 1 (none) ∈ wU := List.mem_filter.mpr ⟨List.mem_of_getElem? (i := 59) (by decide +kernel), by decide +kernel⟩
theorem uM_X7_3 : Cond.methodLink RX7 3 (⟨"java/lang/Object", "<init>", "()V"⟩ : MethodName) ∈ wU := List.mem_filter.mpr ⟨List.mem_of_getElem? (i := 60) (by decide +kernel), by decide +kernel⟩
theorem uI_java_lang_Object__init_ : Cond.instanceMethod (⟨"java/lang/Object", "<init>", "()V"⟩ : MethodName) ∈ wU := List.mem_filter.mpr ⟨List.mem_of_getElem? (i := 61) (by decide +kernel), by decide +kernel⟩
theorem uC_java_lang_Object__init_ : Cond.code (⟨"java/lang/Object", "<init>", "()V"⟩ : MethodName) object_method_1_code 1 (none) ∈ wU := List.mem_filter.mpr ⟨List.mem_of_getElem? (i := 62) (by decide +kernel), by decide +kernel⟩
theorem uL_X7_9 : Cond.classLink RX7 9 RX5 ∈ wU := List.mem_filter.mpr ⟨List.mem_of_getElem? (i := 63) (by decide +kernel), by decide +kernel⟩
theorem uB_X5 : Cond.instantiable RX5 4 ∈ wU := List.mem_filter.mpr ⟨List.mem_of_getElem? (i := 64) (by decide +kernel), by decide +kernel⟩
theorem uT_X7_11 : Cond.methodLinkNest RX7 11 yX5_init RX7 ∈ lw_tbl := List.mem_of_getElem? (i := 65) (by decide +kernel)
theorem uI_X5_init : Cond.instanceMethod yX5_init ∈ wU := List.mem_filter.mpr ⟨List.mem_of_getElem? (i := 66) (by decide +kernel), by decide +kernel⟩
theorem uC_X5_init : Cond.code yX5_init cX5_init 1 (none) ∈ wU := List.mem_filter.mpr ⟨List.mem_of_getElem? (i := 67) (by decide +kernel), by decide +kernel⟩
theorem uM_X5_3 : Cond.methodLink RX5 3 (⟨"java/lang/Object", "<init>", "()V"⟩ : MethodName) ∈ wU := List.mem_filter.mpr ⟨List.mem_of_getElem? (i := 68) (by decide +kernel), by decide +kernel⟩
theorem uF_X5_9 : Cond.fieldLink RX5 9 "ShadowRoads$Towns" "far" "[I" ∈ wU := List.mem_filter.mpr ⟨List.mem_of_getElem? (i := 69) (by decide +kernel), by decide +kernel⟩
theorem uF_X5_15 : Cond.fieldLink RX5 15 "ShadowRoads$Towns" "clouds" "[I" ∈ wU := List.mem_filter.mpr ⟨List.mem_of_getElem? (i := 70) (by decide +kernel), by decide +kernel⟩
theorem uF_X7_84 : Cond.fieldLink RX7 84 "ShadowRoads$Towns" "clouds" "[I" ∈ wU := List.mem_filter.mpr ⟨List.mem_of_getElem? (i := 71) (by decide +kernel), by decide +kernel⟩
theorem uF_X5_18 : Cond.fieldLink RX5 18 "ShadowRoads$Towns" "half" "I" ∈ wU := List.mem_filter.mpr ⟨List.mem_of_getElem? (i := 72) (by decide +kernel), by decide +kernel⟩
theorem uF_X7_74 : Cond.fieldLink RX7 74 "ShadowRoads$Towns" "half" "I" ∈ wU := List.mem_filter.mpr ⟨List.mem_of_getElem? (i := 73) (by decide +kernel), by decide +kernel⟩
theorem uF_X5_22 : Cond.fieldLink RX5 22 "ShadowRoads$Towns" "count" "I" ∈ wU := List.mem_filter.mpr ⟨List.mem_of_getElem? (i := 74) (by decide +kernel), by decide +kernel⟩
theorem uF_X7_59 : Cond.fieldLink RX7 59 "ShadowRoads$Towns" "count" "I" ∈ wU := List.mem_filter.mpr ⟨List.mem_of_getElem? (i := 75) (by decide +kernel), by decide +kernel⟩
theorem uF_X6_104 : Cond.fieldLink RX6 104 "ShadowRoads$Towns" "count" "I" ∈ wU := List.mem_filter.mpr ⟨List.mem_of_getElem? (i := 76) (by decide +kernel), by decide +kernel⟩
theorem uA_86 : Cond.arrayClass .int ∈ lw_tbl := List.mem_of_getElem? (i := 86) (by decide +kernel)
theorem uL_X7_16 : Cond.classLink RX7 16 RX4 ∈ wU := List.mem_filter.mpr ⟨List.mem_of_getElem? (i := 87) (by decide +kernel), by decide +kernel⟩
theorem uB_X4 : Cond.instantiable RX4 9 ∈ wU := List.mem_filter.mpr ⟨List.mem_of_getElem? (i := 88) (by decide +kernel), by decide +kernel⟩
theorem uM_X7_18 : Cond.methodLink RX7 18 yX4_init ∈ wU := List.mem_filter.mpr ⟨List.mem_of_getElem? (i := 89) (by decide +kernel), by decide +kernel⟩
theorem uI_X4_init : Cond.instanceMethod yX4_init ∈ wU := List.mem_filter.mpr ⟨List.mem_of_getElem? (i := 90) (by decide +kernel), by decide +kernel⟩
theorem uC_X4_init : Cond.code yX4_init cX4_init 2 (none) ∈ wU := List.mem_filter.mpr ⟨List.mem_of_getElem? (i := 91) (by decide +kernel), by decide +kernel⟩
theorem uM_X4_3 : Cond.methodLink RX4 3 (⟨"java/lang/Object", "<init>", "()V"⟩ : MethodName) ∈ wU := List.mem_filter.mpr ⟨List.mem_of_getElem? (i := 92) (by decide +kernel), by decide +kernel⟩
theorem uM_X4_36 : Cond.methodLink RX4 36 yJ7_fill_53178 ∈ wU := List.mem_filter.mpr ⟨List.mem_of_getElem? (i := 93) (by decide +kernel), by decide +kernel⟩
theorem uZ_J7_fill_53178 : Cond.static yJ7_fill_53178 ∈ wU := List.mem_filter.mpr ⟨List.mem_of_getElem? (i := 94) (by decide +kernel), by decide +kernel⟩
theorem uC_J7_fill_53178 : Cond.code yJ7_fill_53178 cJ7_fill_53178 4 (none) ∈ wU := List.mem_filter.mpr ⟨List.mem_of_getElem? (i := 95) (by decide +kernel), by decide +kernel⟩
theorem uF_X4_9 : Cond.fieldLink RX4 9 "ShadowRoads$Net" "from" "[I" ∈ wU := List.mem_filter.mpr ⟨List.mem_of_getElem? (i := 96) (by decide +kernel), by decide +kernel⟩
theorem uF_X6_177 : Cond.fieldLink RX6 177 "ShadowRoads$Net" "from" "[I" ∈ wU := List.mem_filter.mpr ⟨List.mem_of_getElem? (i := 97) (by decide +kernel), by decide +kernel⟩
theorem uF_X4_15 : Cond.fieldLink RX4 15 "ShadowRoads$Net" "to" "[I" ∈ wU := List.mem_filter.mpr ⟨List.mem_of_getElem? (i := 98) (by decide +kernel), by decide +kernel⟩
theorem uF_X6_126 : Cond.fieldLink RX6 126 "ShadowRoads$Net" "to" "[I" ∈ wU := List.mem_filter.mpr ⟨List.mem_of_getElem? (i := 99) (by decide +kernel), by decide +kernel⟩
theorem uF_X4_18 : Cond.fieldLink RX4 18 "ShadowRoads$Net" "cars" "[I" ∈ wU := List.mem_filter.mpr ⟨List.mem_of_getElem? (i := 100) (by decide +kernel), by decide +kernel⟩
theorem uF_X4_21 : Cond.fieldLink RX4 21 "ShadowRoads$Net" "hours" "[I" ∈ wU := List.mem_filter.mpr ⟨List.mem_of_getElem? (i := 101) (by decide +kernel), by decide +kernel⟩
theorem uF_X6_174 : Cond.fieldLink RX6 174 "ShadowRoads$Net" "hours" "[I" ∈ wU := List.mem_filter.mpr ⟨List.mem_of_getElem? (i := 102) (by decide +kernel), by decide +kernel⟩
theorem uF_X4_24 : Cond.fieldLink RX4 24 "ShadowRoads$Net" "shutFrom" "[I" ∈ wU := List.mem_filter.mpr ⟨List.mem_of_getElem? (i := 103) (by decide +kernel), by decide +kernel⟩
theorem uF_X7_130 : Cond.fieldLink RX7 130 "ShadowRoads$Net" "shutFrom" "[I" ∈ wU := List.mem_filter.mpr ⟨List.mem_of_getElem? (i := 104) (by decide +kernel), by decide +kernel⟩
theorem uF_X4_27 : Cond.fieldLink RX4 27 "ShadowRoads$Net" "shutTo" "[I" ∈ wU := List.mem_filter.mpr ⟨List.mem_of_getElem? (i := 105) (by decide +kernel), by decide +kernel⟩
theorem uF_X7_133 : Cond.fieldLink RX7 133 "ShadowRoads$Net" "shutTo" "[I" ∈ wU := List.mem_filter.mpr ⟨List.mem_of_getElem? (i := 106) (by decide +kernel), by decide +kernel⟩
theorem uF_X4_30 : Cond.fieldLink RX4 30 "ShadowRoads$Net" "least" "[I" ∈ wU := List.mem_filter.mpr ⟨List.mem_of_getElem? (i := 107) (by decide +kernel), by decide +kernel⟩
theorem uF_X4_33 : Cond.fieldLink RX4 33 "ShadowRoads$Net" "way" "[I" ∈ wU := List.mem_filter.mpr ⟨List.mem_of_getElem? (i := 108) (by decide +kernel), by decide +kernel⟩
theorem uF_X4_42 : Cond.fieldLink RX4 42 "ShadowRoads$Net" "count" "I" ∈ wU := List.mem_filter.mpr ⟨List.mem_of_getElem? (i := 109) (by decide +kernel), by decide +kernel⟩
theorem uF_X7_90 : Cond.fieldLink RX7 90 "ShadowRoads$Net" "count" "I" ∈ wU := List.mem_filter.mpr ⟨List.mem_of_getElem? (i := 110) (by decide +kernel), by decide +kernel⟩
theorem uF_X6_84 : Cond.fieldLink RX6 84 "ShadowRoads$Net" "count" "I" ∈ wU := List.mem_filter.mpr ⟨List.mem_of_getElem? (i := 111) (by decide +kernel), by decide +kernel⟩
theorem uL_X7_23 : Cond.classLink RX7 23 RX0 ∈ wU := List.mem_filter.mpr ⟨List.mem_of_getElem? (i := 131) (by decide +kernel), by decide +kernel⟩
theorem uB_X0 : Cond.instantiable RX0 5 ∈ wU := List.mem_filter.mpr ⟨List.mem_of_getElem? (i := 132) (by decide +kernel), by decide +kernel⟩
theorem uT_X7_25 : Cond.methodLinkNest RX7 25 yX0_init RX7 ∈ lw_tbl := List.mem_of_getElem? (i := 133) (by decide +kernel)
theorem uI_X0_init : Cond.instanceMethod yX0_init ∈ wU := List.mem_filter.mpr ⟨List.mem_of_getElem? (i := 134) (by decide +kernel), by decide +kernel⟩
theorem uC_X0_init : Cond.code yX0_init cX0_init 1 (none) ∈ wU := List.mem_filter.mpr ⟨List.mem_of_getElem? (i := 135) (by decide +kernel), by decide +kernel⟩
theorem uM_X0_3 : Cond.methodLink RX0 3 (⟨"java/lang/Object", "<init>", "()V"⟩ : MethodName) ∈ wU := List.mem_filter.mpr ⟨List.mem_of_getElem? (i := 136) (by decide +kernel), by decide +kernel⟩
theorem uF_X0_9 : Cond.fieldLink RX0 9 "ShadowRoads$Crowds" "town" "[I" ∈ wU := List.mem_filter.mpr ⟨List.mem_of_getElem? (i := 137) (by decide +kernel), by decide +kernel⟩
theorem uF_X7_110 : Cond.fieldLink RX7 110 "ShadowRoads$Crowds" "town" "[I" ∈ wU := List.mem_filter.mpr ⟨List.mem_of_getElem? (i := 138) (by decide +kernel), by decide +kernel⟩
theorem uF_X6_161 : Cond.fieldLink RX6 161 "ShadowRoads$Crowds" "town" "[I" ∈ wU := List.mem_filter.mpr ⟨List.mem_of_getElem? (i := 139) (by decide +kernel), by decide +kernel⟩
theorem uF_X0_15 : Cond.fieldLink RX0 15 "ShadowRoads$Crowds" "cars" "[I" ∈ wU := List.mem_filter.mpr ⟨List.mem_of_getElem? (i := 140) (by decide +kernel), by decide +kernel⟩
theorem uF_X6_67 : Cond.fieldLink RX6 67 "ShadowRoads$Crowds" "cars" "[I" ∈ wU := List.mem_filter.mpr ⟨List.mem_of_getElem? (i := 141) (by decide +kernel), by decide +kernel⟩
theorem uF_X7_119 : Cond.fieldLink RX7 119 "ShadowRoads$Crowds" "cars" "[I" ∈ wU := List.mem_filter.mpr ⟨List.mem_of_getElem? (i := 142) (by decide +kernel), by decide +kernel⟩
theorem uF_X0_18 : Cond.fieldLink RX0 18 "ShadowRoads$Crowds" "home" "[I" ∈ wU := List.mem_filter.mpr ⟨List.mem_of_getElem? (i := 143) (by decide +kernel), by decide +kernel⟩
theorem uF_X7_113 : Cond.fieldLink RX7 113 "ShadowRoads$Crowds" "home" "[I" ∈ wU := List.mem_filter.mpr ⟨List.mem_of_getElem? (i := 144) (by decide +kernel), by decide +kernel⟩
theorem uF_X6_143 : Cond.fieldLink RX6 143 "ShadowRoads$Crowds" "home" "[I" ∈ wU := List.mem_filter.mpr ⟨List.mem_of_getElem? (i := 145) (by decide +kernel), by decide +kernel⟩
theorem uF_X0_21 : Cond.fieldLink RX0 21 "ShadowRoads$Crowds" "count" "I" ∈ wU := List.mem_filter.mpr ⟨List.mem_of_getElem? (i := 146) (by decide +kernel), by decide +kernel⟩
theorem uF_X7_103 : Cond.fieldLink RX7 103 "ShadowRoads$Crowds" "count" "I" ∈ wU := List.mem_filter.mpr ⟨List.mem_of_getElem? (i := 147) (by decide +kernel), by decide +kernel⟩
theorem uF_X1_110 : Cond.fieldLink RX1 110 "ShadowRoads$Crowds" "count" "I" ∈ wU := List.mem_filter.mpr ⟨List.mem_of_getElem? (i := 148) (by decide +kernel), by decide +kernel⟩
theorem uF_X6_160 : Cond.fieldLink RX6 160 "ShadowRoads$Crowds" "count" "I" ∈ wU := List.mem_filter.mpr ⟨List.mem_of_getElem? (i := 149) (by decide +kernel), by decide +kernel⟩
theorem uF_X6_62 : Cond.fieldLink RX6 62 "ShadowRoads$Crowds" "allCars" "I" ∈ wU := List.mem_filter.mpr ⟨List.mem_of_getElem? (i := 150) (by decide +kernel), by decide +kernel⟩
theorem uF_X0_25 : Cond.fieldLink RX0 25 "ShadowRoads$Crowds" "allCars" "I" ∈ wU := List.mem_filter.mpr ⟨List.mem_of_getElem? (i := 151) (by decide +kernel), by decide +kernel⟩
theorem uL_X7_30 : Cond.classLink RX7 30 RX6 ∈ wU := List.mem_filter.mpr ⟨List.mem_of_getElem? (i := 163) (by decide +kernel), by decide +kernel⟩
theorem uB_X6 : Cond.instantiable RX6 15 ∈ wU := List.mem_filter.mpr ⟨List.mem_of_getElem? (i := 164) (by decide +kernel), by decide +kernel⟩
theorem uM_X7_32 : Cond.methodLink RX7 32 yX6_init ∈ wU := List.mem_filter.mpr ⟨List.mem_of_getElem? (i := 165) (by decide +kernel), by decide +kernel⟩
theorem uI_X6_init : Cond.instanceMethod yX6_init ∈ wU := List.mem_filter.mpr ⟨List.mem_of_getElem? (i := 166) (by decide +kernel), by decide +kernel⟩
theorem uC_X6_init : Cond.code yX6_init cX6_init 4 (none) ∈ wU := List.mem_filter.mpr ⟨List.mem_of_getElem? (i := 167) (by decide +kernel), by decide +kernel⟩
theorem uM_X6_3 : Cond.methodLink RX6 3 (⟨"java/lang/Object", "<init>", "()V"⟩ : MethodName) ∈ wU := List.mem_filter.mpr ⟨List.mem_of_getElem? (i := 168) (by decide +kernel), by decide +kernel⟩
theorem uL_X6_9 : Cond.classLink RX6 9 RX2 ∈ wU := List.mem_filter.mpr ⟨List.mem_of_getElem? (i := 169) (by decide +kernel), by decide +kernel⟩
theorem uB_X2 : Cond.instantiable RX2 9 ∈ wU := List.mem_filter.mpr ⟨List.mem_of_getElem? (i := 170) (by decide +kernel), by decide +kernel⟩
theorem uM_X6_11 : Cond.methodLink RX6 11 yX2_init ∈ wU := List.mem_filter.mpr ⟨List.mem_of_getElem? (i := 171) (by decide +kernel), by decide +kernel⟩
theorem uI_X2_init : Cond.instanceMethod yX2_init ∈ wU := List.mem_filter.mpr ⟨List.mem_of_getElem? (i := 172) (by decide +kernel), by decide +kernel⟩
theorem uC_X2_init : Cond.code yX2_init cX2_init 1 (none) ∈ wU := List.mem_filter.mpr ⟨List.mem_of_getElem? (i := 173) (by decide +kernel), by decide +kernel⟩
theorem uM_X2_3 : Cond.methodLink RX2 3 (⟨"java/lang/Object", "<init>", "()V"⟩ : MethodName) ∈ wU := List.mem_filter.mpr ⟨List.mem_of_getElem? (i := 174) (by decide +kernel), by decide +kernel⟩
theorem uM_X2_37 : Cond.methodLink RX2 37 yJ7_fill_53178 ∈ wU := List.mem_filter.mpr ⟨List.mem_of_getElem? (i := 175) (by decide +kernel), by decide +kernel⟩
theorem uF_X2_9 : Cond.fieldLink RX2 9 "ShadowRoads$Lines" "first" "[I" ∈ wU := List.mem_filter.mpr ⟨List.mem_of_getElem? (i := 176) (by decide +kernel), by decide +kernel⟩
theorem uF_X2_15 : Cond.fieldLink RX2 15 "ShadowRoads$Lines" "last" "[I" ∈ wU := List.mem_filter.mpr ⟨List.mem_of_getElem? (i := 177) (by decide +kernel), by decide +kernel⟩
theorem uF_X2_18 : Cond.fieldLink RX2 18 "ShadowRoads$Lines" "sum" "[I" ∈ wU := List.mem_filter.mpr ⟨List.mem_of_getElem? (i := 178) (by decide +kernel), by decide +kernel⟩
theorem uF_X6_74 : Cond.fieldLink RX6 74 "ShadowRoads$Lines" "sum" "[I" ∈ wU := List.mem_filter.mpr ⟨List.mem_of_getElem? (i := 179) (by decide +kernel), by decide +kernel⟩
theorem uF_X2_21 : Cond.fieldLink RX2 21 "ShadowRoads$Lines" "crowd" "[I" ∈ wU := List.mem_filter.mpr ⟨List.mem_of_getElem? (i := 180) (by decide +kernel), by decide +kernel⟩
theorem uF_X2_24 : Cond.fieldLink RX2 24 "ShadowRoads$Lines" "cars" "[I" ∈ wU := List.mem_filter.mpr ⟨List.mem_of_getElem? (i := 181) (by decide +kernel), by decide +kernel⟩
theorem uF_X2_27 : Cond.fieldLink RX2 27 "ShadowRoads$Lines" "due" "[I" ∈ wU := List.mem_filter.mpr ⟨List.mem_of_getElem? (i := 182) (by decide +kernel), by decide +kernel⟩
theorem uF_X2_30 : Cond.fieldLink RX2 30 "ShadowRoads$Lines" "next" "[I" ∈ wU := List.mem_filter.mpr ⟨List.mem_of_getElem? (i := 183) (by decide +kernel), by decide +kernel⟩
theorem uF_X2_47 : Cond.fieldLink RX2 47 "ShadowRoads$Lines" "used" "I" ∈ wU := List.mem_filter.mpr ⟨List.mem_of_getElem? (i := 184) (by decide +kernel), by decide +kernel⟩
theorem uF_X2_33 : Cond.fieldLink RX2 33 "ShadowRoads$Lines" "free" "I" ∈ wU := List.mem_filter.mpr ⟨List.mem_of_getElem? (i := 185) (by decide +kernel), by decide +kernel⟩
theorem uF_X6_44 : Cond.fieldLink RX6 44 "ShadowRoads$Traffic" "towns" "LShadowRoads$Towns;" ∈ wU := List.mem_filter.mpr ⟨List.mem_of_getElem? (i := 205) (by decide +kernel), by decide +kernel⟩
theorem uF_X6_48 : Cond.fieldLink RX6 48 "ShadowRoads$Traffic" "net" "LShadowRoads$Net;" ∈ wU := List.mem_filter.mpr ⟨List.mem_of_getElem? (i := 206) (by decide +kernel), by decide +kernel⟩
theorem uF_X6_52 : Cond.fieldLink RX6 52 "ShadowRoads$Traffic" "crowds" "LShadowRoads$Crowds;" ∈ wU := List.mem_filter.mpr ⟨List.mem_of_getElem? (i := 207) (by decide +kernel), by decide +kernel⟩
theorem uF_X1_106 : Cond.fieldLink RX1 106 "ShadowRoads$Traffic" "crowds" "LShadowRoads$Crowds;" ∈ wU := List.mem_filter.mpr ⟨List.mem_of_getElem? (i := 208) (by decide +kernel), by decide +kernel⟩
theorem uF_X6_12 : Cond.fieldLink RX6 12 "ShadowRoads$Traffic" "lines" "LShadowRoads$Lines;" ∈ wU := List.mem_filter.mpr ⟨List.mem_of_getElem? (i := 209) (by decide +kernel), by decide +kernel⟩
theorem uF_X6_18 : Cond.fieldLink RX6 18 "ShadowRoads$Traffic" "hour" "[I" ∈ wU := List.mem_filter.mpr ⟨List.mem_of_getElem? (i := 210) (by decide +kernel), by decide +kernel⟩
theorem uF_X7_126 : Cond.fieldLink RX7 126 "ShadowRoads$Traffic" "hour" "[I" ∈ wU := List.mem_filter.mpr ⟨List.mem_of_getElem? (i := 211) (by decide +kernel), by decide +kernel⟩
theorem uF_X1_122 : Cond.fieldLink RX1 122 "ShadowRoads$Traffic" "hour" "[I" ∈ wU := List.mem_filter.mpr ⟨List.mem_of_getElem? (i := 212) (by decide +kernel), by decide +kernel⟩
theorem uF_X6_22 : Cond.fieldLink RX6 22 "ShadowRoads$Traffic" "homeCars" "[I" ∈ wU := List.mem_filter.mpr ⟨List.mem_of_getElem? (i := 213) (by decide +kernel), by decide +kernel⟩
theorem uF_X7_198 : Cond.fieldLink RX7 198 "ShadowRoads$Traffic" "homeCars" "[I" ∈ wU := List.mem_filter.mpr ⟨List.mem_of_getElem? (i := 214) (by decide +kernel), by decide +kernel⟩
theorem uF_X6_25 : Cond.fieldLink RX6 25 "ShadowRoads$Traffic" "cameHome" "[I" ∈ wU := List.mem_filter.mpr ⟨List.mem_of_getElem? (i := 215) (by decide +kernel), by decide +kernel⟩
theorem uF_X6_28 : Cond.fieldLink RX6 28 "ShadowRoads$Traffic" "there" "[I" ∈ wU := List.mem_filter.mpr ⟨List.mem_of_getElem? (i := 216) (by decide +kernel), by decide +kernel⟩
theorem uF_X1_100 : Cond.fieldLink RX1 100 "ShadowRoads$Traffic" "there" "[I" ∈ wU := List.mem_filter.mpr ⟨List.mem_of_getElem? (i := 217) (by decide +kernel), by decide +kernel⟩
theorem uF_X7_107 : Cond.fieldLink RX7 107 "ShadowRoads$Traffic" "there" "[I" ∈ wU := List.mem_filter.mpr ⟨List.mem_of_getElem? (i := 218) (by decide +kernel), by decide +kernel⟩
theorem uF_X6_31 : Cond.fieldLink RX6 31 "ShadowRoads$Traffic" "water" "[I" ∈ wU := List.mem_filter.mpr ⟨List.mem_of_getElem? (i := 219) (by decide +kernel), by decide +kernel⟩
theorem uF_X7_67 : Cond.fieldLink RX7 67 "ShadowRoads$Traffic" "water" "[I" ∈ wU := List.mem_filter.mpr ⟨List.mem_of_getElem? (i := 220) (by decide +kernel), by decide +kernel⟩
theorem uF_X1_103 : Cond.fieldLink RX1 103 "ShadowRoads$Traffic" "water" "[I" ∈ wU := List.mem_filter.mpr ⟨List.mem_of_getElem? (i := 221) (by decide +kernel), by decide +kernel⟩
theorem uF_X6_34 : Cond.fieldLink RX6 34 "ShadowRoads$Traffic" "lacked" "[I" ∈ wU := List.mem_filter.mpr ⟨List.mem_of_getElem? (i := 222) (by decide +kernel), by decide +kernel⟩
theorem uF_X7_204 : Cond.fieldLink RX7 204 "ShadowRoads$Traffic" "lacked" "[I" ∈ wU := List.mem_filter.mpr ⟨List.mem_of_getElem? (i := 223) (by decide +kernel), by decide +kernel⟩
theorem uF_X6_37 : Cond.fieldLink RX6 37 "ShadowRoads$Traffic" "gone" "[I" ∈ wU := List.mem_filter.mpr ⟨List.mem_of_getElem? (i := 224) (by decide +kernel), by decide +kernel⟩
theorem uF_X7_217 : Cond.fieldLink RX7 217 "ShadowRoads$Traffic" "gone" "[I" ∈ wU := List.mem_filter.mpr ⟨List.mem_of_getElem? (i := 225) (by decide +kernel), by decide +kernel⟩
theorem uF_X6_56 : Cond.fieldLink RX6 56 "ShadowRoads$Traffic" "now" "I" ∈ wU := List.mem_filter.mpr ⟨List.mem_of_getElem? (i := 226) (by decide +kernel), by decide +kernel⟩
theorem uF_X1_39 : Cond.fieldLink RX1 39 "ShadowRoads$Traffic" "now" "I" ∈ wU := List.mem_filter.mpr ⟨List.mem_of_getElem? (i := 227) (by decide +kernel), by decide +kernel⟩
theorem uF_X7_87 : Cond.fieldLink RX7 87 "ShadowRoads$Traffic" "now" "I" ∈ wU := List.mem_filter.mpr ⟨List.mem_of_getElem? (i := 228) (by decide +kernel), by decide +kernel⟩
theorem uF_X6_59 : Cond.fieldLink RX6 59 "ShadowRoads$Traffic" "allHome" "I" ∈ wU := List.mem_filter.mpr ⟨List.mem_of_getElem? (i := 229) (by decide +kernel), by decide +kernel⟩
theorem uF_X7_207 : Cond.fieldLink RX7 207 "ShadowRoads$Traffic" "allHome" "I" ∈ wU := List.mem_filter.mpr ⟨List.mem_of_getElem? (i := 230) (by decide +kernel), by decide +kernel⟩
theorem uF_X6_40 : Cond.fieldLink RX6 40 "ShadowRoads$Traffic" "lastHome" "I" ∈ wU := List.mem_filter.mpr ⟨List.mem_of_getElem? (i := 231) (by decide +kernel), by decide +kernel⟩
theorem uF_X1_128 : Cond.fieldLink RX1 128 "ShadowRoads$Traffic" "lastHome" "I" ∈ wU := List.mem_filter.mpr ⟨List.mem_of_getElem? (i := 232) (by decide +kernel), by decide +kernel⟩
theorem uF_X1_70 : Cond.fieldLink RX1 70 "ShadowRoads$Traffic" "waited" "I" ∈ wU := List.mem_filter.mpr ⟨List.mem_of_getElem? (i := 233) (by decide +kernel), by decide +kernel⟩
theorem uF_X6_123 : Cond.fieldLink RX6 123 "ShadowRoads$Traffic" "waited" "I" ∈ wU := List.mem_filter.mpr ⟨List.mem_of_getElem? (i := 234) (by decide +kernel), by decide +kernel⟩
theorem uF_X7_214 : Cond.fieldLink RX7 214 "ShadowRoads$Traffic" "waited" "I" ∈ wU := List.mem_filter.mpr ⟨List.mem_of_getElem? (i := 235) (by decide +kernel), by decide +kernel⟩
theorem uL_X7_39 : Cond.classLink RX7 39 RX3 ∈ wU := List.mem_filter.mpr ⟨List.mem_of_getElem? (i := 267) (by decide +kernel), by decide +kernel⟩
theorem uA_268 : Cond.arrayOver (.object "ShadowRoads$Log") ∈ lw_tbl := List.mem_of_getElem? (i := 268) (by decide +kernel)
theorem uL_X7_45 : Cond.classLink RX7 45 RX1 ∈ wU := List.mem_filter.mpr ⟨List.mem_of_getElem? (i := 269) (by decide +kernel), by decide +kernel⟩
theorem uB_X1 : Cond.instantiable RX1 12 ∈ wU := List.mem_filter.mpr ⟨List.mem_of_getElem? (i := 270) (by decide +kernel), by decide +kernel⟩
theorem uM_X7_47 : Cond.methodLink RX7 47 yX1_init ∈ wU := List.mem_filter.mpr ⟨List.mem_of_getElem? (i := 271) (by decide +kernel), by decide +kernel⟩
theorem uI_X1_init : Cond.instanceMethod yX1_init ∈ wU := List.mem_filter.mpr ⟨List.mem_of_getElem? (i := 272) (by decide +kernel), by decide +kernel⟩
theorem uC_X1_init : Cond.code yX1_init cX1_init 3 (none) ∈ wU := List.mem_filter.mpr ⟨List.mem_of_getElem? (i := 273) (by decide +kernel), by decide +kernel⟩
theorem uM_X1_3 : Cond.methodLink RX1 3 (⟨"java/lang/Object", "<init>", "()V"⟩ : MethodName) ∈ wU := List.mem_filter.mpr ⟨List.mem_of_getElem? (i := 274) (by decide +kernel), by decide +kernel⟩
theorem uF_X1_21 : Cond.fieldLink RX1 21 "ShadowRoads$Foresight" "truth" "LShadowRoads$Traffic;" ∈ wU := List.mem_filter.mpr ⟨List.mem_of_getElem? (i := 275) (by decide +kernel), by decide +kernel⟩
theorem uF_X1_25 : Cond.fieldLink RX1 25 "ShadowRoads$Foresight" "trial" "LShadowRoads$Traffic;" ∈ wU := List.mem_filter.mpr ⟨List.mem_of_getElem? (i := 276) (by decide +kernel), by decide +kernel⟩
theorem uF_X1_9 : Cond.fieldLink RX1 9 "ShadowRoads$Foresight" "lackHour" "[I" ∈ wU := List.mem_filter.mpr ⟨List.mem_of_getElem? (i := 277) (by decide +kernel), by decide +kernel⟩
theorem uF_X7_160 : Cond.fieldLink RX7 160 "ShadowRoads$Foresight" "lackHour" "[I" ∈ wU := List.mem_filter.mpr ⟨List.mem_of_getElem? (i := 278) (by decide +kernel), by decide +kernel⟩
theorem uF_X1_15 : Cond.fieldLink RX1 15 "ShadowRoads$Foresight" "waiting" "[I" ∈ wU := List.mem_filter.mpr ⟨List.mem_of_getElem? (i := 279) (by decide +kernel), by decide +kernel⟩
theorem uF_X1_18 : Cond.fieldLink RX1 18 "ShadowRoads$Foresight" "bestStep" "[I" ∈ wU := List.mem_filter.mpr ⟨List.mem_of_getElem? (i := 280) (by decide +kernel), by decide +kernel⟩
theorem uF_X1_28 : Cond.fieldLink RX1 28 "ShadowRoads$Foresight" "foreseen" "Z" ∈ wU := List.mem_filter.mpr ⟨List.mem_of_getElem? (i := 281) (by decide +kernel), by decide +kernel⟩
theorem uF_X1_67 : Cond.fieldLink RX1 67 "ShadowRoads$Foresight" "last" "I" ∈ wU := List.mem_filter.mpr ⟨List.mem_of_getElem? (i := 282) (by decide +kernel), by decide +kernel⟩
theorem uF_X7_154 : Cond.fieldLink RX7 154 "ShadowRoads$Foresight" "last" "I" ∈ wU := List.mem_filter.mpr ⟨List.mem_of_getElem? (i := 283) (by decide +kernel), by decide +kernel⟩
theorem uF_X1_73 : Cond.fieldLink RX1 73 "ShadowRoads$Foresight" "carHours" "I" ∈ wU := List.mem_filter.mpr ⟨List.mem_of_getElem? (i := 284) (by decide +kernel), by decide +kernel⟩
theorem uF_X7_157 : Cond.fieldLink RX7 157 "ShadowRoads$Foresight" "carHours" "I" ∈ wU := List.mem_filter.mpr ⟨List.mem_of_getElem? (i := 285) (by decide +kernel), by decide +kernel⟩
theorem uF_X1_32 : Cond.fieldLink RX1 32 "ShadowRoads$Foresight" "planMade" "Z" ∈ wU := List.mem_filter.mpr ⟨List.mem_of_getElem? (i := 286) (by decide +kernel), by decide +kernel⟩
theorem uF_X1_35 : Cond.fieldLink RX1 35 "ShadowRoads$Foresight" "waitingCount" "I" ∈ wU := List.mem_filter.mpr ⟨List.mem_of_getElem? (i := 287) (by decide +kernel), by decide +kernel⟩
theorem uF_X1_83 : Cond.fieldLink RX1 83 "ShadowRoads$Foresight" "bestLast" "I" ∈ wU := List.mem_filter.mpr ⟨List.mem_of_getElem? (i := 288) (by decide +kernel), by decide +kernel⟩
theorem uF_X7_173 : Cond.fieldLink RX7 173 "ShadowRoads$Foresight" "bestLast" "I" ∈ wU := List.mem_filter.mpr ⟨List.mem_of_getElem? (i := 289) (by decide +kernel), by decide +kernel⟩
theorem uF_X1_89 : Cond.fieldLink RX1 89 "ShadowRoads$Foresight" "bestWaited" "I" ∈ wU := List.mem_filter.mpr ⟨List.mem_of_getElem? (i := 290) (by decide +kernel), by decide +kernel⟩
theorem uF_X7_176 : Cond.fieldLink RX7 176 "ShadowRoads$Foresight" "bestWaited" "I" ∈ wU := List.mem_filter.mpr ⟨List.mem_of_getElem? (i := 291) (by decide +kernel), by decide +kernel⟩
theorem uF_X7_12 : Cond.fieldLink RX7 12 "ShadowRoads" "towns" "LShadowRoads$Towns;" ∈ wU := List.mem_filter.mpr ⟨List.mem_of_getElem? (i := 317) (by decide +kernel), by decide +kernel⟩
theorem uF_X7_19 : Cond.fieldLink RX7 19 "ShadowRoads" "net" "LShadowRoads$Net;" ∈ wU := List.mem_filter.mpr ⟨List.mem_of_getElem? (i := 318) (by decide +kernel), by decide +kernel⟩
theorem uF_X7_26 : Cond.fieldLink RX7 26 "ShadowRoads" "crowds" "LShadowRoads$Crowds;" ∈ wU := List.mem_filter.mpr ⟨List.mem_of_getElem? (i := 319) (by decide +kernel), by decide +kernel⟩
theorem uF_X7_35 : Cond.fieldLink RX7 35 "ShadowRoads" "truth" "LShadowRoads$Traffic;" ∈ wU := List.mem_filter.mpr ⟨List.mem_of_getElem? (i := 320) (by decide +kernel), by decide +kernel⟩
theorem uF_X7_41 : Cond.fieldLink RX7 41 "ShadowRoads" "logs" "[LShadowRoads$Log;" ∈ wU := List.mem_filter.mpr ⟨List.mem_of_getElem? (i := 321) (by decide +kernel), by decide +kernel⟩
theorem uF_X7_50 : Cond.fieldLink RX7 50 "ShadowRoads" "foresight" "LShadowRoads$Foresight;" ∈ wU := List.mem_filter.mpr ⟨List.mem_of_getElem? (i := 322) (by decide +kernel), by decide +kernel⟩
theorem uM_L_13 : Cond.methodLink RL 13 yX7_town ∈ wU := List.mem_filter.mpr ⟨List.mem_of_getElem? (i := 336) (by decide +kernel), by decide +kernel⟩
theorem uI_X7_town : Cond.instanceMethod yX7_town ∈ wU := List.mem_filter.mpr ⟨List.mem_of_getElem? (i := 337) (by decide +kernel), by decide +kernel⟩
theorem uS_X7_town : Cond.selects RX7 yX7_town yX7_town ∈ wU := List.mem_filter.mpr ⟨List.mem_of_getElem? (i := 338) (by decide +kernel), by decide +kernel⟩
theorem uC_X7_town : Cond.code yX7_town cX7_town 4 (some .int) ∈ wU := List.mem_filter.mpr ⟨List.mem_of_getElem? (i := 339) (by decide +kernel), by decide +kernel⟩
theorem uM_X7_54 : Cond.methodLink RX7 54 yX7_within ∈ wU := List.mem_filter.mpr ⟨List.mem_of_getElem? (i := 340) (by decide +kernel), by decide +kernel⟩
theorem uZ_X7_within : Cond.static yX7_within ∈ wU := List.mem_filter.mpr ⟨List.mem_of_getElem? (i := 341) (by decide +kernel), by decide +kernel⟩
theorem uC_X7_within : Cond.code yX7_within cX7_within 3 (some .boolean) ∈ wU := List.mem_filter.mpr ⟨List.mem_of_getElem? (i := 342) (by decide +kernel), by decide +kernel⟩
theorem uJ_X7_58 : Cond.constant RX7 58 (1000000) ∈ wU := List.mem_filter.mpr ⟨List.mem_of_getElem? (i := 343) (by decide +kernel), by decide +kernel⟩
theorem uM_X7_63 : Cond.methodLink RX7 63 yX5_add ∈ wU := List.mem_filter.mpr ⟨List.mem_of_getElem? (i := 344) (by decide +kernel), by decide +kernel⟩
theorem uI_X5_add : Cond.instanceMethod yX5_add ∈ wU := List.mem_filter.mpr ⟨List.mem_of_getElem? (i := 345) (by decide +kernel), by decide +kernel⟩
theorem uS_X5_add : Cond.selects RX5 yX5_add yX5_add ∈ wU := List.mem_filter.mpr ⟨List.mem_of_getElem? (i := 346) (by decide +kernel), by decide +kernel⟩
theorem uC_X5_add : Cond.code yX5_add cX5_add 2 (some .int) ∈ wU := List.mem_filter.mpr ⟨List.mem_of_getElem? (i := 347) (by decide +kernel), by decide +kernel⟩
theorem uM_X7_71 : Cond.methodLink RX7 71 yX1_forget ∈ wU := List.mem_filter.mpr ⟨List.mem_of_getElem? (i := 348) (by decide +kernel), by decide +kernel⟩
theorem uI_X1_forget : Cond.instanceMethod yX1_forget ∈ wU := List.mem_filter.mpr ⟨List.mem_of_getElem? (i := 349) (by decide +kernel), by decide +kernel⟩
theorem uS_X1_forget : Cond.selects RX1 yX1_forget yX1_forget ∈ wU := List.mem_filter.mpr ⟨List.mem_of_getElem? (i := 350) (by decide +kernel), by decide +kernel⟩
theorem uC_X1_forget : Cond.code yX1_forget cX1_forget 1 (none) ∈ wU := List.mem_filter.mpr ⟨List.mem_of_getElem? (i := 351) (by decide +kernel), by decide +kernel⟩
theorem uM_L_18 : Cond.methodLink RL 18 yX7_path ∈ wU := List.mem_filter.mpr ⟨List.mem_of_getElem? (i := 352) (by decide +kernel), by decide +kernel⟩
theorem uI_X7_path : Cond.instanceMethod yX7_path ∈ wU := List.mem_filter.mpr ⟨List.mem_of_getElem? (i := 353) (by decide +kernel), by decide +kernel⟩
theorem uS_X7_path : Cond.selects RX7 yX7_path yX7_path ∈ wU := List.mem_filter.mpr ⟨List.mem_of_getElem? (i := 354) (by decide +kernel), by decide +kernel⟩
theorem uC_X7_path : Cond.code yX7_path cX7_path 2 (some .boolean) ∈ wU := List.mem_filter.mpr ⟨List.mem_of_getElem? (i := 355) (by decide +kernel), by decide +kernel⟩
theorem uM_L_23 : Cond.methodLink RL 23 yX7_seconds ∈ wU := List.mem_filter.mpr ⟨List.mem_of_getElem? (i := 356) (by decide +kernel), by decide +kernel⟩
theorem uI_X7_seconds : Cond.instanceMethod yX7_seconds ∈ wU := List.mem_filter.mpr ⟨List.mem_of_getElem? (i := 357) (by decide +kernel), by decide +kernel⟩
theorem uS_X7_seconds : Cond.selects RX7 yX7_seconds yX7_seconds ∈ wU := List.mem_filter.mpr ⟨List.mem_of_getElem? (i := 358) (by decide +kernel), by decide +kernel⟩
theorem uC_X7_seconds : Cond.code yX7_seconds cX7_seconds 2 (some .int) ∈ wU := List.mem_filter.mpr ⟨List.mem_of_getElem? (i := 359) (by decide +kernel), by decide +kernel⟩
theorem uM_X7_77 : Cond.methodLink RX7 77 yX5_has ∈ wU := List.mem_filter.mpr ⟨List.mem_of_getElem? (i := 360) (by decide +kernel), by decide +kernel⟩
theorem uI_X5_has : Cond.instanceMethod yX5_has ∈ wU := List.mem_filter.mpr ⟨List.mem_of_getElem? (i := 361) (by decide +kernel), by decide +kernel⟩
theorem uS_X5_has : Cond.selects RX5 yX5_has yX5_has ∈ wU := List.mem_filter.mpr ⟨List.mem_of_getElem? (i := 362) (by decide +kernel), by decide +kernel⟩
theorem uC_X5_has : Cond.code yX5_has cX5_has 2 (some .boolean) ∈ wU := List.mem_filter.mpr ⟨List.mem_of_getElem? (i := 363) (by decide +kernel), by decide +kernel⟩
theorem uM_X7_81 : Cond.methodLink RX7 81 yX5_darkness ∈ wU := List.mem_filter.mpr ⟨List.mem_of_getElem? (i := 364) (by decide +kernel), by decide +kernel⟩
theorem uI_X5_darkness : Cond.instanceMethod yX5_darkness ∈ wU := List.mem_filter.mpr ⟨List.mem_of_getElem? (i := 365) (by decide +kernel), by decide +kernel⟩
theorem uS_X5_darkness : Cond.selects RX5 yX5_darkness yX5_darkness ∈ wU := List.mem_filter.mpr ⟨List.mem_of_getElem? (i := 366) (by decide +kernel), by decide +kernel⟩
theorem uC_X5_darkness : Cond.code yX5_darkness cX5_darkness 4 (some .int) ∈ wU := List.mem_filter.mpr ⟨List.mem_of_getElem? (i := 367) (by decide +kernel), by decide +kernel⟩
theorem uM_L_28 : Cond.methodLink RL 28 yX7_clouds ∈ wU := List.mem_filter.mpr ⟨List.mem_of_getElem? (i := 368) (by decide +kernel), by decide +kernel⟩
theorem uI_X7_clouds : Cond.instanceMethod yX7_clouds ∈ wU := List.mem_filter.mpr ⟨List.mem_of_getElem? (i := 369) (by decide +kernel), by decide +kernel⟩
theorem uS_X7_clouds : Cond.selects RX7 yX7_clouds yX7_clouds ∈ wU := List.mem_filter.mpr ⟨List.mem_of_getElem? (i := 370) (by decide +kernel), by decide +kernel⟩
theorem uC_X7_clouds : Cond.code yX7_clouds cX7_clouds 3 (some .boolean) ∈ wU := List.mem_filter.mpr ⟨List.mem_of_getElem? (i := 371) (by decide +kernel), by decide +kernel⟩
theorem uM_L_33 : Cond.methodLink RL 33 yX7_road ∈ wU := List.mem_filter.mpr ⟨List.mem_of_getElem? (i := 372) (by decide +kernel), by decide +kernel⟩
theorem uI_X7_road : Cond.instanceMethod yX7_road ∈ wU := List.mem_filter.mpr ⟨List.mem_of_getElem? (i := 373) (by decide +kernel), by decide +kernel⟩
theorem uS_X7_road : Cond.selects RX7 yX7_road yX7_road ∈ wU := List.mem_filter.mpr ⟨List.mem_of_getElem? (i := 374) (by decide +kernel), by decide +kernel⟩
theorem uC_X7_road : Cond.code yX7_road cX7_road 6 (some .int) ∈ wU := List.mem_filter.mpr ⟨List.mem_of_getElem? (i := 375) (by decide +kernel), by decide +kernel⟩
theorem uM_X7_91 : Cond.methodLink RX7 91 yX7_areTwoTowns ∈ wU := List.mem_filter.mpr ⟨List.mem_of_getElem? (i := 376) (by decide +kernel), by decide +kernel⟩
theorem uI_X7_areTwoTowns : Cond.instanceMethod yX7_areTwoTowns ∈ wU := List.mem_filter.mpr ⟨List.mem_of_getElem? (i := 378) (by decide +kernel), by decide +kernel⟩
theorem uC_X7_areTwoTowns : Cond.code yX7_areTwoTowns cX7_areTwoTowns 3 (some .boolean) ∈ wU := List.mem_filter.mpr ⟨List.mem_of_getElem? (i := 379) (by decide +kernel), by decide +kernel⟩
theorem uM_X7_95 : Cond.methodLink RX7 95 yX4_add ∈ wU := List.mem_filter.mpr ⟨List.mem_of_getElem? (i := 380) (by decide +kernel), by decide +kernel⟩
theorem uI_X4_add : Cond.instanceMethod yX4_add ∈ wU := List.mem_filter.mpr ⟨List.mem_of_getElem? (i := 381) (by decide +kernel), by decide +kernel⟩
theorem uS_X4_add : Cond.selects RX4 yX4_add yX4_add ∈ wU := List.mem_filter.mpr ⟨List.mem_of_getElem? (i := 382) (by decide +kernel), by decide +kernel⟩
theorem uC_X4_add : Cond.code yX4_add cX4_add 5 (some .int) ∈ wU := List.mem_filter.mpr ⟨List.mem_of_getElem? (i := 383) (by decide +kernel), by decide +kernel⟩
theorem uM_X4_46 : Cond.methodLink RX4 46 yX4_shorten ∈ wU := List.mem_filter.mpr ⟨List.mem_of_getElem? (i := 384) (by decide +kernel), by decide +kernel⟩
theorem uI_X4_shorten : Cond.instanceMethod yX4_shorten ∈ wU := List.mem_filter.mpr ⟨List.mem_of_getElem? (i := 386) (by decide +kernel), by decide +kernel⟩
theorem uC_X4_shorten : Cond.code yX4_shorten cX4_shorten 9 (none) ∈ wU := List.mem_filter.mpr ⟨List.mem_of_getElem? (i := 387) (by decide +kernel), by decide +kernel⟩
theorem uM_X4_57 : Cond.methodLink RX4 57 yX4_leastHours ∈ wU := List.mem_filter.mpr ⟨List.mem_of_getElem? (i := 388) (by decide +kernel), by decide +kernel⟩
theorem uI_X4_leastHours : Cond.instanceMethod yX4_leastHours ∈ wU := List.mem_filter.mpr ⟨List.mem_of_getElem? (i := 389) (by decide +kernel), by decide +kernel⟩
theorem uS_X4_leastHours : Cond.selects RX4 yX4_leastHours yX4_leastHours ∈ wU := List.mem_filter.mpr ⟨List.mem_of_getElem? (i := 390) (by decide +kernel), by decide +kernel⟩
theorem uC_X4_leastHours : Cond.code yX4_leastHours cX4_leastHours 3 (some .int) ∈ wU := List.mem_filter.mpr ⟨List.mem_of_getElem? (i := 391) (by decide +kernel), by decide +kernel⟩
theorem uM_X4_50 : Cond.methodLink RX4 50 yX4_findWays ∈ wU := List.mem_filter.mpr ⟨List.mem_of_getElem? (i := 392) (by decide +kernel), by decide +kernel⟩
theorem uI_X4_findWays : Cond.instanceMethod yX4_findWays ∈ wU := List.mem_filter.mpr ⟨List.mem_of_getElem? (i := 394) (by decide +kernel), by decide +kernel⟩
theorem uC_X4_findWays : Cond.code yX4_findWays cX4_findWays 4 (none) ∈ wU := List.mem_filter.mpr ⟨List.mem_of_getElem? (i := 395) (by decide +kernel), by decide +kernel⟩
theorem uB_X3 : Cond.instantiable RX3 3 ∈ wU := List.mem_filter.mpr ⟨List.mem_of_getElem? (i := 396) (by decide +kernel), by decide +kernel⟩
theorem uM_X7_98 : Cond.methodLink RX7 98 yX3_init ∈ wU := List.mem_filter.mpr ⟨List.mem_of_getElem? (i := 397) (by decide +kernel), by decide +kernel⟩
theorem uI_X3_init : Cond.instanceMethod yX3_init ∈ wU := List.mem_filter.mpr ⟨List.mem_of_getElem? (i := 398) (by decide +kernel), by decide +kernel⟩
theorem uC_X3_init : Cond.code yX3_init cX3_init 1 (none) ∈ wU := List.mem_filter.mpr ⟨List.mem_of_getElem? (i := 399) (by decide +kernel), by decide +kernel⟩
theorem uM_X3_3 : Cond.methodLink RX3 3 (⟨"java/lang/Object", "<init>", "()V"⟩ : MethodName) ∈ wU := List.mem_filter.mpr ⟨List.mem_of_getElem? (i := 400) (by decide +kernel), by decide +kernel⟩
theorem uM_X3_21 : Cond.methodLink RX3 21 yJ7_fill_53178 ∈ wU := List.mem_filter.mpr ⟨List.mem_of_getElem? (i := 401) (by decide +kernel), by decide +kernel⟩
theorem uF_X3_9 : Cond.fieldLink RX3 9 "ShadowRoads$Log" "gone" "[I" ∈ wU := List.mem_filter.mpr ⟨List.mem_of_getElem? (i := 402) (by decide +kernel), by decide +kernel⟩
theorem uF_X7_195 : Cond.fieldLink RX7 195 "ShadowRoads$Log" "gone" "[I" ∈ wU := List.mem_filter.mpr ⟨List.mem_of_getElem? (i := 403) (by decide +kernel), by decide +kernel⟩
theorem uF_X3_15 : Cond.fieldLink RX3 15 "ShadowRoads$Log" "lets" "[I" ∈ wU := List.mem_filter.mpr ⟨List.mem_of_getElem? (i := 404) (by decide +kernel), by decide +kernel⟩
theorem uF_X3_18 : Cond.fieldLink RX3 18 "ShadowRoads$Log" "counted" "[I" ∈ wU := List.mem_filter.mpr ⟨List.mem_of_getElem? (i := 405) (by decide +kernel), by decide +kernel⟩
theorem uF_X7_186 : Cond.fieldLink RX7 186 "ShadowRoads$Log" "counted" "[I" ∈ wU := List.mem_filter.mpr ⟨List.mem_of_getElem? (i := 406) (by decide +kernel), by decide +kernel⟩
theorem uM_L_38 : Cond.methodLink RL 38 yX7_least ∈ wU := List.mem_filter.mpr ⟨List.mem_of_getElem? (i := 414) (by decide +kernel), by decide +kernel⟩
theorem uI_X7_least : Cond.instanceMethod yX7_least ∈ wU := List.mem_filter.mpr ⟨List.mem_of_getElem? (i := 415) (by decide +kernel), by decide +kernel⟩
theorem uS_X7_least : Cond.selects RX7 yX7_least yX7_least ∈ wU := List.mem_filter.mpr ⟨List.mem_of_getElem? (i := 416) (by decide +kernel), by decide +kernel⟩
theorem uC_X7_least : Cond.code yX7_least cX7_least 3 (some .int) ∈ wU := List.mem_filter.mpr ⟨List.mem_of_getElem? (i := 417) (by decide +kernel), by decide +kernel⟩
theorem uM_X7_99 : Cond.methodLink RX7 99 yX4_leastHours ∈ wU := List.mem_filter.mpr ⟨List.mem_of_getElem? (i := 418) (by decide +kernel), by decide +kernel⟩
theorem uM_L_42 : Cond.methodLink RL 42 yX7_crowd ∈ wU := List.mem_filter.mpr ⟨List.mem_of_getElem? (i := 419) (by decide +kernel), by decide +kernel⟩
theorem uI_X7_crowd : Cond.instanceMethod yX7_crowd ∈ wU := List.mem_filter.mpr ⟨List.mem_of_getElem? (i := 420) (by decide +kernel), by decide +kernel⟩
theorem uS_X7_crowd : Cond.selects RX7 yX7_crowd yX7_crowd ∈ wU := List.mem_filter.mpr ⟨List.mem_of_getElem? (i := 421) (by decide +kernel), by decide +kernel⟩
theorem uC_X7_crowd : Cond.code yX7_crowd cX7_crowd 5 (some .int) ∈ wU := List.mem_filter.mpr ⟨List.mem_of_getElem? (i := 422) (by decide +kernel), by decide +kernel⟩
theorem uM_X7_104 : Cond.methodLink RX7 104 yX0_add ∈ wU := List.mem_filter.mpr ⟨List.mem_of_getElem? (i := 423) (by decide +kernel), by decide +kernel⟩
theorem uI_X0_add : Cond.instanceMethod yX0_add ∈ wU := List.mem_filter.mpr ⟨List.mem_of_getElem? (i := 424) (by decide +kernel), by decide +kernel⟩
theorem uS_X0_add : Cond.selects RX0 yX0_add yX0_add ∈ wU := List.mem_filter.mpr ⟨List.mem_of_getElem? (i := 425) (by decide +kernel), by decide +kernel⟩
theorem uC_X0_add : Cond.code yX0_add cX0_add 4 (some .int) ∈ wU := List.mem_filter.mpr ⟨List.mem_of_getElem? (i := 426) (by decide +kernel), by decide +kernel⟩
theorem uM_L_47 : Cond.methodLink RL 47 yX7_dawn ∈ wU := List.mem_filter.mpr ⟨List.mem_of_getElem? (i := 427) (by decide +kernel), by decide +kernel⟩
theorem uI_X7_dawn : Cond.instanceMethod yX7_dawn ∈ wU := List.mem_filter.mpr ⟨List.mem_of_getElem? (i := 428) (by decide +kernel), by decide +kernel⟩
theorem uS_X7_dawn : Cond.selects RX7 yX7_dawn yX7_dawn ∈ wU := List.mem_filter.mpr ⟨List.mem_of_getElem? (i := 429) (by decide +kernel), by decide +kernel⟩
theorem uC_X7_dawn : Cond.code yX7_dawn cX7_dawn 6 (some .int) ∈ wU := List.mem_filter.mpr ⟨List.mem_of_getElem? (i := 430) (by decide +kernel), by decide +kernel⟩
theorem uM_X7_116 : Cond.methodLink RX7 116 yX7_bestSight ∈ wU := List.mem_filter.mpr ⟨List.mem_of_getElem? (i := 431) (by decide +kernel), by decide +kernel⟩
theorem uI_X7_bestSight : Cond.instanceMethod yX7_bestSight ∈ wU := List.mem_filter.mpr ⟨List.mem_of_getElem? (i := 433) (by decide +kernel), by decide +kernel⟩
theorem uC_X7_bestSight : Cond.code yX7_bestSight cX7_bestSight 9 (some .int) ∈ wU := List.mem_filter.mpr ⟨List.mem_of_getElem? (i := 434) (by decide +kernel), by decide +kernel⟩
theorem uM_X7_225 : Cond.methodLink RX7 225 yX5_sight ∈ wU := List.mem_filter.mpr ⟨List.mem_of_getElem? (i := 435) (by decide +kernel), by decide +kernel⟩
theorem uI_X5_sight : Cond.instanceMethod yX5_sight ∈ wU := List.mem_filter.mpr ⟨List.mem_of_getElem? (i := 436) (by decide +kernel), by decide +kernel⟩
theorem uS_X5_sight : Cond.selects RX5 yX5_sight yX5_sight ∈ wU := List.mem_filter.mpr ⟨List.mem_of_getElem? (i := 437) (by decide +kernel), by decide +kernel⟩
theorem uC_X5_sight : Cond.code yX5_sight cX5_sight 2 (some .int) ∈ wU := List.mem_filter.mpr ⟨List.mem_of_getElem? (i := 438) (by decide +kernel), by decide +kernel⟩
theorem uM_X5_25 : Cond.methodLink RX5 25 yX5_darkness ∈ wU := List.mem_filter.mpr ⟨List.mem_of_getElem? (i := 439) (by decide +kernel), by decide +kernel⟩
theorem uM_L_51 : Cond.methodLink RL 51 yX7_hold ∈ wU := List.mem_filter.mpr ⟨List.mem_of_getElem? (i := 440) (by decide +kernel), by decide +kernel⟩
theorem uI_X7_hold : Cond.instanceMethod yX7_hold ∈ wU := List.mem_filter.mpr ⟨List.mem_of_getElem? (i := 441) (by decide +kernel), by decide +kernel⟩
theorem uS_X7_hold : Cond.selects RX7 yX7_hold yX7_hold ∈ wU := List.mem_filter.mpr ⟨List.mem_of_getElem? (i := 442) (by decide +kernel), by decide +kernel⟩
theorem uC_X7_hold : Cond.code yX7_hold cX7_hold 3 (some .boolean) ∈ wU := List.mem_filter.mpr ⟨List.mem_of_getElem? (i := 443) (by decide +kernel), by decide +kernel⟩
theorem uM_X7_122 : Cond.methodLink RX7 122 yX0_has ∈ wU := List.mem_filter.mpr ⟨List.mem_of_getElem? (i := 444) (by decide +kernel), by decide +kernel⟩
theorem uI_X0_has : Cond.instanceMethod yX0_has ∈ wU := List.mem_filter.mpr ⟨List.mem_of_getElem? (i := 445) (by decide +kernel), by decide +kernel⟩
theorem uS_X0_has : Cond.selects RX0 yX0_has yX0_has ∈ wU := List.mem_filter.mpr ⟨List.mem_of_getElem? (i := 446) (by decide +kernel), by decide +kernel⟩
theorem uC_X0_has : Cond.code yX0_has cX0_has 2 (some .boolean) ∈ wU := List.mem_filter.mpr ⟨List.mem_of_getElem? (i := 447) (by decide +kernel), by decide +kernel⟩
theorem uM_X7_123 : Cond.methodLink RX7 123 yX6_isLetGo ∈ wU := List.mem_filter.mpr ⟨List.mem_of_getElem? (i := 448) (by decide +kernel), by decide +kernel⟩
theorem uI_X6_isLetGo : Cond.instanceMethod yX6_isLetGo ∈ wU := List.mem_filter.mpr ⟨List.mem_of_getElem? (i := 449) (by decide +kernel), by decide +kernel⟩
theorem uS_X6_isLetGo : Cond.selects RX6 yX6_isLetGo yX6_isLetGo ∈ wU := List.mem_filter.mpr ⟨List.mem_of_getElem? (i := 450) (by decide +kernel), by decide +kernel⟩
theorem uC_X6_isLetGo : Cond.code yX6_isLetGo cX6_isLetGo 2 (some .boolean) ∈ wU := List.mem_filter.mpr ⟨List.mem_of_getElem? (i := 451) (by decide +kernel), by decide +kernel⟩
theorem uM_L_55 : Cond.methodLink RL 55 yX7_shut ∈ wU := List.mem_filter.mpr ⟨List.mem_of_getElem? (i := 452) (by decide +kernel), by decide +kernel⟩
theorem uI_X7_shut : Cond.instanceMethod yX7_shut ∈ wU := List.mem_filter.mpr ⟨List.mem_of_getElem? (i := 453) (by decide +kernel), by decide +kernel⟩
theorem uS_X7_shut : Cond.selects RX7 yX7_shut yX7_shut ∈ wU := List.mem_filter.mpr ⟨List.mem_of_getElem? (i := 454) (by decide +kernel), by decide +kernel⟩
theorem uC_X7_shut : Cond.code yX7_shut cX7_shut 4 (some .boolean) ∈ wU := List.mem_filter.mpr ⟨List.mem_of_getElem? (i := 455) (by decide +kernel), by decide +kernel⟩
theorem uM_X7_129 : Cond.methodLink RX7 129 yX4_has ∈ wU := List.mem_filter.mpr ⟨List.mem_of_getElem? (i := 456) (by decide +kernel), by decide +kernel⟩
theorem uI_X4_has : Cond.instanceMethod yX4_has ∈ wU := List.mem_filter.mpr ⟨List.mem_of_getElem? (i := 457) (by decide +kernel), by decide +kernel⟩
theorem uS_X4_has : Cond.selects RX4 yX4_has yX4_has ∈ wU := List.mem_filter.mpr ⟨List.mem_of_getElem? (i := 458) (by decide +kernel), by decide +kernel⟩
theorem uC_X4_has : Cond.code yX4_has cX4_has 2 (some .boolean) ∈ wU := List.mem_filter.mpr ⟨List.mem_of_getElem? (i := 459) (by decide +kernel), by decide +kernel⟩
theorem uM_L_60 : Cond.methodLink RL 60 yX7_go ∈ wU := List.mem_filter.mpr ⟨List.mem_of_getElem? (i := 460) (by decide +kernel), by decide +kernel⟩
theorem uI_X7_go : Cond.instanceMethod yX7_go ∈ wU := List.mem_filter.mpr ⟨List.mem_of_getElem? (i := 461) (by decide +kernel), by decide +kernel⟩
theorem uS_X7_go : Cond.selects RX7 yX7_go yX7_go ∈ wU := List.mem_filter.mpr ⟨List.mem_of_getElem? (i := 462) (by decide +kernel), by decide +kernel⟩
theorem uC_X7_go : Cond.code yX7_go cX7_go 3 (some .int) ∈ wU := List.mem_filter.mpr ⟨List.mem_of_getElem? (i := 463) (by decide +kernel), by decide +kernel⟩
theorem uM_X7_136 : Cond.methodLink RX7 136 yX6_driveAnHour ∈ wU := List.mem_filter.mpr ⟨List.mem_of_getElem? (i := 464) (by decide +kernel), by decide +kernel⟩
theorem uI_X6_driveAnHour : Cond.instanceMethod yX6_driveAnHour ∈ wU := List.mem_filter.mpr ⟨List.mem_of_getElem? (i := 465) (by decide +kernel), by decide +kernel⟩
theorem uS_X6_driveAnHour : Cond.selects RX6 yX6_driveAnHour yX6_driveAnHour ∈ wU := List.mem_filter.mpr ⟨List.mem_of_getElem? (i := 466) (by decide +kernel), by decide +kernel⟩
theorem uC_X6_driveAnHour : Cond.code yX6_driveAnHour cX6_driveAnHour 1 (none) ∈ wU := List.mem_filter.mpr ⟨List.mem_of_getElem? (i := 467) (by decide +kernel), by decide +kernel⟩
theorem uM_X6_92 : Cond.methodLink RX6 92 yX2_makeRoomForAnHour ∈ wU := List.mem_filter.mpr ⟨List.mem_of_getElem? (i := 468) (by decide +kernel), by decide +kernel⟩
theorem uI_X2_makeRoomForAnHour : Cond.instanceMethod yX2_makeRoomForAnHour ∈ wU := List.mem_filter.mpr ⟨List.mem_of_getElem? (i := 469) (by decide +kernel), by decide +kernel⟩
theorem uS_X2_makeRoomForAnHour : Cond.selects RX2 yX2_makeRoomForAnHour yX2_makeRoomForAnHour ∈ wU := List.mem_filter.mpr ⟨List.mem_of_getElem? (i := 470) (by decide +kernel), by decide +kernel⟩
theorem uC_X2_makeRoomForAnHour : Cond.code yX2_makeRoomForAnHour cX2_makeRoomForAnHour 1 (none) ∈ wU := List.mem_filter.mpr ⟨List.mem_of_getElem? (i := 471) (by decide +kernel), by decide +kernel⟩
theorem uM_X2_50 : Cond.methodLink RX2 50 yJ9_min_7cf53 ∈ wU := List.mem_filter.mpr ⟨List.mem_of_getElem? (i := 472) (by decide +kernel), by decide +kernel⟩
theorem uZ_J9_min_7cf53 : Cond.static yJ9_min_7cf53 ∈ wU := List.mem_filter.mpr ⟨List.mem_of_getElem? (i := 473) (by decide +kernel), by decide +kernel⟩
theorem uC_J9_min_7cf53 : Cond.code yJ9_min_7cf53 cJ9_min_7cf53 2 (some .int) ∈ wU := List.mem_filter.mpr ⟨List.mem_of_getElem? (i := 474) (by decide +kernel), by decide +kernel⟩
theorem uM_X2_56 : Cond.methodLink RX2 56 yX2_makeRoom ∈ wU := List.mem_filter.mpr ⟨List.mem_of_getElem? (i := 475) (by decide +kernel), by decide +kernel⟩
theorem uI_X2_makeRoom : Cond.instanceMethod yX2_makeRoom ∈ wU := List.mem_filter.mpr ⟨List.mem_of_getElem? (i := 477) (by decide +kernel), by decide +kernel⟩
theorem uC_X2_makeRoom : Cond.code yX2_makeRoom cX2_makeRoom 2 (none) ∈ wU := List.mem_filter.mpr ⟨List.mem_of_getElem? (i := 478) (by decide +kernel), by decide +kernel⟩
theorem uM_X2_66 : Cond.methodLink RX2 66 yJ7_copyOf_59c91 ∈ wU := List.mem_filter.mpr ⟨List.mem_of_getElem? (i := 479) (by decide +kernel), by decide +kernel⟩
theorem uZ_J7_copyOf_59c91 : Cond.static yJ7_copyOf_59c91 ∈ wU := List.mem_filter.mpr ⟨List.mem_of_getElem? (i := 480) (by decide +kernel), by decide +kernel⟩
theorem uC_J7_copyOf_59c91 : Cond.code yJ7_copyOf_59c91 cJ7_copyOf_59c91 3 (some (.array .int)) ∈ wU := List.mem_filter.mpr ⟨List.mem_of_getElem? (i := 481) (by decide +kernel), by decide +kernel⟩
theorem uM_J7_316 : Cond.methodLink RJ7 316 (⟨"[I", "clone", "()Ljava/lang/Object;"⟩ : MethodName) ∈ wU := List.mem_filter.mpr ⟨List.mem_of_getElem? (i := 482) (by decide +kernel), by decide +kernel⟩
theorem uV_java_lang_Object_clone : Cond.native (⟨"java/lang/Object", "clone", "()Ljava/lang/Object;"⟩ : MethodName) ∈ wU := List.mem_filter.mpr ⟨List.mem_of_getElem? (i := 484) (by decide +kernel), by decide +kernel⟩
theorem uI_java_lang_Object_clone : Cond.instanceMethod (⟨"java/lang/Object", "clone", "()Ljava/lang/Object;"⟩ : MethodName) ∈ wU := List.mem_filter.mpr ⟨List.mem_of_getElem? (i := 485) (by decide +kernel), by decide +kernel⟩
theorem uL_J7_317 : Cond.classLink RJ7 317 "[I" ∈ wU := List.mem_filter.mpr ⟨List.mem_of_getElem? (i := 488) (by decide +kernel), by decide +kernel⟩
theorem uM_J7_304 : Cond.methodLink RJ7 304 yJ9_min_7cf53 ∈ wU := List.mem_filter.mpr ⟨List.mem_of_getElem? (i := 489) (by decide +kernel), by decide +kernel⟩
theorem uM_J7_150 : Cond.methodLink RJ7 150 (⟨"java/lang/System", "arraycopy", "(Ljava/lang/Object;ILjava/lang/Object;II)V"⟩ : MethodName) ∈ wU := List.mem_filter.mpr ⟨List.mem_of_getElem? (i := 490) (by decide +kernel), by decide +kernel⟩
theorem uZ_java_lang_System_arraycopy : Cond.static (⟨"java/lang/System", "arraycopy", "(Ljava/lang/Object;ILjava/lang/Object;II)V"⟩ : MethodName) ∈ wU := List.mem_filter.mpr ⟨List.mem_of_getElem? (i := 491) (by decide +kernel), by decide +kernel⟩
theorem uV_java_lang_System_arraycopy : Cond.native (⟨"java/lang/System", "arraycopy", "(Ljava/lang/Object;ILjava/lang/Object;II)V"⟩ : MethodName) ∈ wU := List.mem_filter.mpr ⟨List.mem_of_getElem? (i := 492) (by decide +kernel), by decide +kernel⟩
theorem uM_X6_95 : Cond.methodLink RX6 95 yX6_comeToTowns ∈ wU := List.mem_filter.mpr ⟨List.mem_of_getElem? (i := 493) (by decide +kernel), by decide +kernel⟩
theorem uI_X6_comeToTowns : Cond.instanceMethod yX6_comeToTowns ∈ wU := List.mem_filter.mpr ⟨List.mem_of_getElem? (i := 495) (by decide +kernel), by decide +kernel⟩
theorem uC_X6_comeToTowns : Cond.code yX6_comeToTowns cX6_comeToTowns 7 (none) ∈ wU := List.mem_filter.mpr ⟨List.mem_of_getElem? (i := 496) (by decide +kernel), by decide +kernel⟩
theorem uM_X6_81 : Cond.methodLink RX6 81 yX2_driveOf ∈ wU := List.mem_filter.mpr ⟨List.mem_of_getElem? (i := 497) (by decide +kernel), by decide +kernel⟩
theorem uZ_X2_driveOf : Cond.static yX2_driveOf ∈ wU := List.mem_filter.mpr ⟨List.mem_of_getElem? (i := 498) (by decide +kernel), by decide +kernel⟩
theorem uC_X2_driveOf : Cond.code yX2_driveOf cX2_driveOf 1 (some .int) ∈ wU := List.mem_filter.mpr ⟨List.mem_of_getElem? (i := 499) (by decide +kernel), by decide +kernel⟩
theorem uM_X6_129 : Cond.methodLink RX6 129 yX2_isDue ∈ wU := List.mem_filter.mpr ⟨List.mem_of_getElem? (i := 500) (by decide +kernel), by decide +kernel⟩
theorem uI_X2_isDue : Cond.instanceMethod yX2_isDue ∈ wU := List.mem_filter.mpr ⟨List.mem_of_getElem? (i := 501) (by decide +kernel), by decide +kernel⟩
theorem uS_X2_isDue : Cond.selects RX2 yX2_isDue yX2_isDue ∈ wU := List.mem_filter.mpr ⟨List.mem_of_getElem? (i := 502) (by decide +kernel), by decide +kernel⟩
theorem uC_X2_isDue : Cond.code yX2_isDue cX2_isDue 4 (some .boolean) ∈ wU := List.mem_filter.mpr ⟨List.mem_of_getElem? (i := 503) (by decide +kernel), by decide +kernel⟩
theorem uM_X6_133 : Cond.methodLink RX6 133 yX2_firstCrowd ∈ wU := List.mem_filter.mpr ⟨List.mem_of_getElem? (i := 504) (by decide +kernel), by decide +kernel⟩
theorem uI_X2_firstCrowd : Cond.instanceMethod yX2_firstCrowd ∈ wU := List.mem_filter.mpr ⟨List.mem_of_getElem? (i := 505) (by decide +kernel), by decide +kernel⟩
theorem uS_X2_firstCrowd : Cond.selects RX2 yX2_firstCrowd yX2_firstCrowd ∈ wU := List.mem_filter.mpr ⟨List.mem_of_getElem? (i := 506) (by decide +kernel), by decide +kernel⟩
theorem uC_X2_firstCrowd : Cond.code yX2_firstCrowd cX2_firstCrowd 3 (some .int) ∈ wU := List.mem_filter.mpr ⟨List.mem_of_getElem? (i := 507) (by decide +kernel), by decide +kernel⟩
theorem uM_X6_136 : Cond.methodLink RX6 136 yX2_firstCars ∈ wU := List.mem_filter.mpr ⟨List.mem_of_getElem? (i := 508) (by decide +kernel), by decide +kernel⟩
theorem uI_X2_firstCars : Cond.instanceMethod yX2_firstCars ∈ wU := List.mem_filter.mpr ⟨List.mem_of_getElem? (i := 509) (by decide +kernel), by decide +kernel⟩
theorem uS_X2_firstCars : Cond.selects RX2 yX2_firstCars yX2_firstCars ∈ wU := List.mem_filter.mpr ⟨List.mem_of_getElem? (i := 510) (by decide +kernel), by decide +kernel⟩
theorem uC_X2_firstCars : Cond.code yX2_firstCars cX2_firstCars 3 (some .int) ∈ wU := List.mem_filter.mpr ⟨List.mem_of_getElem? (i := 511) (by decide +kernel), by decide +kernel⟩
theorem uM_X6_139 : Cond.methodLink RX6 139 yX2_take ∈ wU := List.mem_filter.mpr ⟨List.mem_of_getElem? (i := 512) (by decide +kernel), by decide +kernel⟩
theorem uI_X2_take : Cond.instanceMethod yX2_take ∈ wU := List.mem_filter.mpr ⟨List.mem_of_getElem? (i := 513) (by decide +kernel), by decide +kernel⟩
theorem uS_X2_take : Cond.selects RX2 yX2_take yX2_take ∈ wU := List.mem_filter.mpr ⟨List.mem_of_getElem? (i := 514) (by decide +kernel), by decide +kernel⟩
theorem uC_X2_take : Cond.code yX2_take cX2_take 4 (none) ∈ wU := List.mem_filter.mpr ⟨List.mem_of_getElem? (i := 515) (by decide +kernel), by decide +kernel⟩
theorem uM_X6_146 : Cond.methodLink RX6 146 yX6_comeHome ∈ wU := List.mem_filter.mpr ⟨List.mem_of_getElem? (i := 516) (by decide +kernel), by decide +kernel⟩
theorem uI_X6_comeHome : Cond.instanceMethod yX6_comeHome ∈ wU := List.mem_filter.mpr ⟨List.mem_of_getElem? (i := 518) (by decide +kernel), by decide +kernel⟩
theorem uC_X6_comeHome : Cond.code yX6_comeHome cX6_comeHome 3 (none) ∈ wU := List.mem_filter.mpr ⟨List.mem_of_getElem? (i := 519) (by decide +kernel), by decide +kernel⟩
theorem uM_X6_149 : Cond.methodLink RX6 149 yX6_queueUp ∈ wU := List.mem_filter.mpr ⟨List.mem_of_getElem? (i := 520) (by decide +kernel), by decide +kernel⟩
theorem uI_X6_queueUp : Cond.instanceMethod yX6_queueUp ∈ wU := List.mem_filter.mpr ⟨List.mem_of_getElem? (i := 522) (by decide +kernel), by decide +kernel⟩
theorem uC_X6_queueUp : Cond.code yX6_queueUp cX6_queueUp 5 (none) ∈ wU := List.mem_filter.mpr ⟨List.mem_of_getElem? (i := 523) (by decide +kernel), by decide +kernel⟩
theorem uM_X6_153 : Cond.methodLink RX6 153 yX4_nextRoad ∈ wU := List.mem_filter.mpr ⟨List.mem_of_getElem? (i := 524) (by decide +kernel), by decide +kernel⟩
theorem uI_X4_nextRoad : Cond.instanceMethod yX4_nextRoad ∈ wU := List.mem_filter.mpr ⟨List.mem_of_getElem? (i := 525) (by decide +kernel), by decide +kernel⟩
theorem uS_X4_nextRoad : Cond.selects RX4 yX4_nextRoad yX4_nextRoad ∈ wU := List.mem_filter.mpr ⟨List.mem_of_getElem? (i := 526) (by decide +kernel), by decide +kernel⟩
theorem uC_X4_nextRoad : Cond.code yX4_nextRoad cX4_nextRoad 3 (some .int) ∈ wU := List.mem_filter.mpr ⟨List.mem_of_getElem? (i := 527) (by decide +kernel), by decide +kernel⟩
theorem uM_X6_77 : Cond.methodLink RX6 77 yX2_queueOf ∈ wU := List.mem_filter.mpr ⟨List.mem_of_getElem? (i := 528) (by decide +kernel), by decide +kernel⟩
theorem uZ_X2_queueOf : Cond.static yX2_queueOf ∈ wU := List.mem_filter.mpr ⟨List.mem_of_getElem? (i := 529) (by decide +kernel), by decide +kernel⟩
theorem uC_X2_queueOf : Cond.code yX2_queueOf cX2_queueOf 1 (some .int) ∈ wU := List.mem_filter.mpr ⟨List.mem_of_getElem? (i := 530) (by decide +kernel), by decide +kernel⟩
theorem uM_X6_156 : Cond.methodLink RX6 156 yX2_append ∈ wU := List.mem_filter.mpr ⟨List.mem_of_getElem? (i := 531) (by decide +kernel), by decide +kernel⟩
theorem uI_X2_append : Cond.instanceMethod yX2_append ∈ wU := List.mem_filter.mpr ⟨List.mem_of_getElem? (i := 532) (by decide +kernel), by decide +kernel⟩
theorem uS_X2_append : Cond.selects RX2 yX2_append yX2_append ∈ wU := List.mem_filter.mpr ⟨List.mem_of_getElem? (i := 533) (by decide +kernel), by decide +kernel⟩
theorem uC_X2_append : Cond.code yX2_append cX2_append 7 (none) ∈ wU := List.mem_filter.mpr ⟨List.mem_of_getElem? (i := 534) (by decide +kernel), by decide +kernel⟩
theorem uM_X2_43 : Cond.methodLink RX2 43 yX2_newPart ∈ wU := List.mem_filter.mpr ⟨List.mem_of_getElem? (i := 535) (by decide +kernel), by decide +kernel⟩
theorem uI_X2_newPart : Cond.instanceMethod yX2_newPart ∈ wU := List.mem_filter.mpr ⟨List.mem_of_getElem? (i := 537) (by decide +kernel), by decide +kernel⟩
theorem uC_X2_newPart : Cond.code yX2_newPart cX2_newPart 2 (some .int) ∈ wU := List.mem_filter.mpr ⟨List.mem_of_getElem? (i := 538) (by decide +kernel), by decide +kernel⟩
theorem uM_X6_98 : Cond.methodLink RX6 98 yX6_letCrowdsGo ∈ wU := List.mem_filter.mpr ⟨List.mem_of_getElem? (i := 539) (by decide +kernel), by decide +kernel⟩
theorem uI_X6_letCrowdsGo : Cond.instanceMethod yX6_letCrowdsGo ∈ wU := List.mem_filter.mpr ⟨List.mem_of_getElem? (i := 541) (by decide +kernel), by decide +kernel⟩
theorem uC_X6_letCrowdsGo : Cond.code yX6_letCrowdsGo cX6_letCrowdsGo 2 (none) ∈ wU := List.mem_filter.mpr ⟨List.mem_of_getElem? (i := 542) (by decide +kernel), by decide +kernel⟩
theorem uM_X6_101 : Cond.methodLink RX6 101 yX6_setOut ∈ wU := List.mem_filter.mpr ⟨List.mem_of_getElem? (i := 543) (by decide +kernel), by decide +kernel⟩
theorem uI_X6_setOut : Cond.instanceMethod yX6_setOut ∈ wU := List.mem_filter.mpr ⟨List.mem_of_getElem? (i := 545) (by decide +kernel), by decide +kernel⟩
theorem uC_X6_setOut : Cond.code yX6_setOut cX6_setOut 3 (none) ∈ wU := List.mem_filter.mpr ⟨List.mem_of_getElem? (i := 546) (by decide +kernel), by decide +kernel⟩
theorem uM_X6_164 : Cond.methodLink RX6 164 yX2_isEmpty ∈ wU := List.mem_filter.mpr ⟨List.mem_of_getElem? (i := 547) (by decide +kernel), by decide +kernel⟩
theorem uI_X2_isEmpty : Cond.instanceMethod yX2_isEmpty ∈ wU := List.mem_filter.mpr ⟨List.mem_of_getElem? (i := 548) (by decide +kernel), by decide +kernel⟩
theorem uS_X2_isEmpty : Cond.selects RX2 yX2_isEmpty yX2_isEmpty ∈ wU := List.mem_filter.mpr ⟨List.mem_of_getElem? (i := 549) (by decide +kernel), by decide +kernel⟩
theorem uC_X2_isEmpty : Cond.code yX2_isEmpty cX2_isEmpty 2 (some .boolean) ∈ wU := List.mem_filter.mpr ⟨List.mem_of_getElem? (i := 550) (by decide +kernel), by decide +kernel⟩
theorem uM_X6_168 : Cond.methodLink RX6 168 yX4_lets ∈ wU := List.mem_filter.mpr ⟨List.mem_of_getElem? (i := 551) (by decide +kernel), by decide +kernel⟩
theorem uI_X4_lets : Cond.instanceMethod yX4_lets ∈ wU := List.mem_filter.mpr ⟨List.mem_of_getElem? (i := 552) (by decide +kernel), by decide +kernel⟩
theorem uS_X4_lets : Cond.selects RX4 yX4_lets yX4_lets ∈ wU := List.mem_filter.mpr ⟨List.mem_of_getElem? (i := 553) (by decide +kernel), by decide +kernel⟩
theorem uC_X4_lets : Cond.code yX4_lets cX4_lets 3 (some .int) ∈ wU := List.mem_filter.mpr ⟨List.mem_of_getElem? (i := 554) (by decide +kernel), by decide +kernel⟩
theorem uM_X4_53 : Cond.methodLink RX4 53 yX4_isShut ∈ wU := List.mem_filter.mpr ⟨List.mem_of_getElem? (i := 555) (by decide +kernel), by decide +kernel⟩
theorem uI_X4_isShut : Cond.instanceMethod yX4_isShut ∈ wU := List.mem_filter.mpr ⟨List.mem_of_getElem? (i := 556) (by decide +kernel), by decide +kernel⟩
theorem uS_X4_isShut : Cond.selects RX4 yX4_isShut yX4_isShut ∈ wU := List.mem_filter.mpr ⟨List.mem_of_getElem? (i := 557) (by decide +kernel), by decide +kernel⟩
theorem uC_X4_isShut : Cond.code yX4_isShut cX4_isShut 3 (some .boolean) ∈ wU := List.mem_filter.mpr ⟨List.mem_of_getElem? (i := 558) (by decide +kernel), by decide +kernel⟩
theorem uM_X6_171 : Cond.methodLink RX6 171 yX6_setOutOn ∈ wU := List.mem_filter.mpr ⟨List.mem_of_getElem? (i := 559) (by decide +kernel), by decide +kernel⟩
theorem uI_X6_setOutOn : Cond.instanceMethod yX6_setOutOn ∈ wU := List.mem_filter.mpr ⟨List.mem_of_getElem? (i := 561) (by decide +kernel), by decide +kernel⟩
theorem uC_X6_setOutOn : Cond.code yX6_setOutOn cX6_setOutOn 8 (some .int) ∈ wU := List.mem_filter.mpr ⟨List.mem_of_getElem? (i := 562) (by decide +kernel), by decide +kernel⟩
theorem uM_X6_107 : Cond.methodLink RX6 107 yJ9_min_7cf53 ∈ wU := List.mem_filter.mpr ⟨List.mem_of_getElem? (i := 563) (by decide +kernel), by decide +kernel⟩
theorem uM_X7_139 : Cond.methodLink RX7 139 yX7_logTheHour ∈ wU := List.mem_filter.mpr ⟨List.mem_of_getElem? (i := 564) (by decide +kernel), by decide +kernel⟩
theorem uI_X7_logTheHour : Cond.instanceMethod yX7_logTheHour ∈ wU := List.mem_filter.mpr ⟨List.mem_of_getElem? (i := 566) (by decide +kernel), by decide +kernel⟩
theorem uC_X7_logTheHour : Cond.code yX7_logTheHour cX7_logTheHour 3 (none) ∈ wU := List.mem_filter.mpr ⟨List.mem_of_getElem? (i := 567) (by decide +kernel), by decide +kernel⟩
theorem uM_X7_218 : Cond.methodLink RX7 218 yX4_lets ∈ wU := List.mem_filter.mpr ⟨List.mem_of_getElem? (i := 568) (by decide +kernel), by decide +kernel⟩
theorem uM_X7_221 : Cond.methodLink RX7 221 yX3_note ∈ wU := List.mem_filter.mpr ⟨List.mem_of_getElem? (i := 569) (by decide +kernel), by decide +kernel⟩
theorem uI_X3_note : Cond.instanceMethod yX3_note ∈ wU := List.mem_filter.mpr ⟨List.mem_of_getElem? (i := 570) (by decide +kernel), by decide +kernel⟩
theorem uS_X3_note : Cond.selects RX3 yX3_note yX3_note ∈ wU := List.mem_filter.mpr ⟨List.mem_of_getElem? (i := 571) (by decide +kernel), by decide +kernel⟩
theorem uC_X3_note : Cond.code yX3_note cX3_note 4 (none) ∈ wU := List.mem_filter.mpr ⟨List.mem_of_getElem? (i := 572) (by decide +kernel), by decide +kernel⟩
theorem uM_X7_142 : Cond.methodLink RX7 142 yX6_drinkAnHour ∈ wU := List.mem_filter.mpr ⟨List.mem_of_getElem? (i := 573) (by decide +kernel), by decide +kernel⟩
theorem uI_X6_drinkAnHour : Cond.instanceMethod yX6_drinkAnHour ∈ wU := List.mem_filter.mpr ⟨List.mem_of_getElem? (i := 574) (by decide +kernel), by decide +kernel⟩
theorem uS_X6_drinkAnHour : Cond.selects RX6 yX6_drinkAnHour yX6_drinkAnHour ∈ wU := List.mem_filter.mpr ⟨List.mem_of_getElem? (i := 575) (by decide +kernel), by decide +kernel⟩
theorem uC_X6_drinkAnHour : Cond.code yX6_drinkAnHour cX6_drinkAnHour 3 (none) ∈ wU := List.mem_filter.mpr ⟨List.mem_of_getElem? (i := 576) (by decide +kernel), by decide +kernel⟩
theorem uM_L_64 : Cond.methodLink RL 64 yX7_queue ∈ wU := List.mem_filter.mpr ⟨List.mem_of_getElem? (i := 577) (by decide +kernel), by decide +kernel⟩
theorem uI_X7_queue : Cond.instanceMethod yX7_queue ∈ wU := List.mem_filter.mpr ⟨List.mem_of_getElem? (i := 578) (by decide +kernel), by decide +kernel⟩
theorem uS_X7_queue : Cond.selects RX7 yX7_queue yX7_queue ∈ wU := List.mem_filter.mpr ⟨List.mem_of_getElem? (i := 579) (by decide +kernel), by decide +kernel⟩
theorem uC_X7_queue : Cond.code yX7_queue cX7_queue 2 (some .int) ∈ wU := List.mem_filter.mpr ⟨List.mem_of_getElem? (i := 580) (by decide +kernel), by decide +kernel⟩
theorem uM_X7_145 : Cond.methodLink RX7 145 yX6_queued ∈ wU := List.mem_filter.mpr ⟨List.mem_of_getElem? (i := 581) (by decide +kernel), by decide +kernel⟩
theorem uI_X6_queued : Cond.instanceMethod yX6_queued ∈ wU := List.mem_filter.mpr ⟨List.mem_of_getElem? (i := 582) (by decide +kernel), by decide +kernel⟩
theorem uS_X6_queued : Cond.selects RX6 yX6_queued yX6_queued ∈ wU := List.mem_filter.mpr ⟨List.mem_of_getElem? (i := 583) (by decide +kernel), by decide +kernel⟩
theorem uC_X6_queued : Cond.code yX6_queued cX6_queued 2 (some .int) ∈ wU := List.mem_filter.mpr ⟨List.mem_of_getElem? (i := 584) (by decide +kernel), by decide +kernel⟩
theorem uM_L_68 : Cond.methodLink RL 68 yX7_on ∈ wU := List.mem_filter.mpr ⟨List.mem_of_getElem? (i := 585) (by decide +kernel), by decide +kernel⟩
theorem uI_X7_on : Cond.instanceMethod yX7_on ∈ wU := List.mem_filter.mpr ⟨List.mem_of_getElem? (i := 586) (by decide +kernel), by decide +kernel⟩
theorem uS_X7_on : Cond.selects RX7 yX7_on yX7_on ∈ wU := List.mem_filter.mpr ⟨List.mem_of_getElem? (i := 587) (by decide +kernel), by decide +kernel⟩
theorem uC_X7_on : Cond.code yX7_on cX7_on 2 (some .int) ∈ wU := List.mem_filter.mpr ⟨List.mem_of_getElem? (i := 588) (by decide +kernel), by decide +kernel⟩
theorem uM_X7_148 : Cond.methodLink RX7 148 yX6_driving ∈ wU := List.mem_filter.mpr ⟨List.mem_of_getElem? (i := 589) (by decide +kernel), by decide +kernel⟩
theorem uI_X6_driving : Cond.instanceMethod yX6_driving ∈ wU := List.mem_filter.mpr ⟨List.mem_of_getElem? (i := 590) (by decide +kernel), by decide +kernel⟩
theorem uS_X6_driving : Cond.selects RX6 yX6_driving yX6_driving ∈ wU := List.mem_filter.mpr ⟨List.mem_of_getElem? (i := 591) (by decide +kernel), by decide +kernel⟩
theorem uC_X6_driving : Cond.code yX6_driving cX6_driving 2 (some .int) ∈ wU := List.mem_filter.mpr ⟨List.mem_of_getElem? (i := 592) (by decide +kernel), by decide +kernel⟩
theorem uM_L_72 : Cond.methodLink RL 72 yX7_foretold ∈ wU := List.mem_filter.mpr ⟨List.mem_of_getElem? (i := 593) (by decide +kernel), by decide +kernel⟩
theorem uI_X7_foretold : Cond.instanceMethod yX7_foretold ∈ wU := List.mem_filter.mpr ⟨List.mem_of_getElem? (i := 594) (by decide +kernel), by decide +kernel⟩
theorem uS_X7_foretold : Cond.selects RX7 yX7_foretold yX7_foretold ∈ wU := List.mem_filter.mpr ⟨List.mem_of_getElem? (i := 595) (by decide +kernel), by decide +kernel⟩
theorem uC_X7_foretold : Cond.code yX7_foretold cX7_foretold 2 (some .int) ∈ wU := List.mem_filter.mpr ⟨List.mem_of_getElem? (i := 596) (by decide +kernel), by decide +kernel⟩
theorem uM_X7_151 : Cond.methodLink RX7 151 yX1_foresee ∈ wU := List.mem_filter.mpr ⟨List.mem_of_getElem? (i := 597) (by decide +kernel), by decide +kernel⟩
theorem uI_X1_foresee : Cond.instanceMethod yX1_foresee ∈ wU := List.mem_filter.mpr ⟨List.mem_of_getElem? (i := 598) (by decide +kernel), by decide +kernel⟩
theorem uS_X1_foresee : Cond.selects RX1 yX1_foresee yX1_foresee ∈ wU := List.mem_filter.mpr ⟨List.mem_of_getElem? (i := 599) (by decide +kernel), by decide +kernel⟩
theorem uC_X1_foresee : Cond.code yX1_foresee cX1_foresee 2 (none) ∈ wU := List.mem_filter.mpr ⟨List.mem_of_getElem? (i := 600) (by decide +kernel), by decide +kernel⟩
theorem uM_X1_44 : Cond.methodLink RX1 44 yX6_copyFrom ∈ wU := List.mem_filter.mpr ⟨List.mem_of_getElem? (i := 601) (by decide +kernel), by decide +kernel⟩
theorem uI_X6_copyFrom : Cond.instanceMethod yX6_copyFrom ∈ wU := List.mem_filter.mpr ⟨List.mem_of_getElem? (i := 602) (by decide +kernel), by decide +kernel⟩
theorem uS_X6_copyFrom : Cond.selects RX6 yX6_copyFrom yX6_copyFrom ∈ wU := List.mem_filter.mpr ⟨List.mem_of_getElem? (i := 603) (by decide +kernel), by decide +kernel⟩
theorem uC_X6_copyFrom : Cond.code yX6_copyFrom cX6_copyFrom 2 (none) ∈ wU := List.mem_filter.mpr ⟨List.mem_of_getElem? (i := 604) (by decide +kernel), by decide +kernel⟩
theorem uM_X6_113 : Cond.methodLink RX6 113 yX2_copyFrom ∈ wU := List.mem_filter.mpr ⟨List.mem_of_getElem? (i := 605) (by decide +kernel), by decide +kernel⟩
theorem uI_X2_copyFrom : Cond.instanceMethod yX2_copyFrom ∈ wU := List.mem_filter.mpr ⟨List.mem_of_getElem? (i := 606) (by decide +kernel), by decide +kernel⟩
theorem uS_X2_copyFrom : Cond.selects RX2 yX2_copyFrom yX2_copyFrom ∈ wU := List.mem_filter.mpr ⟨List.mem_of_getElem? (i := 607) (by decide +kernel), by decide +kernel⟩
theorem uC_X2_copyFrom : Cond.code yX2_copyFrom cX2_copyFrom 2 (none) ∈ wU := List.mem_filter.mpr ⟨List.mem_of_getElem? (i := 608) (by decide +kernel), by decide +kernel⟩
theorem uM_X2_60 : Cond.methodLink RX2 60 (⟨"java/lang/System", "arraycopy", "(Ljava/lang/Object;ILjava/lang/Object;II)V"⟩ : MethodName) ∈ wU := List.mem_filter.mpr ⟨List.mem_of_getElem? (i := 609) (by decide +kernel), by decide +kernel⟩
theorem uM_X6_117 : Cond.methodLink RX6 117 (⟨"java/lang/System", "arraycopy", "(Ljava/lang/Object;ILjava/lang/Object;II)V"⟩ : MethodName) ∈ wU := List.mem_filter.mpr ⟨List.mem_of_getElem? (i := 610) (by decide +kernel), by decide +kernel⟩
theorem uM_X1_48 : Cond.methodLink RX1 48 yJ7_fill_53178 ∈ wU := List.mem_filter.mpr ⟨List.mem_of_getElem? (i := 611) (by decide +kernel), by decide +kernel⟩
theorem uM_X1_54 : Cond.methodLink RX1 54 yX6_driveAnHour ∈ wU := List.mem_filter.mpr ⟨List.mem_of_getElem? (i := 612) (by decide +kernel), by decide +kernel⟩
theorem uM_X1_57 : Cond.methodLink RX1 57 yX1_noteLacks ∈ wU := List.mem_filter.mpr ⟨List.mem_of_getElem? (i := 613) (by decide +kernel), by decide +kernel⟩
theorem uI_X1_noteLacks : Cond.instanceMethod yX1_noteLacks ∈ wU := List.mem_filter.mpr ⟨List.mem_of_getElem? (i := 615) (by decide +kernel), by decide +kernel⟩
theorem uC_X1_noteLacks : Cond.code yX1_noteLacks cX1_noteLacks 2 (none) ∈ wU := List.mem_filter.mpr ⟨List.mem_of_getElem? (i := 616) (by decide +kernel), by decide +kernel⟩
theorem uM_X1_60 : Cond.methodLink RX1 60 yX6_drinkAnHour ∈ wU := List.mem_filter.mpr ⟨List.mem_of_getElem? (i := 617) (by decide +kernel), by decide +kernel⟩
theorem uM_X1_63 : Cond.methodLink RX1 63 yX6_lastHourOfAll ∈ wU := List.mem_filter.mpr ⟨List.mem_of_getElem? (i := 618) (by decide +kernel), by decide +kernel⟩
theorem uI_X6_lastHourOfAll : Cond.instanceMethod yX6_lastHourOfAll ∈ wU := List.mem_filter.mpr ⟨List.mem_of_getElem? (i := 619) (by decide +kernel), by decide +kernel⟩
theorem uS_X6_lastHourOfAll : Cond.selects RX6 yX6_lastHourOfAll yX6_lastHourOfAll ∈ wU := List.mem_filter.mpr ⟨List.mem_of_getElem? (i := 620) (by decide +kernel), by decide +kernel⟩
theorem uC_X6_lastHourOfAll : Cond.code yX6_lastHourOfAll cX6_lastHourOfAll 1 (some .int) ∈ wU := List.mem_filter.mpr ⟨List.mem_of_getElem? (i := 621) (by decide +kernel), by decide +kernel⟩
theorem uM_X6_70 : Cond.methodLink RX6 70 yX6_areAllHome ∈ wU := List.mem_filter.mpr ⟨List.mem_of_getElem? (i := 622) (by decide +kernel), by decide +kernel⟩
theorem uI_X6_areAllHome : Cond.instanceMethod yX6_areAllHome ∈ wU := List.mem_filter.mpr ⟨List.mem_of_getElem? (i := 623) (by decide +kernel), by decide +kernel⟩
theorem uS_X6_areAllHome : Cond.selects RX6 yX6_areAllHome yX6_areAllHome ∈ wU := List.mem_filter.mpr ⟨List.mem_of_getElem? (i := 624) (by decide +kernel), by decide +kernel⟩
theorem uC_X6_areAllHome : Cond.code yX6_areAllHome cX6_areAllHome 1 (some .boolean) ∈ wU := List.mem_filter.mpr ⟨List.mem_of_getElem? (i := 625) (by decide +kernel), by decide +kernel⟩
theorem uM_L_76 : Cond.methodLink RL 76 yX7_lacks ∈ wU := List.mem_filter.mpr ⟨List.mem_of_getElem? (i := 626) (by decide +kernel), by decide +kernel⟩
theorem uI_X7_lacks : Cond.instanceMethod yX7_lacks ∈ wU := List.mem_filter.mpr ⟨List.mem_of_getElem? (i := 627) (by decide +kernel), by decide +kernel⟩
theorem uS_X7_lacks : Cond.selects RX7 yX7_lacks yX7_lacks ∈ wU := List.mem_filter.mpr ⟨List.mem_of_getElem? (i := 628) (by decide +kernel), by decide +kernel⟩
theorem uC_X7_lacks : Cond.code yX7_lacks cX7_lacks 2 (some .int) ∈ wU := List.mem_filter.mpr ⟨List.mem_of_getElem? (i := 629) (by decide +kernel), by decide +kernel⟩
theorem uM_L_80 : Cond.methodLink RL 80 yX7_plan ∈ wU := List.mem_filter.mpr ⟨List.mem_of_getElem? (i := 630) (by decide +kernel), by decide +kernel⟩
theorem uI_X7_plan : Cond.instanceMethod yX7_plan ∈ wU := List.mem_filter.mpr ⟨List.mem_of_getElem? (i := 631) (by decide +kernel), by decide +kernel⟩
theorem uS_X7_plan : Cond.selects RX7 yX7_plan yX7_plan ∈ wU := List.mem_filter.mpr ⟨List.mem_of_getElem? (i := 632) (by decide +kernel), by decide +kernel⟩
theorem uC_X7_plan : Cond.code yX7_plan cX7_plan 2 (some .int) ∈ wU := List.mem_filter.mpr ⟨List.mem_of_getElem? (i := 633) (by decide +kernel), by decide +kernel⟩
theorem uM_X7_163 : Cond.methodLink RX7 163 yX1_makePlan ∈ wU := List.mem_filter.mpr ⟨List.mem_of_getElem? (i := 634) (by decide +kernel), by decide +kernel⟩
theorem uI_X1_makePlan : Cond.instanceMethod yX1_makePlan ∈ wU := List.mem_filter.mpr ⟨List.mem_of_getElem? (i := 635) (by decide +kernel), by decide +kernel⟩
theorem uS_X1_makePlan : Cond.selects RX1 yX1_makePlan yX1_makePlan ∈ wU := List.mem_filter.mpr ⟨List.mem_of_getElem? (i := 636) (by decide +kernel), by decide +kernel⟩
theorem uC_X1_makePlan : Cond.code yX1_makePlan cX1_makePlan 3 (none) ∈ wU := List.mem_filter.mpr ⟨List.mem_of_getElem? (i := 637) (by decide +kernel), by decide +kernel⟩
theorem uM_X1_76 : Cond.methodLink RX1 76 yX1_findWaiting ∈ wU := List.mem_filter.mpr ⟨List.mem_of_getElem? (i := 638) (by decide +kernel), by decide +kernel⟩
theorem uI_X1_findWaiting : Cond.instanceMethod yX1_findWaiting ∈ wU := List.mem_filter.mpr ⟨List.mem_of_getElem? (i := 640) (by decide +kernel), by decide +kernel⟩
theorem uC_X1_findWaiting : Cond.code yX1_findWaiting cX1_findWaiting 2 (none) ∈ wU := List.mem_filter.mpr ⟨List.mem_of_getElem? (i := 641) (by decide +kernel), by decide +kernel⟩
theorem uM_X1_115 : Cond.methodLink RX1 115 yX6_isLetGo ∈ wU := List.mem_filter.mpr ⟨List.mem_of_getElem? (i := 642) (by decide +kernel), by decide +kernel⟩
theorem uM_X1_79 : Cond.methodLink RX1 79 yX1_hasPlan ∈ wU := List.mem_filter.mpr ⟨List.mem_of_getElem? (i := 643) (by decide +kernel), by decide +kernel⟩
theorem uI_X1_hasPlan : Cond.instanceMethod yX1_hasPlan ∈ wU := List.mem_filter.mpr ⟨List.mem_of_getElem? (i := 644) (by decide +kernel), by decide +kernel⟩
theorem uS_X1_hasPlan : Cond.selects RX1 yX1_hasPlan yX1_hasPlan ∈ wU := List.mem_filter.mpr ⟨List.mem_of_getElem? (i := 645) (by decide +kernel), by decide +kernel⟩
theorem uC_X1_hasPlan : Cond.code yX1_hasPlan cX1_hasPlan 1 (some .boolean) ∈ wU := List.mem_filter.mpr ⟨List.mem_of_getElem? (i := 646) (by decide +kernel), by decide +kernel⟩
theorem uJ_X1_88 : Cond.constant RX1 88 (2147483647) ∈ wU := List.mem_filter.mpr ⟨List.mem_of_getElem? (i := 647) (by decide +kernel), by decide +kernel⟩
theorem uM_X1_92 : Cond.methodLink RX1 92 yX1_isWithinHours ∈ wU := List.mem_filter.mpr ⟨List.mem_of_getElem? (i := 648) (by decide +kernel), by decide +kernel⟩
theorem uI_X1_isWithinHours : Cond.instanceMethod yX1_isWithinHours ∈ wU := List.mem_filter.mpr ⟨List.mem_of_getElem? (i := 650) (by decide +kernel), by decide +kernel⟩
theorem uC_X1_isWithinHours : Cond.code yX1_isWithinHours cX1_isWithinHours 3 (some .boolean) ∈ wU := List.mem_filter.mpr ⟨List.mem_of_getElem? (i := 651) (by decide +kernel), by decide +kernel⟩
theorem uM_X1_118 : Cond.methodLink RX1 118 yX1_stepOf ∈ wU := List.mem_filter.mpr ⟨List.mem_of_getElem? (i := 652) (by decide +kernel), by decide +kernel⟩
theorem uI_X1_stepOf : Cond.instanceMethod yX1_stepOf ∈ wU := List.mem_filter.mpr ⟨List.mem_of_getElem? (i := 654) (by decide +kernel), by decide +kernel⟩
theorem uC_X1_stepOf : Cond.code yX1_stepOf cX1_stepOf 3 (some .int) ∈ wU := List.mem_filter.mpr ⟨List.mem_of_getElem? (i := 655) (by decide +kernel), by decide +kernel⟩
theorem uM_X1_96 : Cond.methodLink RX1 96 yX1_tryWay ∈ wU := List.mem_filter.mpr ⟨List.mem_of_getElem? (i := 656) (by decide +kernel), by decide +kernel⟩
theorem uI_X1_tryWay : Cond.instanceMethod yX1_tryWay ∈ wU := List.mem_filter.mpr ⟨List.mem_of_getElem? (i := 658) (by decide +kernel), by decide +kernel⟩
theorem uC_X1_tryWay : Cond.code yX1_tryWay cX1_tryWay 4 (none) ∈ wU := List.mem_filter.mpr ⟨List.mem_of_getElem? (i := 659) (by decide +kernel), by decide +kernel⟩
theorem uM_X1_125 : Cond.methodLink RX1 125 yX6_areAllHome ∈ wU := List.mem_filter.mpr ⟨List.mem_of_getElem? (i := 660) (by decide +kernel), by decide +kernel⟩
theorem uM_X1_131 : Cond.methodLink RX1 131 yX1_keepWay ∈ wU := List.mem_filter.mpr ⟨List.mem_of_getElem? (i := 661) (by decide +kernel), by decide +kernel⟩
theorem uI_X1_keepWay : Cond.instanceMethod yX1_keepWay ∈ wU := List.mem_filter.mpr ⟨List.mem_of_getElem? (i := 663) (by decide +kernel), by decide +kernel⟩
theorem uC_X1_keepWay : Cond.code yX1_keepWay cX1_keepWay 5 (none) ∈ wU := List.mem_filter.mpr ⟨List.mem_of_getElem? (i := 664) (by decide +kernel), by decide +kernel⟩
theorem uM_X7_166 : Cond.methodLink RX7 166 yX1_bestHour ∈ wU := List.mem_filter.mpr ⟨List.mem_of_getElem? (i := 665) (by decide +kernel), by decide +kernel⟩
theorem uI_X1_bestHour : Cond.instanceMethod yX1_bestHour ∈ wU := List.mem_filter.mpr ⟨List.mem_of_getElem? (i := 666) (by decide +kernel), by decide +kernel⟩
theorem uS_X1_bestHour : Cond.selects RX1 yX1_bestHour yX1_bestHour ∈ wU := List.mem_filter.mpr ⟨List.mem_of_getElem? (i := 667) (by decide +kernel), by decide +kernel⟩
theorem uC_X1_bestHour : Cond.code yX1_bestHour cX1_bestHour 3 (some .int) ∈ wU := List.mem_filter.mpr ⟨List.mem_of_getElem? (i := 668) (by decide +kernel), by decide +kernel⟩
theorem uM_L_84 : Cond.methodLink RL 84 yX7_planned ∈ wU := List.mem_filter.mpr ⟨List.mem_of_getElem? (i := 669) (by decide +kernel), by decide +kernel⟩
theorem uI_X7_planned : Cond.instanceMethod yX7_planned ∈ wU := List.mem_filter.mpr ⟨List.mem_of_getElem? (i := 670) (by decide +kernel), by decide +kernel⟩
theorem uS_X7_planned : Cond.selects RX7 yX7_planned yX7_planned ∈ wU := List.mem_filter.mpr ⟨List.mem_of_getElem? (i := 671) (by decide +kernel), by decide +kernel⟩
theorem uC_X7_planned : Cond.code yX7_planned cX7_planned 2 (some .int) ∈ wU := List.mem_filter.mpr ⟨List.mem_of_getElem? (i := 672) (by decide +kernel), by decide +kernel⟩
theorem uM_X7_169 : Cond.methodLink RX7 169 yX1_hasPlan ∈ wU := List.mem_filter.mpr ⟨List.mem_of_getElem? (i := 673) (by decide +kernel), by decide +kernel⟩
theorem uM_L_88 : Cond.methodLink RL 88 yX7_counted ∈ wU := List.mem_filter.mpr ⟨List.mem_of_getElem? (i := 674) (by decide +kernel), by decide +kernel⟩
theorem uI_X7_counted : Cond.instanceMethod yX7_counted ∈ wU := List.mem_filter.mpr ⟨List.mem_of_getElem? (i := 675) (by decide +kernel), by decide +kernel⟩
theorem uS_X7_counted : Cond.selects RX7 yX7_counted yX7_counted ∈ wU := List.mem_filter.mpr ⟨List.mem_of_getElem? (i := 676) (by decide +kernel), by decide +kernel⟩
theorem uC_X7_counted : Cond.code yX7_counted cX7_counted 5 (some .boolean) ∈ wU := List.mem_filter.mpr ⟨List.mem_of_getElem? (i := 677) (by decide +kernel), by decide +kernel⟩
theorem uM_X7_179 : Cond.methodLink RX7 179 yX7_logOf ∈ wU := List.mem_filter.mpr ⟨List.mem_of_getElem? (i := 678) (by decide +kernel), by decide +kernel⟩
theorem uI_X7_logOf : Cond.instanceMethod yX7_logOf ∈ wU := List.mem_filter.mpr ⟨List.mem_of_getElem? (i := 680) (by decide +kernel), by decide +kernel⟩
theorem uC_X7_logOf : Cond.code yX7_logOf cX7_logOf 2 (some (.object "ShadowRoads$Log")) ∈ wU := List.mem_filter.mpr ⟨List.mem_of_getElem? (i := 681) (by decide +kernel), by decide +kernel⟩
theorem uM_X7_183 : Cond.methodLink RX7 183 yX7_isOver ∈ wU := List.mem_filter.mpr ⟨List.mem_of_getElem? (i := 682) (by decide +kernel), by decide +kernel⟩
theorem uI_X7_isOver : Cond.instanceMethod yX7_isOver ∈ wU := List.mem_filter.mpr ⟨List.mem_of_getElem? (i := 684) (by decide +kernel), by decide +kernel⟩
theorem uC_X7_isOver : Cond.code yX7_isOver cX7_isOver 2 (some .boolean) ∈ wU := List.mem_filter.mpr ⟨List.mem_of_getElem? (i := 685) (by decide +kernel), by decide +kernel⟩
theorem uM_L_92 : Cond.methodLink RL 92 yX7_came ∈ wU := List.mem_filter.mpr ⟨List.mem_of_getElem? (i := 686) (by decide +kernel), by decide +kernel⟩
theorem uI_X7_came : Cond.instanceMethod yX7_came ∈ wU := List.mem_filter.mpr ⟨List.mem_of_getElem? (i := 687) (by decide +kernel), by decide +kernel⟩
theorem uS_X7_came : Cond.selects RX7 yX7_came yX7_came ∈ wU := List.mem_filter.mpr ⟨List.mem_of_getElem? (i := 688) (by decide +kernel), by decide +kernel⟩
theorem uC_X7_came : Cond.code yX7_came cX7_came 6 (some .int) ∈ wU := List.mem_filter.mpr ⟨List.mem_of_getElem? (i := 689) (by decide +kernel), by decide +kernel⟩
theorem uM_X7_189 : Cond.methodLink RX7 189 yX3_atLeast ∈ wU := List.mem_filter.mpr ⟨List.mem_of_getElem? (i := 690) (by decide +kernel), by decide +kernel⟩
theorem uI_X3_atLeast : Cond.instanceMethod yX3_atLeast ∈ wU := List.mem_filter.mpr ⟨List.mem_of_getElem? (i := 691) (by decide +kernel), by decide +kernel⟩
theorem uS_X3_atLeast : Cond.selects RX3 yX3_atLeast yX3_atLeast ∈ wU := List.mem_filter.mpr ⟨List.mem_of_getElem? (i := 692) (by decide +kernel), by decide +kernel⟩
theorem uC_X3_atLeast : Cond.code yX3_atLeast cX3_atLeast 5 (some .int) ∈ wU := List.mem_filter.mpr ⟨List.mem_of_getElem? (i := 693) (by decide +kernel), by decide +kernel⟩
theorem uM_X7_192 : Cond.methodLink RX7 192 yX3_atMost ∈ wU := List.mem_filter.mpr ⟨List.mem_of_getElem? (i := 694) (by decide +kernel), by decide +kernel⟩
theorem uI_X3_atMost : Cond.instanceMethod yX3_atMost ∈ wU := List.mem_filter.mpr ⟨List.mem_of_getElem? (i := 695) (by decide +kernel), by decide +kernel⟩
theorem uS_X3_atMost : Cond.selects RX3 yX3_atMost yX3_atMost ∈ wU := List.mem_filter.mpr ⟨List.mem_of_getElem? (i := 696) (by decide +kernel), by decide +kernel⟩
theorem uC_X3_atMost : Cond.code yX3_atMost cX3_atMost 5 (some .int) ∈ wU := List.mem_filter.mpr ⟨List.mem_of_getElem? (i := 697) (by decide +kernel), by decide +kernel⟩
theorem uM_L_96 : Cond.methodLink RL 96 yX7_out ∈ wU := List.mem_filter.mpr ⟨List.mem_of_getElem? (i := 698) (by decide +kernel), by decide +kernel⟩
theorem uI_X7_out : Cond.instanceMethod yX7_out ∈ wU := List.mem_filter.mpr ⟨List.mem_of_getElem? (i := 699) (by decide +kernel), by decide +kernel⟩
theorem uS_X7_out : Cond.selects RX7 yX7_out yX7_out ∈ wU := List.mem_filter.mpr ⟨List.mem_of_getElem? (i := 700) (by decide +kernel), by decide +kernel⟩
theorem uC_X7_out : Cond.code yX7_out cX7_out 4 (some .int) ∈ wU := List.mem_filter.mpr ⟨List.mem_of_getElem? (i := 701) (by decide +kernel), by decide +kernel⟩
theorem uM_L_100 : Cond.methodLink RL 100 yX7_told ∈ wU := List.mem_filter.mpr ⟨List.mem_of_getElem? (i := 702) (by decide +kernel), by decide +kernel⟩
theorem uI_X7_told : Cond.instanceMethod yX7_told ∈ wU := List.mem_filter.mpr ⟨List.mem_of_getElem? (i := 703) (by decide +kernel), by decide +kernel⟩
theorem uS_X7_told : Cond.selects RX7 yX7_told yX7_told ∈ wU := List.mem_filter.mpr ⟨List.mem_of_getElem? (i := 704) (by decide +kernel), by decide +kernel⟩
theorem uC_X7_told : Cond.code yX7_told cX7_told 3 (some .int) ∈ wU := List.mem_filter.mpr ⟨List.mem_of_getElem? (i := 705) (by decide +kernel), by decide +kernel⟩
theorem uM_X7_201 : Cond.methodLink RX7 201 yX6_lastHourOf ∈ wU := List.mem_filter.mpr ⟨List.mem_of_getElem? (i := 706) (by decide +kernel), by decide +kernel⟩
theorem uI_X6_lastHourOf : Cond.instanceMethod yX6_lastHourOf ∈ wU := List.mem_filter.mpr ⟨List.mem_of_getElem? (i := 707) (by decide +kernel), by decide +kernel⟩
theorem uS_X6_lastHourOf : Cond.selects RX6 yX6_lastHourOf yX6_lastHourOf ∈ wU := List.mem_filter.mpr ⟨List.mem_of_getElem? (i := 708) (by decide +kernel), by decide +kernel⟩
theorem uC_X6_lastHourOf : Cond.code yX6_lastHourOf cX6_lastHourOf 2 (some .int) ∈ wU := List.mem_filter.mpr ⟨List.mem_of_getElem? (i := 709) (by decide +kernel), by decide +kernel⟩
theorem uM_L_104 : Cond.methodLink RL 104 yX7_at ∈ wU := List.mem_filter.mpr ⟨List.mem_of_getElem? (i := 710) (by decide +kernel), by decide +kernel⟩
theorem uI_X7_at : Cond.instanceMethod yX7_at ∈ wU := List.mem_filter.mpr ⟨List.mem_of_getElem? (i := 711) (by decide +kernel), by decide +kernel⟩
theorem uS_X7_at : Cond.selects RX7 yX7_at yX7_at ∈ wU := List.mem_filter.mpr ⟨List.mem_of_getElem? (i := 712) (by decide +kernel), by decide +kernel⟩
theorem uC_X7_at : Cond.code yX7_at cX7_at 3 (some .int) ∈ wU := List.mem_filter.mpr ⟨List.mem_of_getElem? (i := 713) (by decide +kernel), by decide +kernel⟩
theorem uM_L_108 : Cond.methodLink RL 108 yX7_count ∈ wU := List.mem_filter.mpr ⟨List.mem_of_getElem? (i := 714) (by decide +kernel), by decide +kernel⟩
theorem uI_X7_count : Cond.instanceMethod yX7_count ∈ wU := List.mem_filter.mpr ⟨List.mem_of_getElem? (i := 715) (by decide +kernel), by decide +kernel⟩
theorem uS_X7_count : Cond.selects RX7 yX7_count yX7_count ∈ wU := List.mem_filter.mpr ⟨List.mem_of_getElem? (i := 716) (by decide +kernel), by decide +kernel⟩
theorem uC_X7_count : Cond.code yX7_count cX7_count 2 (some .int) ∈ wU := List.mem_filter.mpr ⟨List.mem_of_getElem? (i := 717) (by decide +kernel), by decide +kernel⟩
theorem uM_X7_210 : Cond.methodLink RX7 210 yX6_allQueued ∈ wU := List.mem_filter.mpr ⟨List.mem_of_getElem? (i := 718) (by decide +kernel), by decide +kernel⟩
theorem uI_X6_allQueued : Cond.instanceMethod yX6_allQueued ∈ wU := List.mem_filter.mpr ⟨List.mem_of_getElem? (i := 719) (by decide +kernel), by decide +kernel⟩
theorem uS_X6_allQueued : Cond.selects RX6 yX6_allQueued yX6_allQueued ∈ wU := List.mem_filter.mpr ⟨List.mem_of_getElem? (i := 720) (by decide +kernel), by decide +kernel⟩
theorem uC_X6_allQueued : Cond.code yX6_allQueued cX6_allQueued 3 (some .int) ∈ wU := List.mem_filter.mpr ⟨List.mem_of_getElem? (i := 721) (by decide +kernel), by decide +kernel⟩
theorem uM_X6_89 : Cond.methodLink RX6 89 yX6_queued ∈ wU := List.mem_filter.mpr ⟨List.mem_of_getElem? (i := 722) (by decide +kernel), by decide +kernel⟩
theorem uL_L_10 : Cond.classLink RL 10 RX8 ∈ wU := List.mem_filter.mpr ⟨List.mem_of_getElem? (i := 723) (by decide +kernel), by decide +kernel⟩
theorem uB_X8 : Cond.instantiable RX8 44 ∈ wU := List.mem_filter.mpr ⟨List.mem_of_getElem? (i := 724) (by decide +kernel), by decide +kernel⟩
theorem uM_L_12 : Cond.methodLink RL 12 yX8_init ∈ wU := List.mem_filter.mpr ⟨List.mem_of_getElem? (i := 725) (by decide +kernel), by decide +kernel⟩
theorem uI_X8_init : Cond.instanceMethod yX8_init ∈ wU := List.mem_filter.mpr ⟨List.mem_of_getElem? (i := 726) (by decide +kernel), by decide +kernel⟩
theorem uC_X8_init : Cond.code yX8_init cX8_init 2 (none) ∈ wU := List.mem_filter.mpr ⟨List.mem_of_getElem? (i := 727) (by decide +kernel), by decide +kernel⟩
theorem uM_X8_1 : Cond.methodLink RX8 1 (⟨"java/lang/Object", "<init>", "()V"⟩ : MethodName) ∈ wU := List.mem_filter.mpr ⟨List.mem_of_getElem? (i := 728) (by decide +kernel), by decide +kernel⟩
theorem uM_X8_108 : Cond.methodLink RX8 108 yX8_reckons ∈ wU := List.mem_filter.mpr ⟨List.mem_of_getElem? (i := 729) (by decide +kernel), by decide +kernel⟩
theorem uI_X8_reckons : Cond.instanceMethod yX8_reckons ∈ wU := List.mem_filter.mpr ⟨List.mem_of_getElem? (i := 731) (by decide +kernel), by decide +kernel⟩
theorem uC_X8_reckons : Cond.code yX8_reckons cX8_reckons 5 (none) ∈ wU := List.mem_filter.mpr ⟨List.mem_of_getElem? (i := 732) (by decide +kernel), by decide +kernel⟩
theorem uF_X8_111 : Cond.fieldLink RX8 111 "ShadowRoadsModel" "towns" "I" ∈ wU := List.mem_filter.mpr ⟨List.mem_of_getElem? (i := 733) (by decide +kernel), by decide +kernel⟩
theorem uF_X8_9 : Cond.fieldLink RX8 9 "ShadowRoadsModel" "far" "[I" ∈ wU := List.mem_filter.mpr ⟨List.mem_of_getElem? (i := 734) (by decide +kernel), by decide +kernel⟩
theorem uF_X8_13 : Cond.fieldLink RX8 13 "ShadowRoadsModel" "clouds" "[I" ∈ wU := List.mem_filter.mpr ⟨List.mem_of_getElem? (i := 735) (by decide +kernel), by decide +kernel⟩
theorem uF_X8_16 : Cond.fieldLink RX8 16 "ShadowRoadsModel" "width" "I" ∈ wU := List.mem_filter.mpr ⟨List.mem_of_getElem? (i := 736) (by decide +kernel), by decide +kernel⟩
theorem uF_X8_118 : Cond.fieldLink RX8 118 "ShadowRoadsModel" "roads" "I" ∈ wU := List.mem_filter.mpr ⟨List.mem_of_getElem? (i := 737) (by decide +kernel), by decide +kernel⟩
theorem uF_X8_20 : Cond.fieldLink RX8 20 "ShadowRoadsModel" "from" "[I" ∈ wU := List.mem_filter.mpr ⟨List.mem_of_getElem? (i := 738) (by decide +kernel), by decide +kernel⟩
theorem uF_X8_23 : Cond.fieldLink RX8 23 "ShadowRoadsModel" "to" "[I" ∈ wU := List.mem_filter.mpr ⟨List.mem_of_getElem? (i := 739) (by decide +kernel), by decide +kernel⟩
theorem uF_X8_26 : Cond.fieldLink RX8 26 "ShadowRoadsModel" "lets" "[I" ∈ wU := List.mem_filter.mpr ⟨List.mem_of_getElem? (i := 740) (by decide +kernel), by decide +kernel⟩
theorem uF_X8_29 : Cond.fieldLink RX8 29 "ShadowRoadsModel" "hours" "[I" ∈ wU := List.mem_filter.mpr ⟨List.mem_of_getElem? (i := 741) (by decide +kernel), by decide +kernel⟩
theorem uF_X8_32 : Cond.fieldLink RX8 32 "ShadowRoadsModel" "shutFrom" "[I" ∈ wU := List.mem_filter.mpr ⟨List.mem_of_getElem? (i := 742) (by decide +kernel), by decide +kernel⟩
theorem uF_X8_35 : Cond.fieldLink RX8 35 "ShadowRoadsModel" "shutTo" "[I" ∈ wU := List.mem_filter.mpr ⟨List.mem_of_getElem? (i := 743) (by decide +kernel), by decide +kernel⟩
theorem uF_X8_38 : Cond.fieldLink RX8 38 "ShadowRoadsModel" "least" "[I" ∈ wU := List.mem_filter.mpr ⟨List.mem_of_getElem? (i := 744) (by decide +kernel), by decide +kernel⟩
theorem uF_X8_121 : Cond.fieldLink RX8 121 "ShadowRoadsModel" "crowds" "I" ∈ wU := List.mem_filter.mpr ⟨List.mem_of_getElem? (i := 745) (by decide +kernel), by decide +kernel⟩
theorem uF_X8_41 : Cond.fieldLink RX8 41 "ShadowRoadsModel" "place" "[I" ∈ wU := List.mem_filter.mpr ⟨List.mem_of_getElem? (i := 746) (by decide +kernel), by decide +kernel⟩
theorem uF_X8_44 : Cond.fieldLink RX8 44 "ShadowRoadsModel" "cars" "[I" ∈ wU := List.mem_filter.mpr ⟨List.mem_of_getElem? (i := 747) (by decide +kernel), by decide +kernel⟩
theorem uF_X8_47 : Cond.fieldLink RX8 47 "ShadowRoadsModel" "home" "[I" ∈ wU := List.mem_filter.mpr ⟨List.mem_of_getElem? (i := 748) (by decide +kernel), by decide +kernel⟩
theorem uF_X8_50 : Cond.fieldLink RX8 50 "ShadowRoadsModel" "letGo" "[I" ∈ wU := List.mem_filter.mpr ⟨List.mem_of_getElem? (i := 749) (by decide +kernel), by decide +kernel⟩
theorem uF_X8_53 : Cond.fieldLink RX8 53 "ShadowRoadsModel" "count" "[I" ∈ wU := List.mem_filter.mpr ⟨List.mem_of_getElem? (i := 750) (by decide +kernel), by decide +kernel⟩
theorem uF_X8_56 : Cond.fieldLink RX8 56 "ShadowRoadsModel" "outs" "[I" ∈ wU := List.mem_filter.mpr ⟨List.mem_of_getElem? (i := 751) (by decide +kernel), by decide +kernel⟩
theorem uF_X8_59 : Cond.fieldLink RX8 59 "ShadowRoadsModel" "wasShut" "[Z" ∈ wU := List.mem_filter.mpr ⟨List.mem_of_getElem? (i := 752) (by decide +kernel), by decide +kernel⟩
theorem uF_X8_129 : Cond.fieldLink RX8 129 "ShadowRoadsModel" "now" "I" ∈ wU := List.mem_filter.mpr ⟨List.mem_of_getElem? (i := 753) (by decide +kernel), by decide +kernel⟩
theorem uF_X8_148 : Cond.fieldLink RX8 148 "ShadowRoadsModel" "lumps" "I" ∈ wU := List.mem_filter.mpr ⟨List.mem_of_getElem? (i := 754) (by decide +kernel), by decide +kernel⟩
theorem uF_X8_63 : Cond.fieldLink RX8 63 "ShadowRoadsModel" "lumpCrowd" "[I" ∈ wU := List.mem_filter.mpr ⟨List.mem_of_getElem? (i := 755) (by decide +kernel), by decide +kernel⟩
theorem uF_X8_66 : Cond.fieldLink RX8 66 "ShadowRoadsModel" "lumpCars" "[I" ∈ wU := List.mem_filter.mpr ⟨List.mem_of_getElem? (i := 756) (by decide +kernel), by decide +kernel⟩
theorem uF_X8_69 : Cond.fieldLink RX8 69 "ShadowRoadsModel" "lumpComes" "[I" ∈ wU := List.mem_filter.mpr ⟨List.mem_of_getElem? (i := 757) (by decide +kernel), by decide +kernel⟩
theorem uF_X8_72 : Cond.fieldLink RX8 72 "ShadowRoadsModel" "next" "[I" ∈ wU := List.mem_filter.mpr ⟨List.mem_of_getElem? (i := 758) (by decide +kernel), by decide +kernel⟩
theorem uF_X8_75 : Cond.fieldLink RX8 75 "ShadowRoadsModel" "chainHead" "[I" ∈ wU := List.mem_filter.mpr ⟨List.mem_of_getElem? (i := 759) (by decide +kernel), by decide +kernel⟩
theorem uF_X8_78 : Cond.fieldLink RX8 78 "ShadowRoadsModel" "chainTail" "[I" ∈ wU := List.mem_filter.mpr ⟨List.mem_of_getElem? (i := 760) (by decide +kernel), by decide +kernel⟩
theorem uF_X8_81 : Cond.fieldLink RX8 81 "ShadowRoadsModel" "isOff" "[Z" ∈ wU := List.mem_filter.mpr ⟨List.mem_of_getElem? (i := 761) (by decide +kernel), by decide +kernel⟩
theorem uF_X8_84 : Cond.fieldLink RX8 84 "ShadowRoadsModel" "atHome" "[I" ∈ wU := List.mem_filter.mpr ⟨List.mem_of_getElem? (i := 762) (by decide +kernel), by decide +kernel⟩
theorem uF_X8_87 : Cond.fieldLink RX8 87 "ShadowRoadsModel" "lastHome" "[I" ∈ wU := List.mem_filter.mpr ⟨List.mem_of_getElem? (i := 763) (by decide +kernel), by decide +kernel⟩
theorem uF_X8_90 : Cond.fieldLink RX8 90 "ShadowRoadsModel" "water" "[I" ∈ wU := List.mem_filter.mpr ⟨List.mem_of_getElem? (i := 764) (by decide +kernel), by decide +kernel⟩
theorem uF_X8_93 : Cond.fieldLink RX8 93 "ShadowRoadsModel" "lacked" "[I" ∈ wU := List.mem_filter.mpr ⟨List.mem_of_getElem? (i := 765) (by decide +kernel), by decide +kernel⟩
theorem uF_X8_96 : Cond.fieldLink RX8 96 "ShadowRoadsModel" "lacksIn" "[I" ∈ wU := List.mem_filter.mpr ⟨List.mem_of_getElem? (i := 766) (by decide +kernel), by decide +kernel⟩
theorem uF_X8_176 : Cond.fieldLink RX8 176 "ShadowRoadsModel" "waited" "I" ∈ wU := List.mem_filter.mpr ⟨List.mem_of_getElem? (i := 767) (by decide +kernel), by decide +kernel⟩
theorem uF_X8_99 : Cond.fieldLink RX8 99 "ShadowRoadsModel" "kept" "[I" ∈ wU := List.mem_filter.mpr ⟨List.mem_of_getElem? (i := 768) (by decide +kernel), by decide +kernel⟩
theorem uF_X8_190 : Cond.fieldLink RX8 190 "ShadowRoadsModel" "swap" "I" ∈ wU := List.mem_filter.mpr ⟨List.mem_of_getElem? (i := 769) (by decide +kernel), by decide +kernel⟩
theorem uF_X8_203 : Cond.fieldLink RX8 203 "ShadowRoadsModel" "foreLast" "I" ∈ wU := List.mem_filter.mpr ⟨List.mem_of_getElem? (i := 770) (by decide +kernel), by decide +kernel⟩
theorem uF_X8_200 : Cond.fieldLink RX8 200 "ShadowRoadsModel" "foreWaited" "I" ∈ wU := List.mem_filter.mpr ⟨List.mem_of_getElem? (i := 771) (by decide +kernel), by decide +kernel⟩
theorem uF_X8_102 : Cond.fieldLink RX8 102 "ShadowRoadsModel" "few" "[I" ∈ wU := List.mem_filter.mpr ⟨List.mem_of_getElem? (i := 772) (by decide +kernel), by decide +kernel⟩
theorem uF_X8_105 : Cond.fieldLink RX8 105 "ShadowRoadsModel" "was" "[I" ∈ wU := List.mem_filter.mpr ⟨List.mem_of_getElem? (i := 773) (by decide +kernel), by decide +kernel⟩
theorem uF_X8_215 : Cond.fieldLink RX8 215 "ShadowRoadsModel" "bestCode" "I" ∈ wU := List.mem_filter.mpr ⟨List.mem_of_getElem? (i := 774) (by decide +kernel), by decide +kernel⟩
theorem uF_X8_209 : Cond.fieldLink RX8 209 "ShadowRoadsModel" "bestLast" "I" ∈ wU := List.mem_filter.mpr ⟨List.mem_of_getElem? (i := 775) (by decide +kernel), by decide +kernel⟩
theorem uF_X8_212 : Cond.fieldLink RX8 212 "ShadowRoadsModel" "bestWaited" "I" ∈ wU := List.mem_filter.mpr ⟨List.mem_of_getElem? (i := 776) (by decide +kernel), by decide +kernel⟩
theorem uA_866 : Cond.arrayClass .boolean ∈ lw_tbl := List.mem_of_getElem? (i := 866) (by decide +kernel)
theorem uM_L_17 : Cond.methodLink RL 17 yX8_town ∈ wU := List.mem_filter.mpr ⟨List.mem_of_getElem? (i := 867) (by decide +kernel), by decide +kernel⟩
theorem uI_X8_town : Cond.instanceMethod yX8_town ∈ wU := List.mem_filter.mpr ⟨List.mem_of_getElem? (i := 868) (by decide +kernel), by decide +kernel⟩
theorem uS_X8_town : Cond.selects RX8 yX8_town yX8_town ∈ wU := List.mem_filter.mpr ⟨List.mem_of_getElem? (i := 869) (by decide +kernel), by decide +kernel⟩
theorem uC_X8_town : Cond.code yX8_town cX8_town 3 (some .int) ∈ wU := List.mem_filter.mpr ⟨List.mem_of_getElem? (i := 870) (by decide +kernel), by decide +kernel⟩
theorem uM_X8_114 : Cond.methodLink RX8 114 yX8_in ∈ wU := List.mem_filter.mpr ⟨List.mem_of_getElem? (i := 871) (by decide +kernel), by decide +kernel⟩
theorem uZ_X8_in : Cond.static yX8_in ∈ wU := List.mem_filter.mpr ⟨List.mem_of_getElem? (i := 872) (by decide +kernel), by decide +kernel⟩
theorem uC_X8_in : Cond.code yX8_in cX8_in 3 (some .boolean) ∈ wU := List.mem_filter.mpr ⟨List.mem_of_getElem? (i := 873) (by decide +kernel), by decide +kernel⟩
theorem uJ_X8_124 : Cond.constant RX8 124 (1000000) ∈ wU := List.mem_filter.mpr ⟨List.mem_of_getElem? (i := 874) (by decide +kernel), by decide +kernel⟩
theorem uM_L_22 : Cond.methodLink RL 22 yX8_path ∈ wU := List.mem_filter.mpr ⟨List.mem_of_getElem? (i := 875) (by decide +kernel), by decide +kernel⟩
theorem uI_X8_path : Cond.instanceMethod yX8_path ∈ wU := List.mem_filter.mpr ⟨List.mem_of_getElem? (i := 876) (by decide +kernel), by decide +kernel⟩
theorem uS_X8_path : Cond.selects RX8 yX8_path yX8_path ∈ wU := List.mem_filter.mpr ⟨List.mem_of_getElem? (i := 877) (by decide +kernel), by decide +kernel⟩
theorem uC_X8_path : Cond.code yX8_path cX8_path 2 (some .boolean) ∈ wU := List.mem_filter.mpr ⟨List.mem_of_getElem? (i := 878) (by decide +kernel), by decide +kernel⟩
theorem uM_L_27 : Cond.methodLink RL 27 yX8_seconds ∈ wU := List.mem_filter.mpr ⟨List.mem_of_getElem? (i := 879) (by decide +kernel), by decide +kernel⟩
theorem uI_X8_seconds : Cond.instanceMethod yX8_seconds ∈ wU := List.mem_filter.mpr ⟨List.mem_of_getElem? (i := 880) (by decide +kernel), by decide +kernel⟩
theorem uS_X8_seconds : Cond.selects RX8 yX8_seconds yX8_seconds ∈ wU := List.mem_filter.mpr ⟨List.mem_of_getElem? (i := 881) (by decide +kernel), by decide +kernel⟩
theorem uC_X8_seconds : Cond.code yX8_seconds cX8_seconds 4 (some .int) ∈ wU := List.mem_filter.mpr ⟨List.mem_of_getElem? (i := 882) (by decide +kernel), by decide +kernel⟩
theorem uM_X8_125 : Cond.methodLink RX8 125 yX8_isTown ∈ wU := List.mem_filter.mpr ⟨List.mem_of_getElem? (i := 883) (by decide +kernel), by decide +kernel⟩
theorem uI_X8_isTown : Cond.instanceMethod yX8_isTown ∈ wU := List.mem_filter.mpr ⟨List.mem_of_getElem? (i := 885) (by decide +kernel), by decide +kernel⟩
theorem uC_X8_isTown : Cond.code yX8_isTown cX8_isTown 2 (some .boolean) ∈ wU := List.mem_filter.mpr ⟨List.mem_of_getElem? (i := 886) (by decide +kernel), by decide +kernel⟩
theorem uM_L_32 : Cond.methodLink RL 32 yX8_clouds ∈ wU := List.mem_filter.mpr ⟨List.mem_of_getElem? (i := 887) (by decide +kernel), by decide +kernel⟩
theorem uI_X8_clouds : Cond.instanceMethod yX8_clouds ∈ wU := List.mem_filter.mpr ⟨List.mem_of_getElem? (i := 888) (by decide +kernel), by decide +kernel⟩
theorem uS_X8_clouds : Cond.selects RX8 yX8_clouds yX8_clouds ∈ wU := List.mem_filter.mpr ⟨List.mem_of_getElem? (i := 889) (by decide +kernel), by decide +kernel⟩
theorem uC_X8_clouds : Cond.code yX8_clouds cX8_clouds 3 (some .boolean) ∈ wU := List.mem_filter.mpr ⟨List.mem_of_getElem? (i := 890) (by decide +kernel), by decide +kernel⟩
theorem uM_L_37 : Cond.methodLink RL 37 yX8_road ∈ wU := List.mem_filter.mpr ⟨List.mem_of_getElem? (i := 891) (by decide +kernel), by decide +kernel⟩
theorem uI_X8_road : Cond.instanceMethod yX8_road ∈ wU := List.mem_filter.mpr ⟨List.mem_of_getElem? (i := 892) (by decide +kernel), by decide +kernel⟩
theorem uS_X8_road : Cond.selects RX8 yX8_road yX8_road ∈ wU := List.mem_filter.mpr ⟨List.mem_of_getElem? (i := 893) (by decide +kernel), by decide +kernel⟩
theorem uC_X8_road : Cond.code yX8_road cX8_road 5 (some .int) ∈ wU := List.mem_filter.mpr ⟨List.mem_of_getElem? (i := 894) (by decide +kernel), by decide +kernel⟩
theorem uM_L_41 : Cond.methodLink RL 41 yX8_least ∈ wU := List.mem_filter.mpr ⟨List.mem_of_getElem? (i := 895) (by decide +kernel), by decide +kernel⟩
theorem uI_X8_least : Cond.instanceMethod yX8_least ∈ wU := List.mem_filter.mpr ⟨List.mem_of_getElem? (i := 896) (by decide +kernel), by decide +kernel⟩
theorem uS_X8_least : Cond.selects RX8 yX8_least yX8_least ∈ wU := List.mem_filter.mpr ⟨List.mem_of_getElem? (i := 897) (by decide +kernel), by decide +kernel⟩
theorem uC_X8_least : Cond.code yX8_least cX8_least 4 (some .int) ∈ wU := List.mem_filter.mpr ⟨List.mem_of_getElem? (i := 898) (by decide +kernel), by decide +kernel⟩
theorem uM_L_46 : Cond.methodLink RL 46 yX8_crowd ∈ wU := List.mem_filter.mpr ⟨List.mem_of_getElem? (i := 899) (by decide +kernel), by decide +kernel⟩
theorem uI_X8_crowd : Cond.instanceMethod yX8_crowd ∈ wU := List.mem_filter.mpr ⟨List.mem_of_getElem? (i := 900) (by decide +kernel), by decide +kernel⟩
theorem uS_X8_crowd : Cond.selects RX8 yX8_crowd yX8_crowd ∈ wU := List.mem_filter.mpr ⟨List.mem_of_getElem? (i := 901) (by decide +kernel), by decide +kernel⟩
theorem uC_X8_crowd : Cond.code yX8_crowd cX8_crowd 4 (some .int) ∈ wU := List.mem_filter.mpr ⟨List.mem_of_getElem? (i := 902) (by decide +kernel), by decide +kernel⟩
theorem uM_X8_132 : Cond.methodLink RX8 132 yX8_least ∈ wU := List.mem_filter.mpr ⟨List.mem_of_getElem? (i := 903) (by decide +kernel), by decide +kernel⟩
theorem uM_L_50 : Cond.methodLink RL 50 yX8_dawn ∈ wU := List.mem_filter.mpr ⟨List.mem_of_getElem? (i := 904) (by decide +kernel), by decide +kernel⟩
theorem uI_X8_dawn : Cond.instanceMethod yX8_dawn ∈ wU := List.mem_filter.mpr ⟨List.mem_of_getElem? (i := 905) (by decide +kernel), by decide +kernel⟩
theorem uS_X8_dawn : Cond.selects RX8 yX8_dawn yX8_dawn ∈ wU := List.mem_filter.mpr ⟨List.mem_of_getElem? (i := 906) (by decide +kernel), by decide +kernel⟩
theorem uC_X8_dawn : Cond.code yX8_dawn cX8_dawn 7 (some .int) ∈ wU := List.mem_filter.mpr ⟨List.mem_of_getElem? (i := 907) (by decide +kernel), by decide +kernel⟩
theorem uM_X8_139 : Cond.methodLink RX8 139 yX8_worth ∈ wU := List.mem_filter.mpr ⟨List.mem_of_getElem? (i := 908) (by decide +kernel), by decide +kernel⟩
theorem uI_X8_worth : Cond.instanceMethod yX8_worth ∈ wU := List.mem_filter.mpr ⟨List.mem_of_getElem? (i := 910) (by decide +kernel), by decide +kernel⟩
theorem uC_X8_worth : Cond.code yX8_worth cX8_worth 2 (some .int) ∈ wU := List.mem_filter.mpr ⟨List.mem_of_getElem? (i := 911) (by decide +kernel), by decide +kernel⟩
theorem uM_X8_135 : Cond.methodLink RX8 135 yX8_seconds ∈ wU := List.mem_filter.mpr ⟨List.mem_of_getElem? (i := 912) (by decide +kernel), by decide +kernel⟩
theorem uM_L_54 : Cond.methodLink RL 54 yX8_hold ∈ wU := List.mem_filter.mpr ⟨List.mem_of_getElem? (i := 913) (by decide +kernel), by decide +kernel⟩
theorem uI_X8_hold : Cond.instanceMethod yX8_hold ∈ wU := List.mem_filter.mpr ⟨List.mem_of_getElem? (i := 914) (by decide +kernel), by decide +kernel⟩
theorem uS_X8_hold : Cond.selects RX8 yX8_hold yX8_hold ∈ wU := List.mem_filter.mpr ⟨List.mem_of_getElem? (i := 915) (by decide +kernel), by decide +kernel⟩
theorem uC_X8_hold : Cond.code yX8_hold cX8_hold 3 (some .boolean) ∈ wU := List.mem_filter.mpr ⟨List.mem_of_getElem? (i := 916) (by decide +kernel), by decide +kernel⟩
theorem uM_X8_142 : Cond.methodLink RX8 142 yX8_isCrowd ∈ wU := List.mem_filter.mpr ⟨List.mem_of_getElem? (i := 917) (by decide +kernel), by decide +kernel⟩
theorem uI_X8_isCrowd : Cond.instanceMethod yX8_isCrowd ∈ wU := List.mem_filter.mpr ⟨List.mem_of_getElem? (i := 919) (by decide +kernel), by decide +kernel⟩
theorem uC_X8_isCrowd : Cond.code yX8_isCrowd cX8_isCrowd 2 (some .boolean) ∈ wU := List.mem_filter.mpr ⟨List.mem_of_getElem? (i := 920) (by decide +kernel), by decide +kernel⟩
theorem uM_L_59 : Cond.methodLink RL 59 yX8_shut ∈ wU := List.mem_filter.mpr ⟨List.mem_of_getElem? (i := 921) (by decide +kernel), by decide +kernel⟩
theorem uI_X8_shut : Cond.instanceMethod yX8_shut ∈ wU := List.mem_filter.mpr ⟨List.mem_of_getElem? (i := 922) (by decide +kernel), by decide +kernel⟩
theorem uS_X8_shut : Cond.selects RX8 yX8_shut yX8_shut ∈ wU := List.mem_filter.mpr ⟨List.mem_of_getElem? (i := 923) (by decide +kernel), by decide +kernel⟩
theorem uC_X8_shut : Cond.code yX8_shut cX8_shut 4 (some .boolean) ∈ wU := List.mem_filter.mpr ⟨List.mem_of_getElem? (i := 924) (by decide +kernel), by decide +kernel⟩
theorem uM_X8_145 : Cond.methodLink RX8 145 yX8_isRoad ∈ wU := List.mem_filter.mpr ⟨List.mem_of_getElem? (i := 925) (by decide +kernel), by decide +kernel⟩
theorem uI_X8_isRoad : Cond.instanceMethod yX8_isRoad ∈ wU := List.mem_filter.mpr ⟨List.mem_of_getElem? (i := 927) (by decide +kernel), by decide +kernel⟩
theorem uC_X8_isRoad : Cond.code yX8_isRoad cX8_isRoad 2 (some .boolean) ∈ wU := List.mem_filter.mpr ⟨List.mem_of_getElem? (i := 928) (by decide +kernel), by decide +kernel⟩
theorem uM_L_63 : Cond.methodLink RL 63 yX8_go ∈ wU := List.mem_filter.mpr ⟨List.mem_of_getElem? (i := 929) (by decide +kernel), by decide +kernel⟩
theorem uI_X8_go : Cond.instanceMethod yX8_go ∈ wU := List.mem_filter.mpr ⟨List.mem_of_getElem? (i := 930) (by decide +kernel), by decide +kernel⟩
theorem uS_X8_go : Cond.selects RX8 yX8_go yX8_go ∈ wU := List.mem_filter.mpr ⟨List.mem_of_getElem? (i := 931) (by decide +kernel), by decide +kernel⟩
theorem uC_X8_go : Cond.code yX8_go cX8_go 3 (some .int) ∈ wU := List.mem_filter.mpr ⟨List.mem_of_getElem? (i := 932) (by decide +kernel), by decide +kernel⟩
theorem uM_X8_186 : Cond.methodLink RX8 186 yX8_hour ∈ wU := List.mem_filter.mpr ⟨List.mem_of_getElem? (i := 933) (by decide +kernel), by decide +kernel⟩
theorem uI_X8_hour : Cond.instanceMethod yX8_hour ∈ wU := List.mem_filter.mpr ⟨List.mem_of_getElem? (i := 935) (by decide +kernel), by decide +kernel⟩
theorem uC_X8_hour : Cond.code yX8_hour cX8_hour 4 (none) ∈ wU := List.mem_filter.mpr ⟨List.mem_of_getElem? (i := 936) (by decide +kernel), by decide +kernel⟩
theorem uM_X8_161 : Cond.methodLink RX8 161 yX8_takes ∈ wU := List.mem_filter.mpr ⟨List.mem_of_getElem? (i := 937) (by decide +kernel), by decide +kernel⟩
theorem uI_X8_takes : Cond.instanceMethod yX8_takes ∈ wU := List.mem_filter.mpr ⟨List.mem_of_getElem? (i := 939) (by decide +kernel), by decide +kernel⟩
theorem uC_X8_takes : Cond.code yX8_takes cX8_takes 3 (some .int) ∈ wU := List.mem_filter.mpr ⟨List.mem_of_getElem? (i := 940) (by decide +kernel), by decide +kernel⟩
theorem uM_X8_167 : Cond.methodLink RX8 167 yX8_arrives ∈ wU := List.mem_filter.mpr ⟨List.mem_of_getElem? (i := 941) (by decide +kernel), by decide +kernel⟩
theorem uI_X8_arrives : Cond.instanceMethod yX8_arrives ∈ wU := List.mem_filter.mpr ⟨List.mem_of_getElem? (i := 943) (by decide +kernel), by decide +kernel⟩
theorem uC_X8_arrives : Cond.code yX8_arrives cX8_arrives 4 (none) ∈ wU := List.mem_filter.mpr ⟨List.mem_of_getElem? (i := 944) (by decide +kernel), by decide +kernel⟩
theorem uM_X8_151 : Cond.methodLink RX8 151 yX8_way ∈ wU := List.mem_filter.mpr ⟨List.mem_of_getElem? (i := 945) (by decide +kernel), by decide +kernel⟩
theorem uI_X8_way : Cond.instanceMethod yX8_way ∈ wU := List.mem_filter.mpr ⟨List.mem_of_getElem? (i := 947) (by decide +kernel), by decide +kernel⟩
theorem uC_X8_way : Cond.code yX8_way cX8_way 4 (some .int) ∈ wU := List.mem_filter.mpr ⟨List.mem_of_getElem? (i := 948) (by decide +kernel), by decide +kernel⟩
theorem uM_X8_154 : Cond.methodLink RX8 154 yX8_adds ∈ wU := List.mem_filter.mpr ⟨List.mem_of_getElem? (i := 949) (by decide +kernel), by decide +kernel⟩
theorem uI_X8_adds : Cond.instanceMethod yX8_adds ∈ wU := List.mem_filter.mpr ⟨List.mem_of_getElem? (i := 951) (by decide +kernel), by decide +kernel⟩
theorem uC_X8_adds : Cond.code yX8_adds cX8_adds 3 (none) ∈ wU := List.mem_filter.mpr ⟨List.mem_of_getElem? (i := 952) (by decide +kernel), by decide +kernel⟩
theorem uM_X8_158 : Cond.methodLink RX8 158 yX8_newLump ∈ wU := List.mem_filter.mpr ⟨List.mem_of_getElem? (i := 953) (by decide +kernel), by decide +kernel⟩
theorem uI_X8_newLump : Cond.instanceMethod yX8_newLump ∈ wU := List.mem_filter.mpr ⟨List.mem_of_getElem? (i := 955) (by decide +kernel), by decide +kernel⟩
theorem uC_X8_newLump : Cond.code yX8_newLump cX8_newLump 3 (some .int) ∈ wU := List.mem_filter.mpr ⟨List.mem_of_getElem? (i := 956) (by decide +kernel), by decide +kernel⟩
theorem uM_X8_170 : Cond.methodLink RX8 170 yX8_isShut ∈ wU := List.mem_filter.mpr ⟨List.mem_of_getElem? (i := 957) (by decide +kernel), by decide +kernel⟩
theorem uI_X8_isShut : Cond.instanceMethod yX8_isShut ∈ wU := List.mem_filter.mpr ⟨List.mem_of_getElem? (i := 959) (by decide +kernel), by decide +kernel⟩
theorem uC_X8_isShut : Cond.code yX8_isShut cX8_isShut 2 (some .boolean) ∈ wU := List.mem_filter.mpr ⟨List.mem_of_getElem? (i := 960) (by decide +kernel), by decide +kernel⟩
theorem uM_X8_173 : Cond.methodLink RX8 173 yX8_setsOut ∈ wU := List.mem_filter.mpr ⟨List.mem_of_getElem? (i := 961) (by decide +kernel), by decide +kernel⟩
theorem uI_X8_setsOut : Cond.instanceMethod yX8_setsOut ∈ wU := List.mem_filter.mpr ⟨List.mem_of_getElem? (i := 963) (by decide +kernel), by decide +kernel⟩
theorem uC_X8_setsOut : Cond.code yX8_setsOut cX8_setsOut 4 (some .int) ∈ wU := List.mem_filter.mpr ⟨List.mem_of_getElem? (i := 964) (by decide +kernel), by decide +kernel⟩
theorem uM_X8_164 : Cond.methodLink RX8 164 yX8_carsIn ∈ wU := List.mem_filter.mpr ⟨List.mem_of_getElem? (i := 965) (by decide +kernel), by decide +kernel⟩
theorem uI_X8_carsIn : Cond.instanceMethod yX8_carsIn ∈ wU := List.mem_filter.mpr ⟨List.mem_of_getElem? (i := 967) (by decide +kernel), by decide +kernel⟩
theorem uC_X8_carsIn : Cond.code yX8_carsIn cX8_carsIn 4 (some .int) ∈ wU := List.mem_filter.mpr ⟨List.mem_of_getElem? (i := 968) (by decide +kernel), by decide +kernel⟩
theorem uM_X8_179 : Cond.methodLink RX8 179 yX8_drinks ∈ wU := List.mem_filter.mpr ⟨List.mem_of_getElem? (i := 969) (by decide +kernel), by decide +kernel⟩
theorem uI_X8_drinks : Cond.instanceMethod yX8_drinks ∈ wU := List.mem_filter.mpr ⟨List.mem_of_getElem? (i := 971) (by decide +kernel), by decide +kernel⟩
theorem uC_X8_drinks : Cond.code yX8_drinks cX8_drinks 3 (none) ∈ wU := List.mem_filter.mpr ⟨List.mem_of_getElem? (i := 972) (by decide +kernel), by decide +kernel⟩
theorem uM_X8_183 : Cond.methodLink RX8 183 yX8_carsAt ∈ wU := List.mem_filter.mpr ⟨List.mem_of_getElem? (i := 973) (by decide +kernel), by decide +kernel⟩
theorem uI_X8_carsAt : Cond.instanceMethod yX8_carsAt ∈ wU := List.mem_filter.mpr ⟨List.mem_of_getElem? (i := 975) (by decide +kernel), by decide +kernel⟩
theorem uC_X8_carsAt : Cond.code yX8_carsAt cX8_carsAt 4 (some .int) ∈ wU := List.mem_filter.mpr ⟨List.mem_of_getElem? (i := 976) (by decide +kernel), by decide +kernel⟩
theorem uM_L_75 : Cond.methodLink RL 75 yX8_foretold ∈ wU := List.mem_filter.mpr ⟨List.mem_of_getElem? (i := 977) (by decide +kernel), by decide +kernel⟩
theorem uI_X8_foretold : Cond.instanceMethod yX8_foretold ∈ wU := List.mem_filter.mpr ⟨List.mem_of_getElem? (i := 978) (by decide +kernel), by decide +kernel⟩
theorem uS_X8_foretold : Cond.selects RX8 yX8_foretold yX8_foretold ∈ wU := List.mem_filter.mpr ⟨List.mem_of_getElem? (i := 979) (by decide +kernel), by decide +kernel⟩
theorem uC_X8_foretold : Cond.code yX8_foretold cX8_foretold 2 (some .int) ∈ wU := List.mem_filter.mpr ⟨List.mem_of_getElem? (i := 980) (by decide +kernel), by decide +kernel⟩
theorem uM_X8_206 : Cond.methodLink RX8 206 yX8_foresees ∈ wU := List.mem_filter.mpr ⟨List.mem_of_getElem? (i := 981) (by decide +kernel), by decide +kernel⟩
theorem uI_X8_foresees : Cond.instanceMethod yX8_foresees ∈ wU := List.mem_filter.mpr ⟨List.mem_of_getElem? (i := 983) (by decide +kernel), by decide +kernel⟩
theorem uC_X8_foresees : Cond.code yX8_foresees cX8_foresees 4 (none) ∈ wU := List.mem_filter.mpr ⟨List.mem_of_getElem? (i := 984) (by decide +kernel), by decide +kernel⟩
theorem uM_X8_197 : Cond.methodLink RX8 197 yX8_all ∈ wU := List.mem_filter.mpr ⟨List.mem_of_getElem? (i := 985) (by decide +kernel), by decide +kernel⟩
theorem uI_X8_all : Cond.instanceMethod yX8_all ∈ wU := List.mem_filter.mpr ⟨List.mem_of_getElem? (i := 987) (by decide +kernel), by decide +kernel⟩
theorem uC_X8_all : Cond.code yX8_all cX8_all 3 (none) ∈ wU := List.mem_filter.mpr ⟨List.mem_of_getElem? (i := 988) (by decide +kernel), by decide +kernel⟩
theorem uM_X8_193 : Cond.methodLink RX8 193 yX8_keeps ∈ wU := List.mem_filter.mpr ⟨List.mem_of_getElem? (i := 989) (by decide +kernel), by decide +kernel⟩
theorem uI_X8_keeps : Cond.instanceMethod yX8_keeps ∈ wU := List.mem_filter.mpr ⟨List.mem_of_getElem? (i := 991) (by decide +kernel), by decide +kernel⟩
theorem uC_X8_keeps : Cond.code yX8_keeps cX8_keeps 4 (some .int) ∈ wU := List.mem_filter.mpr ⟨List.mem_of_getElem? (i := 992) (by decide +kernel), by decide +kernel⟩
theorem uM_L_79 : Cond.methodLink RL 79 yX8_lacks ∈ wU := List.mem_filter.mpr ⟨List.mem_of_getElem? (i := 993) (by decide +kernel), by decide +kernel⟩
theorem uI_X8_lacks : Cond.instanceMethod yX8_lacks ∈ wU := List.mem_filter.mpr ⟨List.mem_of_getElem? (i := 994) (by decide +kernel), by decide +kernel⟩
theorem uS_X8_lacks : Cond.selects RX8 yX8_lacks yX8_lacks ∈ wU := List.mem_filter.mpr ⟨List.mem_of_getElem? (i := 995) (by decide +kernel), by decide +kernel⟩
theorem uC_X8_lacks : Cond.code yX8_lacks cX8_lacks 2 (some .int) ∈ wU := List.mem_filter.mpr ⟨List.mem_of_getElem? (i := 996) (by decide +kernel), by decide +kernel⟩
theorem uM_L_83 : Cond.methodLink RL 83 yX8_plan ∈ wU := List.mem_filter.mpr ⟨List.mem_of_getElem? (i := 997) (by decide +kernel), by decide +kernel⟩
theorem uI_X8_plan : Cond.instanceMethod yX8_plan ∈ wU := List.mem_filter.mpr ⟨List.mem_of_getElem? (i := 998) (by decide +kernel), by decide +kernel⟩
theorem uS_X8_plan : Cond.selects RX8 yX8_plan yX8_plan ∈ wU := List.mem_filter.mpr ⟨List.mem_of_getElem? (i := 999) (by decide +kernel), by decide +kernel⟩
theorem uC_X8_plan : Cond.code yX8_plan cX8_plan 6 (some .int) ∈ wU := List.mem_filter.mpr ⟨List.mem_of_getElem? (i := 1000) (by decide +kernel), by decide +kernel⟩
theorem uM_X8_218 : Cond.methodLink RX8 218 yX8_plans ∈ wU := List.mem_filter.mpr ⟨List.mem_of_getElem? (i := 1001) (by decide +kernel), by decide +kernel⟩
theorem uI_X8_plans : Cond.instanceMethod yX8_plans ∈ wU := List.mem_filter.mpr ⟨List.mem_of_getElem? (i := 1003) (by decide +kernel), by decide +kernel⟩
theorem uC_X8_plans : Cond.code yX8_plans cX8_plans 7 (some .int) ∈ wU := List.mem_filter.mpr ⟨List.mem_of_getElem? (i := 1004) (by decide +kernel), by decide +kernel⟩
theorem uM_L_87 : Cond.methodLink RL 87 yX8_planned ∈ wU := List.mem_filter.mpr ⟨List.mem_of_getElem? (i := 1005) (by decide +kernel), by decide +kernel⟩
theorem uI_X8_planned : Cond.instanceMethod yX8_planned ∈ wU := List.mem_filter.mpr ⟨List.mem_of_getElem? (i := 1006) (by decide +kernel), by decide +kernel⟩
theorem uS_X8_planned : Cond.selects RX8 yX8_planned yX8_planned ∈ wU := List.mem_filter.mpr ⟨List.mem_of_getElem? (i := 1007) (by decide +kernel), by decide +kernel⟩
theorem uC_X8_planned : Cond.code yX8_planned cX8_planned 2 (some .int) ∈ wU := List.mem_filter.mpr ⟨List.mem_of_getElem? (i := 1008) (by decide +kernel), by decide +kernel⟩
theorem uM_L_91 : Cond.methodLink RL 91 yX8_counted ∈ wU := List.mem_filter.mpr ⟨List.mem_of_getElem? (i := 1009) (by decide +kernel), by decide +kernel⟩
theorem uI_X8_counted : Cond.instanceMethod yX8_counted ∈ wU := List.mem_filter.mpr ⟨List.mem_of_getElem? (i := 1010) (by decide +kernel), by decide +kernel⟩
theorem uS_X8_counted : Cond.selects RX8 yX8_counted yX8_counted ∈ wU := List.mem_filter.mpr ⟨List.mem_of_getElem? (i := 1011) (by decide +kernel), by decide +kernel⟩
theorem uC_X8_counted : Cond.code yX8_counted cX8_counted 4 (some .boolean) ∈ wU := List.mem_filter.mpr ⟨List.mem_of_getElem? (i := 1012) (by decide +kernel), by decide +kernel⟩
theorem uM_X8_222 : Cond.methodLink RX8 222 yX8_isOver ∈ wU := List.mem_filter.mpr ⟨List.mem_of_getElem? (i := 1013) (by decide +kernel), by decide +kernel⟩
theorem uI_X8_isOver : Cond.instanceMethod yX8_isOver ∈ wU := List.mem_filter.mpr ⟨List.mem_of_getElem? (i := 1015) (by decide +kernel), by decide +kernel⟩
theorem uC_X8_isOver : Cond.code yX8_isOver cX8_isOver 2 (some .boolean) ∈ wU := List.mem_filter.mpr ⟨List.mem_of_getElem? (i := 1016) (by decide +kernel), by decide +kernel⟩
theorem uM_L_95 : Cond.methodLink RL 95 yX8_came ∈ wU := List.mem_filter.mpr ⟨List.mem_of_getElem? (i := 1017) (by decide +kernel), by decide +kernel⟩
theorem uI_X8_came : Cond.instanceMethod yX8_came ∈ wU := List.mem_filter.mpr ⟨List.mem_of_getElem? (i := 1018) (by decide +kernel), by decide +kernel⟩
theorem uS_X8_came : Cond.selects RX8 yX8_came yX8_came ∈ wU := List.mem_filter.mpr ⟨List.mem_of_getElem? (i := 1019) (by decide +kernel), by decide +kernel⟩
theorem uC_X8_came : Cond.code yX8_came cX8_came 8 (some .int) ∈ wU := List.mem_filter.mpr ⟨List.mem_of_getElem? (i := 1020) (by decide +kernel), by decide +kernel⟩
theorem uM_L_99 : Cond.methodLink RL 99 yX8_out ∈ wU := List.mem_filter.mpr ⟨List.mem_of_getElem? (i := 1021) (by decide +kernel), by decide +kernel⟩
theorem uI_X8_out : Cond.instanceMethod yX8_out ∈ wU := List.mem_filter.mpr ⟨List.mem_of_getElem? (i := 1022) (by decide +kernel), by decide +kernel⟩
theorem uS_X8_out : Cond.selects RX8 yX8_out yX8_out ∈ wU := List.mem_filter.mpr ⟨List.mem_of_getElem? (i := 1023) (by decide +kernel), by decide +kernel⟩
theorem uC_X8_out : Cond.code yX8_out cX8_out 3 (some .int) ∈ wU := List.mem_filter.mpr ⟨List.mem_of_getElem? (i := 1024) (by decide +kernel), by decide +kernel⟩
theorem uM_L_67 : Cond.methodLink RL 67 yX8_queue ∈ wU := List.mem_filter.mpr ⟨List.mem_of_getElem? (i := 1025) (by decide +kernel), by decide +kernel⟩
theorem uI_X8_queue : Cond.instanceMethod yX8_queue ∈ wU := List.mem_filter.mpr ⟨List.mem_of_getElem? (i := 1026) (by decide +kernel), by decide +kernel⟩
theorem uS_X8_queue : Cond.selects RX8 yX8_queue yX8_queue ∈ wU := List.mem_filter.mpr ⟨List.mem_of_getElem? (i := 1027) (by decide +kernel), by decide +kernel⟩
theorem uC_X8_queue : Cond.code yX8_queue cX8_queue 2 (some .int) ∈ wU := List.mem_filter.mpr ⟨List.mem_of_getElem? (i := 1028) (by decide +kernel), by decide +kernel⟩
theorem uM_L_71 : Cond.methodLink RL 71 yX8_on ∈ wU := List.mem_filter.mpr ⟨List.mem_of_getElem? (i := 1029) (by decide +kernel), by decide +kernel⟩
theorem uI_X8_on : Cond.instanceMethod yX8_on ∈ wU := List.mem_filter.mpr ⟨List.mem_of_getElem? (i := 1030) (by decide +kernel), by decide +kernel⟩
theorem uS_X8_on : Cond.selects RX8 yX8_on yX8_on ∈ wU := List.mem_filter.mpr ⟨List.mem_of_getElem? (i := 1031) (by decide +kernel), by decide +kernel⟩
theorem uC_X8_on : Cond.code yX8_on cX8_on 2 (some .int) ∈ wU := List.mem_filter.mpr ⟨List.mem_of_getElem? (i := 1032) (by decide +kernel), by decide +kernel⟩
theorem uM_L_103 : Cond.methodLink RL 103 yX8_told ∈ wU := List.mem_filter.mpr ⟨List.mem_of_getElem? (i := 1033) (by decide +kernel), by decide +kernel⟩
theorem uI_X8_told : Cond.instanceMethod yX8_told ∈ wU := List.mem_filter.mpr ⟨List.mem_of_getElem? (i := 1034) (by decide +kernel), by decide +kernel⟩
theorem uS_X8_told : Cond.selects RX8 yX8_told yX8_told ∈ wU := List.mem_filter.mpr ⟨List.mem_of_getElem? (i := 1035) (by decide +kernel), by decide +kernel⟩
theorem uC_X8_told : Cond.code yX8_told cX8_told 3 (some .int) ∈ wU := List.mem_filter.mpr ⟨List.mem_of_getElem? (i := 1036) (by decide +kernel), by decide +kernel⟩
theorem uM_L_107 : Cond.methodLink RL 107 yX8_at ∈ wU := List.mem_filter.mpr ⟨List.mem_of_getElem? (i := 1037) (by decide +kernel), by decide +kernel⟩
theorem uI_X8_at : Cond.instanceMethod yX8_at ∈ wU := List.mem_filter.mpr ⟨List.mem_of_getElem? (i := 1038) (by decide +kernel), by decide +kernel⟩
theorem uS_X8_at : Cond.selects RX8 yX8_at yX8_at ∈ wU := List.mem_filter.mpr ⟨List.mem_of_getElem? (i := 1039) (by decide +kernel), by decide +kernel⟩
theorem uC_X8_at : Cond.code yX8_at cX8_at 3 (some .int) ∈ wU := List.mem_filter.mpr ⟨List.mem_of_getElem? (i := 1040) (by decide +kernel), by decide +kernel⟩
theorem uM_L_111 : Cond.methodLink RL 111 yX8_count ∈ wU := List.mem_filter.mpr ⟨List.mem_of_getElem? (i := 1041) (by decide +kernel), by decide +kernel⟩
theorem uI_X8_count : Cond.instanceMethod yX8_count ∈ wU := List.mem_filter.mpr ⟨List.mem_of_getElem? (i := 1042) (by decide +kernel), by decide +kernel⟩
theorem uS_X8_count : Cond.selects RX8 yX8_count yX8_count ∈ wU := List.mem_filter.mpr ⟨List.mem_of_getElem? (i := 1043) (by decide +kernel), by decide +kernel⟩
theorem uC_X8_count : Cond.code yX8_count cX8_count 4 (some .int) ∈ wU := List.mem_filter.mpr ⟨List.mem_of_getElem? (i := 1044) (by decide +kernel), by decide +kernel⟩
