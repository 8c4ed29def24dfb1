theorem lw_TB_of {w : Cond} (h : w ∈ lw_tbl) (hg : goodWord w = true) : w ∈ lw_tbl.filter goodWord := List.mem_filter.mpr ⟨h, hg⟩
def lw_TB : List Cond := lw_tbl.filter goodWord
theorem lw_inT {w : Cond} (h : w ∈ lw_tbl) (hg : goodWord w = true) : w ∈ lw_TB := lw_TB_of h hg
theorem lw_TB_in {w : Cond} (h : w ∈ lw_TB) : w ∈ lw_tbl := (List.mem_filter.mp h).1
theorem lw_TB_good {w : Cond} (h : w ∈ lw_TB) : goodWord w = true := (List.mem_filter.mp h).2
set_option maxRecDepth 20000 in
theorem wd_se_yX5_strandOf : Cond.selects RX5 yX5_strandOf yX5_strandOf ∈ lw_TB := lw_inT (List.mem_of_getElem? (i := 0) (by rfl)) (by rfl)
set_option maxRecDepth 20000 in
theorem wd_se_yX5_takeTurn : Cond.selects RX5 yX5_takeTurn yX5_takeTurn ∈ lw_TB := lw_inT (List.mem_of_getElem? (i := 1) (by rfl)) (by rfl)
set_option maxRecDepth 20000 in
theorem wd_se_yX5_perform : Cond.selects RX5 yX5_perform yX5_perform ∈ lw_TB := lw_inT (List.mem_of_getElem? (i := 2) (by rfl)) (by rfl)
set_option maxRecDepth 20000 in
theorem wd_se_yX5_getCell : Cond.selects RX5 yX5_getCell yX5_getCell ∈ lw_TB := lw_inT (List.mem_of_getElem? (i := 3) (by rfl)) (by rfl)
set_option maxRecDepth 20000 in
theorem wd_se_yX5_failureOfReading : Cond.selects RX5 yX5_failureOfReading yX5_failureOfReading ∈ lw_TB := lw_inT (List.mem_of_getElem? (i := 4) (by rfl)) (by rfl)
set_option maxRecDepth 20000 in
theorem wd_se_yX5_readCell : Cond.selects RX5 yX5_readCell yX5_readCell ∈ lw_TB := lw_inT (List.mem_of_getElem? (i := 5) (by rfl)) (by rfl)
set_option maxRecDepth 20000 in
theorem wd_se_yX5_putCell : Cond.selects RX5 yX5_putCell yX5_putCell ∈ lw_TB := lw_inT (List.mem_of_getElem? (i := 6) (by rfl)) (by rfl)
set_option maxRecDepth 20000 in
theorem wd_se_yX5_loadItem : Cond.selects RX5 yX5_loadItem yX5_loadItem ∈ lw_TB := lw_inT (List.mem_of_getElem? (i := 7) (by rfl)) (by rfl)
set_option maxRecDepth 20000 in
theorem wd_se_yX5_swapCell : Cond.selects RX5 yX5_swapCell yX5_swapCell ∈ lw_TB := lw_inT (List.mem_of_getElem? (i := 8) (by rfl)) (by rfl)
set_option maxRecDepth 20000 in
theorem wd_se_yX5_endAtom : Cond.selects RX5 yX5_endAtom yX5_endAtom ∈ lw_TB := lw_inT (List.mem_of_getElem? (i := 9) (by rfl)) (by rfl)
set_option maxRecDepth 20000 in
theorem wd_se_yX5_isOvertaken : Cond.selects RX5 yX5_isOvertaken yX5_isOvertaken ∈ lw_TB := lw_inT (List.mem_of_getElem? (i := 10) (by rfl)) (by rfl)
set_option maxRecDepth 20000 in
theorem wd_se_yX4_divide : Cond.selects RX4 yX4_divide yX4_divide ∈ lw_TB := lw_inT (List.mem_of_getElem? (i := 11) (by rfl)) (by rfl)
set_option maxRecDepth 20000 in
theorem wd_se_yX4_beginAtom : Cond.selects RX4 yX4_beginAtom yX4_beginAtom ∈ lw_TB := lw_inT (List.mem_of_getElem? (i := 12) (by rfl)) (by rfl)
set_option maxRecDepth 20000 in
theorem wd_se_yX4_openTry : Cond.selects RX4 yX4_openTry yX4_openTry ∈ lw_TB := lw_inT (List.mem_of_getElem? (i := 13) (by rfl)) (by rfl)
set_option maxRecDepth 20000 in
theorem wd_se_yX4_closeTry : Cond.selects RX4 yX4_closeTry yX4_closeTry ∈ lw_TB := lw_inT (List.mem_of_getElem? (i := 14) (by rfl)) (by rfl)
set_option maxRecDepth 20000 in
theorem wd_se_yX5_drawn : Cond.selects RX5 yX5_drawn yX5_drawn ∈ lw_TB := lw_inT (List.mem_of_getElem? (i := 15) (by rfl)) (by rfl)
set_option maxRecDepth 20000 in
theorem wd_se_yX5_goes : Cond.selects RX5 yX5_goes yX5_goes ∈ lw_TB := lw_inT (List.mem_of_getElem? (i := 16) (by rfl)) (by rfl)
set_option maxRecDepth 20000 in
theorem wd_se_yX5_restart : Cond.selects RX5 yX5_restart yX5_restart ∈ lw_TB := lw_inT (List.mem_of_getElem? (i := 17) (by rfl)) (by rfl)
set_option maxRecDepth 20000 in
theorem wd_se_yX6_begin : Cond.selects RX6 yX6_begin yX6_begin ∈ lw_TB := lw_inT (List.mem_of_getElem? (i := 18) (by rfl)) (by rfl)
set_option maxRecDepth 20000 in
theorem wd_se_yX6_stateOf : Cond.selects RX6 yX6_stateOf yX6_stateOf ∈ lw_TB := lw_inT (List.mem_of_getElem? (i := 19) (by rfl)) (by rfl)
set_option maxRecDepth 20000 in
theorem wd_se_yX6_doTurn : Cond.selects RX6 yX6_doTurn yX6_doTurn ∈ lw_TB := lw_inT (List.mem_of_getElem? (i := 20) (by rfl)) (by rfl)
set_option maxRecDepth 20000 in
theorem wd_se_yX6_doAct : Cond.selects RX6 yX6_doAct yX6_doAct ∈ lw_TB := lw_inT (List.mem_of_getElem? (i := 21) (by rfl)) (by rfl)
set_option maxRecDepth 20000 in
theorem wd_se_yX6_give : Cond.selects RX6 yX6_give yX6_give ∈ lw_TB := lw_inT (List.mem_of_getElem? (i := 22) (by rfl)) (by rfl)
set_option maxRecDepth 20000 in
theorem wd_se_yX6_read : Cond.selects RX6 yX6_read yX6_read ∈ lw_TB := lw_inT (List.mem_of_getElem? (i := 23) (by rfl)) (by rfl)
set_option maxRecDepth 20000 in
theorem wd_se_yX6_readPlain : Cond.selects RX6 yX6_readPlain yX6_readPlain ∈ lw_TB := lw_inT (List.mem_of_getElem? (i := 24) (by rfl)) (by rfl)
set_option maxRecDepth 20000 in
theorem wd_se_yX6_write : Cond.selects RX6 yX6_write yX6_write ∈ lw_TB := lw_inT (List.mem_of_getElem? (i := 25) (by rfl)) (by rfl)
set_option maxRecDepth 20000 in
theorem wd_se_yX6_note : Cond.selects RX6 yX6_note yX6_note ∈ lw_TB := lw_inT (List.mem_of_getElem? (i := 26) (by rfl)) (by rfl)
set_option maxRecDepth 20000 in
theorem wd_se_yX6_r : Cond.selects RX6 yX6_r yX6_r ∈ lw_TB := lw_inT (List.mem_of_getElem? (i := 27) (by rfl)) (by rfl)
set_option maxRecDepth 20000 in
theorem wd_se_yX6_lay : Cond.selects RX6 yX6_lay yX6_lay ∈ lw_TB := lw_inT (List.mem_of_getElem? (i := 28) (by rfl)) (by rfl)
set_option maxRecDepth 20000 in
theorem wd_se_yX6_compute : Cond.selects RX6 yX6_compute yX6_compute ∈ lw_TB := lw_inT (List.mem_of_getElem? (i := 29) (by rfl)) (by rfl)
set_option maxRecDepth 20000 in
theorem wd_se_yX6_swap : Cond.selects RX6 yX6_swap yX6_swap ∈ lw_TB := lw_inT (List.mem_of_getElem? (i := 30) (by rfl)) (by rfl)
set_option maxRecDepth 20000 in
theorem wd_se_yX6_beginAtom : Cond.selects RX6 yX6_beginAtom yX6_beginAtom ∈ lw_TB := lw_inT (List.mem_of_getElem? (i := 31) (by rfl)) (by rfl)
set_option maxRecDepth 20000 in
theorem wd_se_yX6_clearAtom : Cond.selects RX6 yX6_clearAtom yX6_clearAtom ∈ lw_TB := lw_inT (List.mem_of_getElem? (i := 32) (by rfl)) (by rfl)
set_option maxRecDepth 20000 in
theorem wd_se_yX6_endAtom : Cond.selects RX6 yX6_endAtom yX6_endAtom ∈ lw_TB := lw_inT (List.mem_of_getElem? (i := 33) (by rfl)) (by rfl)
set_option maxRecDepth 20000 in
theorem wd_se_yX6_rows : Cond.selects RX6 yX6_rows yX6_rows ∈ lw_TB := lw_inT (List.mem_of_getElem? (i := 34) (by rfl)) (by rfl)
set_option maxRecDepth 20000 in
theorem wd_se_yX6_checkItem : Cond.selects RX6 yX6_checkItem yX6_checkItem ∈ lw_TB := lw_inT (List.mem_of_getElem? (i := 35) (by rfl)) (by rfl)
set_option maxRecDepth 20000 in
theorem wd_se_yX6_fail : Cond.selects RX6 yX6_fail yX6_fail ∈ lw_TB := lw_inT (List.mem_of_getElem? (i := 36) (by rfl)) (by rfl)
set_option maxRecDepth 20000 in
theorem wd_ini_RL : Cond.initialized RL ∈ lw_TB := lw_inT (List.mem_of_getElem? (i := 37) (by rfl)) (by rfl)
set_option maxRecDepth 20000 in
theorem wd_ini_RX5 : Cond.initialized RX5 ∈ lw_TB := lw_inT (List.mem_of_getElem? (i := 38) (by rfl)) (by rfl)
set_option maxRecDepth 20000 in
theorem wd_ini_RX1 : Cond.initialized RX1 ∈ lw_TB := lw_inT (List.mem_of_getElem? (i := 39) (by rfl)) (by rfl)
set_option maxRecDepth 20000 in
theorem wd_ini_RX2 : Cond.initialized RX2 ∈ lw_TB := lw_inT (List.mem_of_getElem? (i := 40) (by rfl)) (by rfl)
set_option maxRecDepth 20000 in
theorem wd_ini_RJ7 : Cond.initialized RJ7 ∈ lw_TB := lw_inT (List.mem_of_getElem? (i := 41) (by rfl)) (by rfl)
set_option maxRecDepth 20000 in
theorem wd_ini_RX3 : Cond.initialized RX3 ∈ lw_TB := lw_inT (List.mem_of_getElem? (i := 42) (by rfl)) (by rfl)
set_option maxRecDepth 20000 in
theorem wd_ini_RX4 : Cond.initialized RX4 ∈ lw_TB := lw_inT (List.mem_of_getElem? (i := 43) (by rfl)) (by rfl)
set_option maxRecDepth 20000 in
theorem wd_ini_RX0 : Cond.initialized RX0 ∈ lw_TB := lw_inT (List.mem_of_getElem? (i := 44) (by rfl)) (by rfl)
set_option maxRecDepth 20000 in
theorem wd_ini_RX6 : Cond.initialized RX6 ∈ lw_TB := lw_inT (List.mem_of_getElem? (i := 45) (by rfl)) (by rfl)
set_option maxRecDepth 20000 in
theorem wd_ini_RJ10 : Cond.initialized RJ10 ∈ lw_TB := lw_inT (List.mem_of_getElem? (i := 46) (by rfl)) (by rfl)
set_option maxRecDepth 20000 in
theorem wd_cl_RL_7 : Cond.classLink RL 7 RX5 ∈ lw_TB := lw_inT (List.mem_of_getElem? (i := 47) (by rfl)) (by rfl)
set_option maxRecDepth 20000 in
theorem wd_ist_RX5 : Cond.instantiable RX5 5 ∈ lw_TB := lw_inT (List.mem_of_getElem? (i := 48) (by rfl)) (by rfl)
set_option maxRecDepth 20000 in
theorem wd_ml_RL_9 : Cond.methodLink RL 9 yX5_init ∈ lw_TB := lw_inT (List.mem_of_getElem? (i := 49) (by rfl)) (by rfl)
set_option maxRecDepth 20000 in
theorem wd_im_yX5_init : Cond.instanceMethod yX5_init ∈ lw_TB := lw_inT (List.mem_of_getElem? (i := 50) (by rfl)) (by rfl)
set_option maxRecDepth 20000 in
theorem wd_co_yX5_init : Cond.code yX5_init cX5_init 2 none ∈ lw_TB := lw_inT (List.mem_of_getElem? (i := 51) (by rfl)) (by rfl)
set_option maxRecDepth 20000 in
theorem wd_ml_RX5_1 : Cond.methodLink RX5 1 objectInit ∈ lw_TB := lw_inT (List.mem_of_getElem? (i := 52) (by rfl)) (by rfl)
set_option maxRecDepth 20000 in
theorem wd_im_objectInit : Cond.instanceMethod objectInit ∈ lw_TB := lw_inT (List.mem_of_getElem? (i := 53) (by rfl)) (by rfl)
set_option maxRecDepth 20000 in
theorem wd_co_objectInit : Cond.code objectInit ⟨#[0xb1]⟩ 1 none ∈ lw_TB := lw_inT (List.mem_of_getElem? (i := 54) (by rfl)) (by rfl)
set_option maxRecDepth 20000 in
theorem wd_cl_RX5_7 : Cond.classLink RX5 7 RX1 ∈ lw_TB := lw_inT (List.mem_of_getElem? (i := 55) (by rfl)) (by rfl)
set_option maxRecDepth 20000 in
theorem wd_ist_RX1 : Cond.instantiable RX1 4 ∈ lw_TB := lw_inT (List.mem_of_getElem? (i := 56) (by rfl)) (by rfl)
set_option maxRecDepth 20000 in
theorem wd_ml_RX5_9 : Cond.methodLink RX5 9 yX1_init ∈ lw_TB := lw_inT (List.mem_of_getElem? (i := 57) (by rfl)) (by rfl)
set_option maxRecDepth 20000 in
theorem wd_im_yX1_init : Cond.instanceMethod yX1_init ∈ lw_TB := lw_inT (List.mem_of_getElem? (i := 58) (by rfl)) (by rfl)
set_option maxRecDepth 20000 in
theorem wd_co_yX1_init : Cond.code yX1_init cX1_init 1 none ∈ lw_TB := lw_inT (List.mem_of_getElem? (i := 59) (by rfl)) (by rfl)
set_option maxRecDepth 20000 in
theorem wd_ml_RX1_3 : Cond.methodLink RX1 3 objectInit ∈ lw_TB := lw_inT (List.mem_of_getElem? (i := 60) (by rfl)) (by rfl)
set_option maxRecDepth 20000 in
theorem wd_cl_RX1_21 : Cond.classLink RX1 21 RX2 ∈ lw_TB := lw_inT (List.mem_of_getElem? (i := 61) (by rfl)) (by rfl)
set_option maxRecDepth 20000 in
theorem wd_ist_RX2 : Cond.instantiable RX2 5 ∈ lw_TB := lw_inT (List.mem_of_getElem? (i := 62) (by rfl)) (by rfl)
set_option maxRecDepth 20000 in
theorem wd_im_yX2_init : Cond.instanceMethod yX2_init ∈ lw_TB := lw_inT (List.mem_of_getElem? (i := 64) (by rfl)) (by rfl)
set_option maxRecDepth 20000 in
theorem wd_co_yX2_init : Cond.code yX2_init cX2_init 1 none ∈ lw_TB := lw_inT (List.mem_of_getElem? (i := 65) (by rfl)) (by rfl)
set_option maxRecDepth 20000 in
theorem wd_ml_RX2_3 : Cond.methodLink RX2 3 objectInit ∈ lw_TB := lw_inT (List.mem_of_getElem? (i := 66) (by rfl)) (by rfl)
set_option maxRecDepth 20000 in
theorem wd_fl_RX2_9 : Cond.fieldLink RX2 9 "MutableCells$Log" "threads" "[I" ∈ lw_TB := lw_inT (List.mem_of_getElem? (i := 67) (by rfl)) (by rfl)
set_option maxRecDepth 20000 in
theorem wd_fl_RX2_15 : Cond.fieldLink RX2 15 "MutableCells$Log" "places" "[I" ∈ lw_TB := lw_inT (List.mem_of_getElem? (i := 68) (by rfl)) (by rfl)
set_option maxRecDepth 20000 in
theorem wd_fl_RX2_18 : Cond.fieldLink RX2 18 "MutableCells$Log" "numbers" "[I" ∈ lw_TB := lw_inT (List.mem_of_getElem? (i := 69) (by rfl)) (by rfl)
set_option maxRecDepth 20000 in
theorem wd_fl_RX2_21 : Cond.fieldLink RX2 21 "MutableCells$Log" "latest" "I" ∈ lw_TB := lw_inT (List.mem_of_getElem? (i := 70) (by rfl)) (by rfl)
set_option maxRecDepth 20000 in
theorem wd_fl_RX2_25 : Cond.fieldLink RX2 25 "MutableCells$Log" "count" "I" ∈ lw_TB := lw_inT (List.mem_of_getElem? (i := 72) (by rfl)) (by rfl)
set_option maxRecDepth 20000 in
theorem wd_ac_int : Cond.arrayClass .int ∈ lw_TB := lw_inT (List.mem_of_getElem? (i := 85) (by rfl)) (by rfl)
set_option maxRecDepth 20000 in
theorem wd_ml_RX1_28 : Cond.methodLink RX1 28 yX1_reset ∈ lw_TB := lw_inT (List.mem_of_getElem? (i := 86) (by rfl)) (by rfl)
set_option maxRecDepth 20000 in
theorem wd_im_yX1_reset : Cond.instanceMethod yX1_reset ∈ lw_TB := lw_inT (List.mem_of_getElem? (i := 87) (by rfl)) (by rfl)
set_option maxRecDepth 20000 in
theorem wd_se_yX1_reset : Cond.selects RX1 yX1_reset yX1_reset ∈ lw_TB := lw_inT (List.mem_of_getElem? (i := 88) (by rfl)) (by rfl)
set_option maxRecDepth 20000 in
theorem wd_co_yX1_reset : Cond.code yX1_reset cX1_reset 1 none ∈ lw_TB := lw_inT (List.mem_of_getElem? (i := 89) (by rfl)) (by rfl)
set_option maxRecDepth 20000 in
theorem wd_ml_RX1_31 : Cond.methodLink RX1 31 yJ7_fill_53178 ∈ lw_TB := lw_inT (List.mem_of_getElem? (i := 90) (by rfl)) (by rfl)
set_option maxRecDepth 20000 in
theorem wd_sm_yJ7_fill_53178 : Cond.static yJ7_fill_53178 ∈ lw_TB := lw_inT (List.mem_of_getElem? (i := 91) (by rfl)) (by rfl)
set_option maxRecDepth 20000 in
theorem wd_co_yJ7_fill_53178 : Cond.code yJ7_fill_53178 cJ7_fill_53178 4 none ∈ lw_TB := lw_inT (List.mem_of_getElem? (i := 92) (by rfl)) (by rfl)
set_option maxRecDepth 20000 in
theorem wd_fl_RX1_9 : Cond.fieldLink RX1 9 "MutableCells$Cells" "numbers" "[I" ∈ lw_TB := lw_inT (List.mem_of_getElem? (i := 93) (by rfl)) (by rfl)
set_option maxRecDepth 20000 in
theorem wd_fl_RX1_15 : Cond.fieldLink RX1 15 "MutableCells$Cells" "partners" "[I" ∈ lw_TB := lw_inT (List.mem_of_getElem? (i := 94) (by rfl)) (by rfl)
set_option maxRecDepth 20000 in
theorem wd_fl_RX1_18 : Cond.fieldLink RX1 18 "MutableCells$Cells" "trail" "[I" ∈ lw_TB := lw_inT (List.mem_of_getElem? (i := 95) (by rfl)) (by rfl)
set_option maxRecDepth 20000 in
theorem wd_fl_RX1_24 : Cond.fieldLink RX1 24 "MutableCells$Cells" "log" "LMutableCells$Log;" ∈ lw_TB := lw_inT (List.mem_of_getElem? (i := 96) (by rfl)) (by rfl)
set_option maxRecDepth 20000 in
theorem wd_cl_RX5_16 : Cond.classLink RX5 16 RX3 ∈ lw_TB := lw_inT (List.mem_of_getElem? (i := 107) (by rfl)) (by rfl)
set_option maxRecDepth 20000 in
theorem wd_ist_RX3 : Cond.instantiable RX3 3 ∈ lw_TB := lw_inT (List.mem_of_getElem? (i := 108) (by rfl)) (by rfl)
set_option maxRecDepth 20000 in
theorem wd_ml_RX5_18 : Cond.methodLink RX5 18 yX3_init ∈ lw_TB := lw_inT (List.mem_of_getElem? (i := 109) (by rfl)) (by rfl)
set_option maxRecDepth 20000 in
theorem wd_im_yX3_init : Cond.instanceMethod yX3_init ∈ lw_TB := lw_inT (List.mem_of_getElem? (i := 110) (by rfl)) (by rfl)
set_option maxRecDepth 20000 in
theorem wd_co_yX3_init : Cond.code yX3_init cX3_init 1 none ∈ lw_TB := lw_inT (List.mem_of_getElem? (i := 111) (by rfl)) (by rfl)
set_option maxRecDepth 20000 in
theorem wd_ml_RX3_3 : Cond.methodLink RX3 3 objectInit ∈ lw_TB := lw_inT (List.mem_of_getElem? (i := 112) (by rfl)) (by rfl)
set_option maxRecDepth 20000 in
theorem wd_ml_RX3_22 : Cond.methodLink RX3 22 yX3_reset ∈ lw_TB := lw_inT (List.mem_of_getElem? (i := 113) (by rfl)) (by rfl)
set_option maxRecDepth 20000 in
theorem wd_im_yX3_reset : Cond.instanceMethod yX3_reset ∈ lw_TB := lw_inT (List.mem_of_getElem? (i := 114) (by rfl)) (by rfl)
set_option maxRecDepth 20000 in
theorem wd_se_yX3_reset : Cond.selects RX3 yX3_reset yX3_reset ∈ lw_TB := lw_inT (List.mem_of_getElem? (i := 115) (by rfl)) (by rfl)
set_option maxRecDepth 20000 in
theorem wd_co_yX3_reset : Cond.code yX3_reset cX3_reset 2 none ∈ lw_TB := lw_inT (List.mem_of_getElem? (i := 116) (by rfl)) (by rfl)
set_option maxRecDepth 20000 in
theorem wd_fl_RX3_9 : Cond.fieldLink RX3 9 "MutableCells$Rows" "lengths" "[I" ∈ lw_TB := lw_inT (List.mem_of_getElem? (i := 117) (by rfl)) (by rfl)
set_option maxRecDepth 20000 in
theorem wd_fl_RX3_15 : Cond.fieldLink RX3 15 "MutableCells$Rows" "ices" "[Z" ∈ lw_TB := lw_inT (List.mem_of_getElem? (i := 118) (by rfl)) (by rfl)
set_option maxRecDepth 20000 in
theorem wd_fl_RX3_19 : Cond.fieldLink RX3 19 "MutableCells$Rows" "items" "[I" ∈ lw_TB := lw_inT (List.mem_of_getElem? (i := 119) (by rfl)) (by rfl)
set_option maxRecDepth 20000 in
theorem wd_ac_boolean : Cond.arrayClass .boolean ∈ lw_TB := lw_inT (List.mem_of_getElem? (i := 127) (by rfl)) (by rfl)
set_option maxRecDepth 20000 in
theorem wd_cl_RX5_23 : Cond.classLink RX5 23 RX4 ∈ lw_TB := lw_inT (List.mem_of_getElem? (i := 128) (by rfl)) (by rfl)
set_option maxRecDepth 20000 in
theorem wd_ist_RX4 : Cond.instantiable RX4 15 ∈ lw_TB := lw_inT (List.mem_of_getElem? (i := 130) (by rfl)) (by rfl)
set_option maxRecDepth 20000 in
theorem wd_ml_RX5_29 : Cond.methodLink RX5 29 yX4_init ∈ lw_TB := lw_inT (List.mem_of_getElem? (i := 131) (by rfl)) (by rfl)
set_option maxRecDepth 20000 in
theorem wd_im_yX4_init : Cond.instanceMethod yX4_init ∈ lw_TB := lw_inT (List.mem_of_getElem? (i := 132) (by rfl)) (by rfl)
set_option maxRecDepth 20000 in
theorem wd_co_yX4_init : Cond.code yX4_init cX4_init 2 none ∈ lw_TB := lw_inT (List.mem_of_getElem? (i := 133) (by rfl)) (by rfl)
set_option maxRecDepth 20000 in
theorem wd_ml_RX4_3 : Cond.methodLink RX4 3 objectInit ∈ lw_TB := lw_inT (List.mem_of_getElem? (i := 134) (by rfl)) (by rfl)
set_option maxRecDepth 20000 in
theorem wd_cl_RX4_30 : Cond.classLink RX4 30 RX0 ∈ lw_TB := lw_inT (List.mem_of_getElem? (i := 135) (by rfl)) (by rfl)
set_option maxRecDepth 20000 in
theorem wd_ist_RX0 : Cond.instantiable RX0 8 ∈ lw_TB := lw_inT (List.mem_of_getElem? (i := 136) (by rfl)) (by rfl)
set_option maxRecDepth 20000 in
theorem wd_im_yX0_init : Cond.instanceMethod yX0_init ∈ lw_TB := lw_inT (List.mem_of_getElem? (i := 138) (by rfl)) (by rfl)
set_option maxRecDepth 20000 in
theorem wd_co_yX0_init : Cond.code yX0_init cX0_init 1 none ∈ lw_TB := lw_inT (List.mem_of_getElem? (i := 139) (by rfl)) (by rfl)
set_option maxRecDepth 20000 in
theorem wd_ml_RX0_3 : Cond.methodLink RX0 3 objectInit ∈ lw_TB := lw_inT (List.mem_of_getElem? (i := 140) (by rfl)) (by rfl)
set_option maxRecDepth 20000 in
theorem wd_fl_RX0_9 : Cond.fieldLink RX0 9 "MutableCells$Atom" "registers" "[I" ∈ lw_TB := lw_inT (List.mem_of_getElem? (i := 146) (by rfl)) (by rfl)
set_option maxRecDepth 20000 in
theorem wd_fl_RX0_15 : Cond.fieldLink RX0 15 "MutableCells$Atom" "putMarks" "[Z" ∈ lw_TB := lw_inT (List.mem_of_getElem? (i := 148) (by rfl)) (by rfl)
set_option maxRecDepth 20000 in
theorem wd_fl_RX0_19 : Cond.fieldLink RX0 19 "MutableCells$Atom" "putNumbers" "[I" ∈ lw_TB := lw_inT (List.mem_of_getElem? (i := 149) (by rfl)) (by rfl)
set_option maxRecDepth 20000 in
theorem wd_fl_RX0_22 : Cond.fieldLink RX0 22 "MutableCells$Atom" "readMarks" "[Z" ∈ lw_TB := lw_inT (List.mem_of_getElem? (i := 150) (by rfl)) (by rfl)
set_option maxRecDepth 20000 in
theorem wd_fl_RX0_25 : Cond.fieldLink RX0 25 "MutableCells$Atom" "firstNumbers" "[I" ∈ lw_TB := lw_inT (List.mem_of_getElem? (i := 151) (by rfl)) (by rfl)
set_option maxRecDepth 20000 in
theorem wd_fl_RX4_37 : Cond.fieldLink RX4 37 "MutableCells$Strand" "numbe\x72" "I" ∈ lw_TB := lw_inT (List.mem_of_getElem? (i := 169) (by rfl)) (by rfl)
set_option maxRecDepth 20000 in
theorem wd_fl_RX4_9 : Cond.fieldLink RX4 9 "MutableCells$Strand" "kinds" "[I" ∈ lw_TB := lw_inT (List.mem_of_getElem? (i := 171) (by rfl)) (by rfl)
set_option maxRecDepth 20000 in
theorem wd_fl_RX4_15 : Cond.fieldLink RX4 15 "MutableCells$Strand" "xs" "[I" ∈ lw_TB := lw_inT (List.mem_of_getElem? (i := 173) (by rfl)) (by rfl)
set_option maxRecDepth 20000 in
theorem wd_fl_RX4_18 : Cond.fieldLink RX4 18 "MutableCells$Strand" "ys" "[I" ∈ lw_TB := lw_inT (List.mem_of_getElem? (i := 175) (by rfl)) (by rfl)
set_option maxRecDepth 20000 in
theorem wd_fl_RX4_21 : Cond.fieldLink RX4 21 "MutableCells$Strand" "zs" "[I" ∈ lw_TB := lw_inT (List.mem_of_getElem? (i := 177) (by rfl)) (by rfl)
set_option maxRecDepth 20000 in
theorem wd_fl_RX4_41 : Cond.fieldLink RX4 41 "MutableCells$Strand" "acts" "I" ∈ lw_TB := lw_inT (List.mem_of_getElem? (i := 179) (by rfl)) (by rfl)
set_option maxRecDepth 20000 in
theorem wd_fl_RX4_24 : Cond.fieldLink RX4 24 "MutableCells$Strand" "registers" "[I" ∈ lw_TB := lw_inT (List.mem_of_getElem? (i := 181) (by rfl)) (by rfl)
set_option maxRecDepth 20000 in
theorem wd_fl_RX4_27 : Cond.fieldLink RX4 27 "MutableCells$Strand" "tryPlaces" "[I" ∈ lw_TB := lw_inT (List.mem_of_getElem? (i := 182) (by rfl)) (by rfl)
set_option maxRecDepth 20000 in
theorem wd_fl_RX4_50 : Cond.fieldLink RX4 50 "MutableCells$Strand" "trys" "I" ∈ lw_TB := lw_inT (List.mem_of_getElem? (i := 183) (by rfl)) (by rfl)
set_option maxRecDepth 20000 in
theorem wd_fl_RX4_33 : Cond.fieldLink RX4 33 "MutableCells$Strand" "atom" "LMutableCells$Atom;" ∈ lw_TB := lw_inT (List.mem_of_getElem? (i := 185) (by rfl)) (by rfl)
set_option maxRecDepth 20000 in
theorem wd_fl_RX4_57 : Cond.fieldLink RX4 57 "MutableCells$Strand" "place" "I" ∈ lw_TB := lw_inT (List.mem_of_getElem? (i := 187) (by rfl)) (by rfl)
set_option maxRecDepth 20000 in
theorem wd_fl_RX4_85 : Cond.fieldLink RX4 85 "MutableCells$Strand" "next" "I" ∈ lw_TB := lw_inT (List.mem_of_getElem? (i := 189) (by rfl)) (by rfl)
set_option maxRecDepth 20000 in
theorem wd_fl_RX4_60 : Cond.fieldLink RX4 60 "MutableCells$Strand" "failure" "I" ∈ lw_TB := lw_inT (List.mem_of_getElem? (i := 191) (by rfl)) (by rfl)
set_option maxRecDepth 20000 in
theorem wd_fl_RX4_63 : Cond.fieldLink RX4 63 "MutableCells$Strand" "turns" "I" ∈ lw_TB := lw_inT (List.mem_of_getElem? (i := 194) (by rfl)) (by rfl)
set_option maxRecDepth 20000 in
theorem wd_fl_RX4_66 : Cond.fieldLink RX4 66 "MutableCells$Strand" "anews" "I" ∈ lw_TB := lw_inT (List.mem_of_getElem? (i := 195) (by rfl)) (by rfl)
set_option maxRecDepth 20000 in
theorem wd_fl_RX5_10 : Cond.fieldLink RX5 10 "MutableCells" "cells" "LMutableCells$Cells;" ∈ lw_TB := lw_inT (List.mem_of_getElem? (i := 228) (by rfl)) (by rfl)
set_option maxRecDepth 20000 in
theorem wd_fl_RX5_19 : Cond.fieldLink RX5 19 "MutableCells" "rows" "LMutableCells$Rows;" ∈ lw_TB := lw_inT (List.mem_of_getElem? (i := 229) (by rfl)) (by rfl)
set_option maxRecDepth 20000 in
theorem wd_fl_RX5_25 : Cond.fieldLink RX5 25 "MutableCells" "strands" "[LMutableCells$Strand;" ∈ lw_TB := lw_inT (List.mem_of_getElem? (i := 230) (by rfl)) (by rfl)
set_option maxRecDepth 20000 in
theorem wd_fl_RX5_137 : Cond.fieldLink RX5 137 "MutableCells" "turnsDone" "I" ∈ lw_TB := lw_inT (List.mem_of_getElem? (i := 231) (by rfl)) (by rfl)
set_option maxRecDepth 20000 in
theorem wd_fl_RX5_54 : Cond.fieldLink RX5 54 "MutableCells" "failures" "I" ∈ lw_TB := lw_inT (List.mem_of_getElem? (i := 232) (by rfl)) (by rfl)
set_option maxRecDepth 20000 in
theorem wd_ml_RL_13 : Cond.methodLink RL 13 yX5_act ∈ lw_TB := lw_inT (List.mem_of_getElem? (i := 244) (by rfl)) (by rfl)
set_option maxRecDepth 20000 in
theorem wd_im_yX5_act : Cond.instanceMethod yX5_act ∈ lw_TB := lw_inT (List.mem_of_getElem? (i := 245) (by rfl)) (by rfl)
set_option maxRecDepth 20000 in
theorem wd_se_yX5_act : Cond.selects RX5 yX5_act yX5_act ∈ lw_TB := lw_inT (List.mem_of_getElem? (i := 246) (by rfl)) (by rfl)
set_option maxRecDepth 20000 in
theorem wd_co_yX5_act : Cond.code yX5_act cX5_act 7 (some .int) ∈ lw_TB := lw_inT (List.mem_of_getElem? (i := 247) (by rfl)) (by rfl)
set_option maxRecDepth 20000 in
theorem wd_ml_RX5_32 : Cond.methodLink RX5 32 yX5_strandOf ∈ lw_TB := lw_inT (List.mem_of_getElem? (i := 248) (by rfl)) (by rfl)
set_option maxRecDepth 20000 in
theorem wd_im_yX5_strandOf : Cond.instanceMethod yX5_strandOf ∈ lw_TB := lw_inT (List.mem_of_getElem? (i := 250) (by rfl)) (by rfl)
set_option maxRecDepth 20000 in
theorem wd_co_yX5_strandOf : Cond.code yX5_strandOf cX5_strandOf 2 (some (.object "MutableCells$Strand")) ∈ lw_TB := lw_inT (List.mem_of_getElem? (i := 251) (by rfl)) (by rfl)
set_option maxRecDepth 20000 in
theorem wd_ml_RX5_36 : Cond.methodLink RX5 36 yX5_mayBe ∈ lw_TB := lw_inT (List.mem_of_getElem? (i := 252) (by rfl)) (by rfl)
set_option maxRecDepth 20000 in
theorem wd_sm_yX5_mayBe : Cond.static yX5_mayBe ∈ lw_TB := lw_inT (List.mem_of_getElem? (i := 253) (by rfl)) (by rfl)
set_option maxRecDepth 20000 in
theorem wd_co_yX5_mayBe : Cond.code yX5_mayBe cX5_mayBe 4 (some .boolean) ∈ lw_TB := lw_inT (List.mem_of_getElem? (i := 254) (by rfl)) (by rfl)
set_option maxRecDepth 20000 in
theorem wd_ml_RX5_87 : Cond.methodLink RX5 87 yX5_isRegister ∈ lw_TB := lw_inT (List.mem_of_getElem? (i := 255) (by rfl)) (by rfl)
set_option maxRecDepth 20000 in
theorem wd_sm_yX5_isRegister : Cond.static yX5_isRegister ∈ lw_TB := lw_inT (List.mem_of_getElem? (i := 256) (by rfl)) (by rfl)
set_option maxRecDepth 20000 in
theorem wd_co_yX5_isRegister : Cond.code yX5_isRegister cX5_isRegister 1 (some .boolean) ∈ lw_TB := lw_inT (List.mem_of_getElem? (i := 257) (by rfl)) (by rfl)
set_option maxRecDepth 20000 in
theorem wd_ml_RX5_95 : Cond.methodLink RX5 95 yX5_isCell ∈ lw_TB := lw_inT (List.mem_of_getElem? (i := 258) (by rfl)) (by rfl)
set_option maxRecDepth 20000 in
theorem wd_sm_yX5_isCell : Cond.static yX5_isCell ∈ lw_TB := lw_inT (List.mem_of_getElem? (i := 259) (by rfl)) (by rfl)
set_option maxRecDepth 20000 in
theorem wd_co_yX5_isCell : Cond.code yX5_isCell cX5_isCell 1 (some .boolean) ∈ lw_TB := lw_inT (List.mem_of_getElem? (i := 260) (by rfl)) (by rfl)
set_option maxRecDepth 20000 in
theorem wd_ml_RX5_104 : Cond.methodLink RX5 104 yX5_isRow ∈ lw_TB := lw_inT (List.mem_of_getElem? (i := 261) (by rfl)) (by rfl)
set_option maxRecDepth 20000 in
theorem wd_sm_yX5_isRow : Cond.static yX5_isRow ∈ lw_TB := lw_inT (List.mem_of_getElem? (i := 262) (by rfl)) (by rfl)
set_option maxRecDepth 20000 in
theorem wd_co_yX5_isRow : Cond.code yX5_isRow cX5_isRow 1 (some .boolean) ∈ lw_TB := lw_inT (List.mem_of_getElem? (i := 263) (by rfl)) (by rfl)
set_option maxRecDepth 20000 in
theorem wd_ml_RX5_147 : Cond.methodLink RX5 147 yX5_isPlace ∈ lw_TB := lw_inT (List.mem_of_getElem? (i := 264) (by rfl)) (by rfl)
set_option maxRecDepth 20000 in
theorem wd_sm_yX5_isPlace : Cond.static yX5_isPlace ∈ lw_TB := lw_inT (List.mem_of_getElem? (i := 265) (by rfl)) (by rfl)
set_option maxRecDepth 20000 in
theorem wd_co_yX5_isPlace : Cond.code yX5_isPlace cX5_isPlace 1 (some .boolean) ∈ lw_TB := lw_inT (List.mem_of_getElem? (i := 266) (by rfl)) (by rfl)
set_option maxRecDepth 20000 in
theorem wd_ml_RX5_44 : Cond.methodLink RX5 44 yX4_append ∈ lw_TB := lw_inT (List.mem_of_getElem? (i := 267) (by rfl)) (by rfl)
set_option maxRecDepth 20000 in
theorem wd_im_yX4_append : Cond.instanceMethod yX4_append ∈ lw_TB := lw_inT (List.mem_of_getElem? (i := 268) (by rfl)) (by rfl)
set_option maxRecDepth 20000 in
theorem wd_se_yX4_append : Cond.selects RX4 yX4_append yX4_append ∈ lw_TB := lw_inT (List.mem_of_getElem? (i := 269) (by rfl)) (by rfl)
set_option maxRecDepth 20000 in
theorem wd_co_yX4_append : Cond.code yX4_append cX4_append 5 (some .boolean) ∈ lw_TB := lw_inT (List.mem_of_getElem? (i := 270) (by rfl)) (by rfl)
set_option maxRecDepth 20000 in
theorem wd_ml_RL_18 : Cond.methodLink RL 18 yX5_turn ∈ lw_TB := lw_inT (List.mem_of_getElem? (i := 271) (by rfl)) (by rfl)
set_option maxRecDepth 20000 in
theorem wd_im_yX5_turn : Cond.instanceMethod yX5_turn ∈ lw_TB := lw_inT (List.mem_of_getElem? (i := 272) (by rfl)) (by rfl)
set_option maxRecDepth 20000 in
theorem wd_se_yX5_turn : Cond.selects RX5 yX5_turn yX5_turn ∈ lw_TB := lw_inT (List.mem_of_getElem? (i := 273) (by rfl)) (by rfl)
set_option maxRecDepth 20000 in
theorem wd_co_yX5_turn : Cond.code yX5_turn cX5_turn 3 (some .int) ∈ lw_TB := lw_inT (List.mem_of_getElem? (i := 274) (by rfl)) (by rfl)
set_option maxRecDepth 20000 in
theorem wd_ml_RX5_50 : Cond.methodLink RX5 50 yX4_state ∈ lw_TB := lw_inT (List.mem_of_getElem? (i := 275) (by rfl)) (by rfl)
set_option maxRecDepth 20000 in
theorem wd_im_yX4_state : Cond.instanceMethod yX4_state ∈ lw_TB := lw_inT (List.mem_of_getElem? (i := 276) (by rfl)) (by rfl)
set_option maxRecDepth 20000 in
theorem wd_se_yX4_state : Cond.selects RX4 yX4_state yX4_state ∈ lw_TB := lw_inT (List.mem_of_getElem? (i := 277) (by rfl)) (by rfl)
set_option maxRecDepth 20000 in
theorem wd_co_yX4_state : Cond.code yX4_state cX4_state 1 (some .int) ∈ lw_TB := lw_inT (List.mem_of_getElem? (i := 278) (by rfl)) (by rfl)
set_option maxRecDepth 20000 in
theorem wd_ml_RX5_57 : Cond.methodLink RX5 57 yX5_takeTurn ∈ lw_TB := lw_inT (List.mem_of_getElem? (i := 279) (by rfl)) (by rfl)
set_option maxRecDepth 20000 in
theorem wd_im_yX5_takeTurn : Cond.instanceMethod yX5_takeTurn ∈ lw_TB := lw_inT (List.mem_of_getElem? (i := 281) (by rfl)) (by rfl)
set_option maxRecDepth 20000 in
theorem wd_co_yX5_takeTurn : Cond.code yX5_takeTurn cX5_takeTurn 3 none ∈ lw_TB := lw_inT (List.mem_of_getElem? (i := 282) (by rfl)) (by rfl)
set_option maxRecDepth 20000 in
theorem wd_ml_RX5_156 : Cond.methodLink RX5 156 yX5_perform ∈ lw_TB := lw_inT (List.mem_of_getElem? (i := 283) (by rfl)) (by rfl)
set_option maxRecDepth 20000 in
theorem wd_im_yX5_perform : Cond.instanceMethod yX5_perform ∈ lw_TB := lw_inT (List.mem_of_getElem? (i := 285) (by rfl)) (by rfl)
set_option maxRecDepth 20000 in
theorem wd_co_yX5_perform : Cond.code yX5_perform cX5_perform 7 (some .int) ∈ lw_TB := lw_inT (List.mem_of_getElem? (i := 286) (by rfl)) (by rfl)
set_option maxRecDepth 20000 in
theorem wd_ml_RX5_176 : Cond.methodLink RX5 176 yX5_isBarredFromAtoms ∈ lw_TB := lw_inT (List.mem_of_getElem? (i := 287) (by rfl)) (by rfl)
set_option maxRecDepth 20000 in
theorem wd_sm_yX5_isBarredFromAtoms : Cond.static yX5_isBarredFromAtoms ∈ lw_TB := lw_inT (List.mem_of_getElem? (i := 288) (by rfl)) (by rfl)
set_option maxRecDepth 20000 in
theorem wd_co_yX5_isBarredFromAtoms : Cond.code yX5_isBarredFromAtoms cX5_isBarredFromAtoms 1 (some .boolean) ∈ lw_TB := lw_inT (List.mem_of_getElem? (i := 289) (by rfl)) (by rfl)
set_option maxRecDepth 20000 in
theorem wd_ml_RX5_179 : Cond.methodLink RX5 179 yX5_getCell ∈ lw_TB := lw_inT (List.mem_of_getElem? (i := 290) (by rfl)) (by rfl)
set_option maxRecDepth 20000 in
theorem wd_im_yX5_getCell : Cond.instanceMethod yX5_getCell ∈ lw_TB := lw_inT (List.mem_of_getElem? (i := 292) (by rfl)) (by rfl)
set_option maxRecDepth 20000 in
theorem wd_co_yX5_getCell : Cond.code yX5_getCell cX5_getCell 5 (some .int) ∈ lw_TB := lw_inT (List.mem_of_getElem? (i := 293) (by rfl)) (by rfl)
set_option maxRecDepth 20000 in
theorem wd_ml_RX5_220 : Cond.methodLink RX5 220 yX5_failureOfReading ∈ lw_TB := lw_inT (List.mem_of_getElem? (i := 294) (by rfl)) (by rfl)
set_option maxRecDepth 20000 in
theorem wd_im_yX5_failureOfReading : Cond.instanceMethod yX5_failureOfReading ∈ lw_TB := lw_inT (List.mem_of_getElem? (i := 296) (by rfl)) (by rfl)
set_option maxRecDepth 20000 in
theorem wd_co_yX5_failureOfReading : Cond.code yX5_failureOfReading cX5_failureOfReading 3 (some .int) ∈ lw_TB := lw_inT (List.mem_of_getElem? (i := 297) (by rfl)) (by rfl)
set_option maxRecDepth 20000 in
theorem wd_ml_RX5_101 : Cond.methodLink RX5 101 yX1_isLazy ∈ lw_TB := lw_inT (List.mem_of_getElem? (i := 298) (by rfl)) (by rfl)
set_option maxRecDepth 20000 in
theorem wd_im_yX1_isLazy : Cond.instanceMethod yX1_isLazy ∈ lw_TB := lw_inT (List.mem_of_getElem? (i := 299) (by rfl)) (by rfl)
set_option maxRecDepth 20000 in
theorem wd_se_yX1_isLazy : Cond.selects RX1 yX1_isLazy yX1_isLazy ∈ lw_TB := lw_inT (List.mem_of_getElem? (i := 300) (by rfl)) (by rfl)
set_option maxRecDepth 20000 in
theorem wd_co_yX1_isLazy : Cond.code yX1_isLazy cX1_isLazy 2 (some .boolean) ∈ lw_TB := lw_inT (List.mem_of_getElem? (i := 301) (by rfl)) (by rfl)
set_option maxRecDepth 20000 in
theorem wd_ml_RX5_227 : Cond.methodLink RX5 227 yX0_hasPut ∈ lw_TB := lw_inT (List.mem_of_getElem? (i := 303) (by rfl)) (by rfl)
set_option maxRecDepth 20000 in
theorem wd_im_yX0_hasPut : Cond.instanceMethod yX0_hasPut ∈ lw_TB := lw_inT (List.mem_of_getElem? (i := 304) (by rfl)) (by rfl)
set_option maxRecDepth 20000 in
theorem wd_se_yX0_hasPut : Cond.selects RX0 yX0_hasPut yX0_hasPut ∈ lw_TB := lw_inT (List.mem_of_getElem? (i := 305) (by rfl)) (by rfl)
set_option maxRecDepth 20000 in
theorem wd_co_yX0_hasPut : Cond.code yX0_hasPut cX0_hasPut 2 (some .boolean) ∈ lw_TB := lw_inT (List.mem_of_getElem? (i := 306) (by rfl)) (by rfl)
set_option maxRecDepth 20000 in
theorem wd_ml_RX5_230 : Cond.methodLink RX5 230 yX1_leadsToRing ∈ lw_TB := lw_inT (List.mem_of_getElem? (i := 308) (by rfl)) (by rfl)
set_option maxRecDepth 20000 in
theorem wd_im_yX1_leadsToRing : Cond.instanceMethod yX1_leadsToRing ∈ lw_TB := lw_inT (List.mem_of_getElem? (i := 309) (by rfl)) (by rfl)
set_option maxRecDepth 20000 in
theorem wd_se_yX1_leadsToRing : Cond.selects RX1 yX1_leadsToRing yX1_leadsToRing ∈ lw_TB := lw_inT (List.mem_of_getElem? (i := 310) (by rfl)) (by rfl)
set_option maxRecDepth 20000 in
theorem wd_co_yX1_leadsToRing : Cond.code yX1_leadsToRing cX1_leadsToRing 4 (some .boolean) ∈ lw_TB := lw_inT (List.mem_of_getElem? (i := 311) (by rfl)) (by rfl)
set_option maxRecDepth 20000 in
theorem wd_ml_RX1_53 : Cond.methodLink RX1 53 yX1_isLazy ∈ lw_TB := lw_inT (List.mem_of_getElem? (i := 312) (by rfl)) (by rfl)
set_option maxRecDepth 20000 in
theorem wd_ml_RX1_56 : Cond.methodLink RX1 56 yX1_shown ∈ lw_TB := lw_inT (List.mem_of_getElem? (i := 313) (by rfl)) (by rfl)
set_option maxRecDepth 20000 in
theorem wd_im_yX1_shown : Cond.instanceMethod yX1_shown ∈ lw_TB := lw_inT (List.mem_of_getElem? (i := 314) (by rfl)) (by rfl)
set_option maxRecDepth 20000 in
theorem wd_se_yX1_shown : Cond.selects RX1 yX1_shown yX1_shown ∈ lw_TB := lw_inT (List.mem_of_getElem? (i := 315) (by rfl)) (by rfl)
set_option maxRecDepth 20000 in
theorem wd_co_yX1_shown : Cond.code yX1_shown cX1_shown 2 (some .int) ∈ lw_TB := lw_inT (List.mem_of_getElem? (i := 316) (by rfl)) (by rfl)
set_option maxRecDepth 20000 in
theorem wd_ml_RX5_224 : Cond.methodLink RX5 224 yX5_readCell ∈ lw_TB := lw_inT (List.mem_of_getElem? (i := 317) (by rfl)) (by rfl)
set_option maxRecDepth 20000 in
theorem wd_im_yX5_readCell : Cond.instanceMethod yX5_readCell ∈ lw_TB := lw_inT (List.mem_of_getElem? (i := 319) (by rfl)) (by rfl)
set_option maxRecDepth 20000 in
theorem wd_co_yX5_readCell : Cond.code yX5_readCell cX5_readCell 4 (some .int) ∈ lw_TB := lw_inT (List.mem_of_getElem? (i := 320) (by rfl)) (by rfl)
set_option maxRecDepth 20000 in
theorem wd_ml_RX5_236 : Cond.methodLink RX5 236 yX1_workedOut ∈ lw_TB := lw_inT (List.mem_of_getElem? (i := 321) (by rfl)) (by rfl)
set_option maxRecDepth 20000 in
theorem wd_im_yX1_workedOut : Cond.instanceMethod yX1_workedOut ∈ lw_TB := lw_inT (List.mem_of_getElem? (i := 322) (by rfl)) (by rfl)
set_option maxRecDepth 20000 in
theorem wd_se_yX1_workedOut : Cond.selects RX1 yX1_workedOut yX1_workedOut ∈ lw_TB := lw_inT (List.mem_of_getElem? (i := 323) (by rfl)) (by rfl)
set_option maxRecDepth 20000 in
theorem wd_co_yX1_workedOut : Cond.code yX1_workedOut cX1_workedOut 7 (some .int) ∈ lw_TB := lw_inT (List.mem_of_getElem? (i := 324) (by rfl)) (by rfl)
set_option maxRecDepth 20000 in
theorem wd_ml_RX1_60 : Cond.methodLink RX1 60 yX1_count ∈ lw_TB := lw_inT (List.mem_of_getElem? (i := 325) (by rfl)) (by rfl)
set_option maxRecDepth 20000 in
theorem wd_im_yX1_count : Cond.instanceMethod yX1_count ∈ lw_TB := lw_inT (List.mem_of_getElem? (i := 326) (by rfl)) (by rfl)
set_option maxRecDepth 20000 in
theorem wd_se_yX1_count : Cond.selects RX1 yX1_count yX1_count ∈ lw_TB := lw_inT (List.mem_of_getElem? (i := 327) (by rfl)) (by rfl)
set_option maxRecDepth 20000 in
theorem wd_co_yX1_count : Cond.code yX1_count cX1_count 4 none ∈ lw_TB := lw_inT (List.mem_of_getElem? (i := 328) (by rfl)) (by rfl)
set_option maxRecDepth 20000 in
theorem wd_ml_RX1_45 : Cond.methodLink RX1 45 yX1_hold ∈ lw_TB := lw_inT (List.mem_of_getElem? (i := 329) (by rfl)) (by rfl)
set_option maxRecDepth 20000 in
theorem wd_im_yX1_hold : Cond.instanceMethod yX1_hold ∈ lw_TB := lw_inT (List.mem_of_getElem? (i := 330) (by rfl)) (by rfl)
set_option maxRecDepth 20000 in
theorem wd_se_yX1_hold : Cond.selects RX1 yX1_hold yX1_hold ∈ lw_TB := lw_inT (List.mem_of_getElem? (i := 331) (by rfl)) (by rfl)
set_option maxRecDepth 20000 in
theorem wd_co_yX1_hold : Cond.code yX1_hold cX1_hold 3 none ∈ lw_TB := lw_inT (List.mem_of_getElem? (i := 332) (by rfl)) (by rfl)
set_option maxRecDepth 20000 in
theorem wd_ml_RX1_49 : Cond.methodLink RX1 49 yX2_add ∈ lw_TB := lw_inT (List.mem_of_getElem? (i := 333) (by rfl)) (by rfl)
set_option maxRecDepth 20000 in
theorem wd_im_yX2_add : Cond.instanceMethod yX2_add ∈ lw_TB := lw_inT (List.mem_of_getElem? (i := 334) (by rfl)) (by rfl)
set_option maxRecDepth 20000 in
theorem wd_se_yX2_add : Cond.selects RX2 yX2_add yX2_add ∈ lw_TB := lw_inT (List.mem_of_getElem? (i := 335) (by rfl)) (by rfl)
set_option maxRecDepth 20000 in
theorem wd_co_yX2_add : Cond.code yX2_add cX2_add 4 none ∈ lw_TB := lw_inT (List.mem_of_getElem? (i := 336) (by rfl)) (by rfl)
set_option maxRecDepth 20000 in
theorem wd_ml_RX5_239 : Cond.methodLink RX5 239 yX0_putNumber ∈ lw_TB := lw_inT (List.mem_of_getElem? (i := 337) (by rfl)) (by rfl)
set_option maxRecDepth 20000 in
theorem wd_im_yX0_putNumber : Cond.instanceMethod yX0_putNumber ∈ lw_TB := lw_inT (List.mem_of_getElem? (i := 338) (by rfl)) (by rfl)
set_option maxRecDepth 20000 in
theorem wd_se_yX0_putNumber : Cond.selects RX0 yX0_putNumber yX0_putNumber ∈ lw_TB := lw_inT (List.mem_of_getElem? (i := 339) (by rfl)) (by rfl)
set_option maxRecDepth 20000 in
theorem wd_co_yX0_putNumber : Cond.code yX0_putNumber cX0_putNumber 2 (some .int) ∈ lw_TB := lw_inT (List.mem_of_getElem? (i := 340) (by rfl)) (by rfl)
set_option maxRecDepth 20000 in
theorem wd_ml_RX5_98 : Cond.methodLink RX5 98 yX1_shown ∈ lw_TB := lw_inT (List.mem_of_getElem? (i := 341) (by rfl)) (by rfl)
set_option maxRecDepth 20000 in
theorem wd_ml_RX5_242 : Cond.methodLink RX5 242 yX0_noteReading ∈ lw_TB := lw_inT (List.mem_of_getElem? (i := 342) (by rfl)) (by rfl)
set_option maxRecDepth 20000 in
theorem wd_im_yX0_noteReading : Cond.instanceMethod yX0_noteReading ∈ lw_TB := lw_inT (List.mem_of_getElem? (i := 343) (by rfl)) (by rfl)
set_option maxRecDepth 20000 in
theorem wd_se_yX0_noteReading : Cond.selects RX0 yX0_noteReading yX0_noteReading ∈ lw_TB := lw_inT (List.mem_of_getElem? (i := 344) (by rfl)) (by rfl)
set_option maxRecDepth 20000 in
theorem wd_co_yX0_noteReading : Cond.code yX0_noteReading cX0_noteReading 3 none ∈ lw_TB := lw_inT (List.mem_of_getElem? (i := 345) (by rfl)) (by rfl)
set_option maxRecDepth 20000 in
theorem wd_ml_RX5_217 : Cond.methodLink RX5 217 yX4_keep ∈ lw_TB := lw_inT (List.mem_of_getElem? (i := 346) (by rfl)) (by rfl)
set_option maxRecDepth 20000 in
theorem wd_im_yX4_keep : Cond.instanceMethod yX4_keep ∈ lw_TB := lw_inT (List.mem_of_getElem? (i := 347) (by rfl)) (by rfl)
set_option maxRecDepth 20000 in
theorem wd_se_yX4_keep : Cond.selects RX4 yX4_keep yX4_keep ∈ lw_TB := lw_inT (List.mem_of_getElem? (i := 348) (by rfl)) (by rfl)
set_option maxRecDepth 20000 in
theorem wd_co_yX4_keep : Cond.code yX4_keep cX4_keep 3 none ∈ lw_TB := lw_inT (List.mem_of_getElem? (i := 349) (by rfl)) (by rfl)
set_option maxRecDepth 20000 in
theorem wd_ml_RX5_91 : Cond.methodLink RX5 91 yX4_held ∈ lw_TB := lw_inT (List.mem_of_getElem? (i := 351) (by rfl)) (by rfl)
set_option maxRecDepth 20000 in
theorem wd_im_yX4_held : Cond.instanceMethod yX4_held ∈ lw_TB := lw_inT (List.mem_of_getElem? (i := 352) (by rfl)) (by rfl)
set_option maxRecDepth 20000 in
theorem wd_se_yX4_held : Cond.selects RX4 yX4_held yX4_held ∈ lw_TB := lw_inT (List.mem_of_getElem? (i := 353) (by rfl)) (by rfl)
set_option maxRecDepth 20000 in
theorem wd_co_yX4_held : Cond.code yX4_held cX4_held 2 (some .int) ∈ lw_TB := lw_inT (List.mem_of_getElem? (i := 354) (by rfl)) (by rfl)
set_option maxRecDepth 20000 in
theorem wd_ml_RX5_183 : Cond.methodLink RX5 183 yX5_putCell ∈ lw_TB := lw_inT (List.mem_of_getElem? (i := 355) (by rfl)) (by rfl)
set_option maxRecDepth 20000 in
theorem wd_im_yX5_putCell : Cond.instanceMethod yX5_putCell ∈ lw_TB := lw_inT (List.mem_of_getElem? (i := 357) (by rfl)) (by rfl)
set_option maxRecDepth 20000 in
theorem wd_co_yX5_putCell : Cond.code yX5_putCell cX5_putCell 4 none ∈ lw_TB := lw_inT (List.mem_of_getElem? (i := 358) (by rfl)) (by rfl)
set_option maxRecDepth 20000 in
theorem wd_ml_RX5_245 : Cond.methodLink RX5 245 yX0_notePut ∈ lw_TB := lw_inT (List.mem_of_getElem? (i := 359) (by rfl)) (by rfl)
set_option maxRecDepth 20000 in
theorem wd_im_yX0_notePut : Cond.instanceMethod yX0_notePut ∈ lw_TB := lw_inT (List.mem_of_getElem? (i := 360) (by rfl)) (by rfl)
set_option maxRecDepth 20000 in
theorem wd_se_yX0_notePut : Cond.selects RX0 yX0_notePut yX0_notePut ∈ lw_TB := lw_inT (List.mem_of_getElem? (i := 361) (by rfl)) (by rfl)
set_option maxRecDepth 20000 in
theorem wd_co_yX0_notePut : Cond.code yX0_notePut cX0_notePut 3 none ∈ lw_TB := lw_inT (List.mem_of_getElem? (i := 362) (by rfl)) (by rfl)
set_option maxRecDepth 20000 in
theorem wd_ml_RX5_248 : Cond.methodLink RX5 248 yX1_count ∈ lw_TB := lw_inT (List.mem_of_getElem? (i := 363) (by rfl)) (by rfl)
set_option maxRecDepth 20000 in
theorem wd_ml_RX5_187 : Cond.methodLink RX5 187 yX5_loadItem ∈ lw_TB := lw_inT (List.mem_of_getElem? (i := 364) (by rfl)) (by rfl)
set_option maxRecDepth 20000 in
theorem wd_im_yX5_loadItem : Cond.instanceMethod yX5_loadItem ∈ lw_TB := lw_inT (List.mem_of_getElem? (i := 366) (by rfl)) (by rfl)
set_option maxRecDepth 20000 in
theorem wd_co_yX5_loadItem : Cond.code yX5_loadItem cX5_loadItem 6 (some .int) ∈ lw_TB := lw_inT (List.mem_of_getElem? (i := 367) (by rfl)) (by rfl)
set_option maxRecDepth 20000 in
theorem wd_ml_RX5_214 : Cond.methodLink RX5 214 yX3_failureAt ∈ lw_TB := lw_inT (List.mem_of_getElem? (i := 368) (by rfl)) (by rfl)
set_option maxRecDepth 20000 in
theorem wd_im_yX3_failureAt : Cond.instanceMethod yX3_failureAt ∈ lw_TB := lw_inT (List.mem_of_getElem? (i := 369) (by rfl)) (by rfl)
set_option maxRecDepth 20000 in
theorem wd_se_yX3_failureAt : Cond.selects RX3 yX3_failureAt yX3_failureAt ∈ lw_TB := lw_inT (List.mem_of_getElem? (i := 370) (by rfl)) (by rfl)
set_option maxRecDepth 20000 in
theorem wd_co_yX3_failureAt : Cond.code yX3_failureAt cX3_failureAt 3 (some .int) ∈ lw_TB := lw_inT (List.mem_of_getElem? (i := 371) (by rfl)) (by rfl)
set_option maxRecDepth 20000 in
theorem wd_ml_RX3_33 : Cond.methodLink RX3 33 yX3_length ∈ lw_TB := lw_inT (List.mem_of_getElem? (i := 372) (by rfl)) (by rfl)
set_option maxRecDepth 20000 in
theorem wd_im_yX3_length : Cond.instanceMethod yX3_length ∈ lw_TB := lw_inT (List.mem_of_getElem? (i := 373) (by rfl)) (by rfl)
set_option maxRecDepth 20000 in
theorem wd_se_yX3_length : Cond.selects RX3 yX3_length yX3_length ∈ lw_TB := lw_inT (List.mem_of_getElem? (i := 374) (by rfl)) (by rfl)
set_option maxRecDepth 20000 in
theorem wd_co_yX3_length : Cond.code yX3_length cX3_length 2 (some .int) ∈ lw_TB := lw_inT (List.mem_of_getElem? (i := 375) (by rfl)) (by rfl)
set_option maxRecDepth 20000 in
theorem wd_ml_RX3_29 : Cond.methodLink RX3 29 yX3_hasItem ∈ lw_TB := lw_inT (List.mem_of_getElem? (i := 377) (by rfl)) (by rfl)
set_option maxRecDepth 20000 in
theorem wd_im_yX3_hasItem : Cond.instanceMethod yX3_hasItem ∈ lw_TB := lw_inT (List.mem_of_getElem? (i := 378) (by rfl)) (by rfl)
set_option maxRecDepth 20000 in
theorem wd_se_yX3_hasItem : Cond.selects RX3 yX3_hasItem yX3_hasItem ∈ lw_TB := lw_inT (List.mem_of_getElem? (i := 379) (by rfl)) (by rfl)
set_option maxRecDepth 20000 in
theorem wd_co_yX3_hasItem : Cond.code yX3_hasItem cX3_hasItem 3 (some .boolean) ∈ lw_TB := lw_inT (List.mem_of_getElem? (i := 380) (by rfl)) (by rfl)
set_option maxRecDepth 20000 in
theorem wd_ml_RX5_110 : Cond.methodLink RX5 110 yX3_itemOf ∈ lw_TB := lw_inT (List.mem_of_getElem? (i := 381) (by rfl)) (by rfl)
set_option maxRecDepth 20000 in
theorem wd_im_yX3_itemOf : Cond.instanceMethod yX3_itemOf ∈ lw_TB := lw_inT (List.mem_of_getElem? (i := 382) (by rfl)) (by rfl)
set_option maxRecDepth 20000 in
theorem wd_se_yX3_itemOf : Cond.selects RX3 yX3_itemOf yX3_itemOf ∈ lw_TB := lw_inT (List.mem_of_getElem? (i := 383) (by rfl)) (by rfl)
set_option maxRecDepth 20000 in
theorem wd_co_yX3_itemOf : Cond.code yX3_itemOf cX3_itemOf 3 (some .int) ∈ lw_TB := lw_inT (List.mem_of_getElem? (i := 384) (by rfl)) (by rfl)
set_option maxRecDepth 20000 in
theorem wd_ml_RX5_191 : Cond.methodLink RX5 191 yX3_store ∈ lw_TB := lw_inT (List.mem_of_getElem? (i := 385) (by rfl)) (by rfl)
set_option maxRecDepth 20000 in
theorem wd_im_yX3_store : Cond.instanceMethod yX3_store ∈ lw_TB := lw_inT (List.mem_of_getElem? (i := 386) (by rfl)) (by rfl)
set_option maxRecDepth 20000 in
theorem wd_se_yX3_store : Cond.selects RX3 yX3_store yX3_store ∈ lw_TB := lw_inT (List.mem_of_getElem? (i := 387) (by rfl)) (by rfl)
set_option maxRecDepth 20000 in
theorem wd_co_yX3_store : Cond.code yX3_store cX3_store 5 (some .int) ∈ lw_TB := lw_inT (List.mem_of_getElem? (i := 388) (by rfl)) (by rfl)
set_option maxRecDepth 20000 in
theorem wd_ml_RX3_37 : Cond.methodLink RX3 37 yX3_failureAt ∈ lw_TB := lw_inT (List.mem_of_getElem? (i := 389) (by rfl)) (by rfl)
set_option maxRecDepth 20000 in
theorem wd_ml_RX3_41 : Cond.methodLink RX3 41 yX3_isFrozen ∈ lw_TB := lw_inT (List.mem_of_getElem? (i := 390) (by rfl)) (by rfl)
set_option maxRecDepth 20000 in
theorem wd_im_yX3_isFrozen : Cond.instanceMethod yX3_isFrozen ∈ lw_TB := lw_inT (List.mem_of_getElem? (i := 391) (by rfl)) (by rfl)
set_option maxRecDepth 20000 in
theorem wd_se_yX3_isFrozen : Cond.selects RX3 yX3_isFrozen yX3_isFrozen ∈ lw_TB := lw_inT (List.mem_of_getElem? (i := 392) (by rfl)) (by rfl)
set_option maxRecDepth 20000 in
theorem wd_co_yX3_isFrozen : Cond.code yX3_isFrozen cX3_isFrozen 2 (some .boolean) ∈ lw_TB := lw_inT (List.mem_of_getElem? (i := 393) (by rfl)) (by rfl)
set_option maxRecDepth 20000 in
theorem wd_ml_RX5_195 : Cond.methodLink RX5 195 yX5_swapCell ∈ lw_TB := lw_inT (List.mem_of_getElem? (i := 394) (by rfl)) (by rfl)
set_option maxRecDepth 20000 in
theorem wd_im_yX5_swapCell : Cond.instanceMethod yX5_swapCell ∈ lw_TB := lw_inT (List.mem_of_getElem? (i := 396) (by rfl)) (by rfl)
set_option maxRecDepth 20000 in
theorem wd_co_yX5_swapCell : Cond.code yX5_swapCell cX5_swapCell 7 (some .int) ∈ lw_TB := lw_inT (List.mem_of_getElem? (i := 397) (by rfl)) (by rfl)
set_option maxRecDepth 20000 in
theorem wd_ml_RX5_198 : Cond.methodLink RX5 198 yX5_endAtom ∈ lw_TB := lw_inT (List.mem_of_getElem? (i := 398) (by rfl)) (by rfl)
set_option maxRecDepth 20000 in
theorem wd_im_yX5_endAtom : Cond.instanceMethod yX5_endAtom ∈ lw_TB := lw_inT (List.mem_of_getElem? (i := 400) (by rfl)) (by rfl)
set_option maxRecDepth 20000 in
theorem wd_co_yX5_endAtom : Cond.code yX5_endAtom cX5_endAtom 4 (some .int) ∈ lw_TB := lw_inT (List.mem_of_getElem? (i := 401) (by rfl)) (by rfl)
set_option maxRecDepth 20000 in
theorem wd_ml_RX5_254 : Cond.methodLink RX5 254 yX5_isOvertaken ∈ lw_TB := lw_inT (List.mem_of_getElem? (i := 402) (by rfl)) (by rfl)
set_option maxRecDepth 20000 in
theorem wd_im_yX5_isOvertaken : Cond.instanceMethod yX5_isOvertaken ∈ lw_TB := lw_inT (List.mem_of_getElem? (i := 404) (by rfl)) (by rfl)
set_option maxRecDepth 20000 in
theorem wd_co_yX5_isOvertaken : Cond.code yX5_isOvertaken cX5_isOvertaken 3 (some .boolean) ∈ lw_TB := lw_inT (List.mem_of_getElem? (i := 405) (by rfl)) (by rfl)
set_option maxRecDepth 20000 in
theorem wd_ml_RX5_261 : Cond.methodLink RX5 261 yX0_hasRead ∈ lw_TB := lw_inT (List.mem_of_getElem? (i := 406) (by rfl)) (by rfl)
set_option maxRecDepth 20000 in
theorem wd_im_yX0_hasRead : Cond.instanceMethod yX0_hasRead ∈ lw_TB := lw_inT (List.mem_of_getElem? (i := 407) (by rfl)) (by rfl)
set_option maxRecDepth 20000 in
theorem wd_se_yX0_hasRead : Cond.selects RX0 yX0_hasRead yX0_hasRead ∈ lw_TB := lw_inT (List.mem_of_getElem? (i := 408) (by rfl)) (by rfl)
set_option maxRecDepth 20000 in
theorem wd_co_yX0_hasRead : Cond.code yX0_hasRead cX0_hasRead 2 (some .boolean) ∈ lw_TB := lw_inT (List.mem_of_getElem? (i := 409) (by rfl)) (by rfl)
set_option maxRecDepth 20000 in
theorem wd_ml_RX5_264 : Cond.methodLink RX5 264 yX0_firstNumber ∈ lw_TB := lw_inT (List.mem_of_getElem? (i := 410) (by rfl)) (by rfl)
set_option maxRecDepth 20000 in
theorem wd_im_yX0_firstNumber : Cond.instanceMethod yX0_firstNumber ∈ lw_TB := lw_inT (List.mem_of_getElem? (i := 411) (by rfl)) (by rfl)
set_option maxRecDepth 20000 in
theorem wd_se_yX0_firstNumber : Cond.selects RX0 yX0_firstNumber yX0_firstNumber ∈ lw_TB := lw_inT (List.mem_of_getElem? (i := 412) (by rfl)) (by rfl)
set_option maxRecDepth 20000 in
theorem wd_co_yX0_firstNumber : Cond.code yX0_firstNumber cX0_firstNumber 2 (some .int) ∈ lw_TB := lw_inT (List.mem_of_getElem? (i := 413) (by rfl)) (by rfl)
set_option maxRecDepth 20000 in
theorem wd_ml_RX5_258 : Cond.methodLink RX5 258 yX4_beginAnew ∈ lw_TB := lw_inT (List.mem_of_getElem? (i := 414) (by rfl)) (by rfl)
set_option maxRecDepth 20000 in
theorem wd_im_yX4_beginAnew : Cond.instanceMethod yX4_beginAnew ∈ lw_TB := lw_inT (List.mem_of_getElem? (i := 415) (by rfl)) (by rfl)
set_option maxRecDepth 20000 in
theorem wd_se_yX4_beginAnew : Cond.selects RX4 yX4_beginAnew yX4_beginAnew ∈ lw_TB := lw_inT (List.mem_of_getElem? (i := 416) (by rfl)) (by rfl)
set_option maxRecDepth 20000 in
theorem wd_co_yX4_beginAnew : Cond.code yX4_beginAnew cX4_beginAnew 1 none ∈ lw_TB := lw_inT (List.mem_of_getElem? (i := 417) (by rfl)) (by rfl)
set_option maxRecDepth 20000 in
theorem wd_ml_RX4_105 : Cond.methodLink RX4 105 arraycopyName ∈ lw_TB := lw_inT (List.mem_of_getElem? (i := 418) (by rfl)) (by rfl)
set_option maxRecDepth 20000 in
theorem wd_sm_arraycopyName : Cond.static arraycopyName ∈ lw_TB := lw_inT (List.mem_of_getElem? (i := 419) (by rfl)) (by rfl)
set_option maxRecDepth 20000 in
theorem wd_nat_arraycopyName : Cond.native arraycopyName ∈ lw_TB := lw_inT (List.mem_of_getElem? (i := 420) (by rfl)) (by rfl)
set_option maxRecDepth 20000 in
theorem wd_ml_RX4_111 : Cond.methodLink RX4 111 yX0_forget ∈ lw_TB := lw_inT (List.mem_of_getElem? (i := 421) (by rfl)) (by rfl)
set_option maxRecDepth 20000 in
theorem wd_im_yX0_forget : Cond.instanceMethod yX0_forget ∈ lw_TB := lw_inT (List.mem_of_getElem? (i := 422) (by rfl)) (by rfl)
set_option maxRecDepth 20000 in
theorem wd_se_yX0_forget : Cond.selects RX0 yX0_forget yX0_forget ∈ lw_TB := lw_inT (List.mem_of_getElem? (i := 423) (by rfl)) (by rfl)
set_option maxRecDepth 20000 in
theorem wd_co_yX0_forget : Cond.code yX0_forget cX0_forget 2 none ∈ lw_TB := lw_inT (List.mem_of_getElem? (i := 424) (by rfl)) (by rfl)
set_option maxRecDepth 20000 in
theorem wd_ml_RX5_201 : Cond.methodLink RX5 201 yX3_make ∈ lw_TB := lw_inT (List.mem_of_getElem? (i := 425) (by rfl)) (by rfl)
set_option maxRecDepth 20000 in
theorem wd_im_yX3_make : Cond.instanceMethod yX3_make ∈ lw_TB := lw_inT (List.mem_of_getElem? (i := 426) (by rfl)) (by rfl)
set_option maxRecDepth 20000 in
theorem wd_se_yX3_make : Cond.selects RX3 yX3_make yX3_make ∈ lw_TB := lw_inT (List.mem_of_getElem? (i := 427) (by rfl)) (by rfl)
set_option maxRecDepth 20000 in
theorem wd_co_yX3_make : Cond.code yX3_make cX3_make 3 (some .int) ∈ lw_TB := lw_inT (List.mem_of_getElem? (i := 428) (by rfl)) (by rfl)
set_option maxRecDepth 20000 in
theorem wd_ml_RX3_44 : Cond.methodLink RX3 44 yJ7_fill_fda19 ∈ lw_TB := lw_inT (List.mem_of_getElem? (i := 429) (by rfl)) (by rfl)
set_option maxRecDepth 20000 in
theorem wd_sm_yJ7_fill_fda19 : Cond.static yJ7_fill_fda19 ∈ lw_TB := lw_inT (List.mem_of_getElem? (i := 430) (by rfl)) (by rfl)
set_option maxRecDepth 20000 in
theorem wd_co_yJ7_fill_fda19 : Cond.code yJ7_fill_fda19 cJ7_fill_fda19 5 none ∈ lw_TB := lw_inT (List.mem_of_getElem? (i := 431) (by rfl)) (by rfl)
set_option maxRecDepth 20000 in
theorem wd_ml_RJ7_13 : Cond.methodLink RJ7 13 yJ7_rangeCheck_23922 ∈ lw_TB := lw_inT (List.mem_of_getElem? (i := 432) (by rfl)) (by rfl)
set_option maxRecDepth 20000 in
theorem wd_sm_yJ7_rangeCheck_23922 : Cond.static yJ7_rangeCheck_23922 ∈ lw_TB := lw_inT (List.mem_of_getElem? (i := 433) (by rfl)) (by rfl)
set_option maxRecDepth 20000 in
theorem wd_co_yJ7_rangeCheck_23922 : Cond.code yJ7_rangeCheck_23922 cJ7_rangeCheck_23922 3 none ∈ lw_TB := lw_inT (List.mem_of_getElem? (i := 434) (by rfl)) (by rfl)
set_option maxRecDepth 20000 in
theorem wd_ml_RX5_204 : Cond.methodLink RX5 204 yX3_freeze ∈ lw_TB := lw_inT (List.mem_of_getElem? (i := 435) (by rfl)) (by rfl)
set_option maxRecDepth 20000 in
theorem wd_im_yX3_freeze : Cond.instanceMethod yX3_freeze ∈ lw_TB := lw_inT (List.mem_of_getElem? (i := 436) (by rfl)) (by rfl)
set_option maxRecDepth 20000 in
theorem wd_se_yX3_freeze : Cond.selects RX3 yX3_freeze yX3_freeze ∈ lw_TB := lw_inT (List.mem_of_getElem? (i := 437) (by rfl)) (by rfl)
set_option maxRecDepth 20000 in
theorem wd_co_yX3_freeze : Cond.code yX3_freeze cX3_freeze 2 (some .int) ∈ lw_TB := lw_inT (List.mem_of_getElem? (i := 438) (by rfl)) (by rfl)
set_option maxRecDepth 20000 in
theorem wd_ml_RX5_207 : Cond.methodLink RX5 207 yX1_defer ∈ lw_TB := lw_inT (List.mem_of_getElem? (i := 439) (by rfl)) (by rfl)
set_option maxRecDepth 20000 in
theorem wd_im_yX1_defer : Cond.instanceMethod yX1_defer ∈ lw_TB := lw_inT (List.mem_of_getElem? (i := 440) (by rfl)) (by rfl)
set_option maxRecDepth 20000 in
theorem wd_se_yX1_defer : Cond.selects RX1 yX1_defer yX1_defer ∈ lw_TB := lw_inT (List.mem_of_getElem? (i := 441) (by rfl)) (by rfl)
set_option maxRecDepth 20000 in
theorem wd_co_yX1_defer : Cond.code yX1_defer cX1_defer 3 none ∈ lw_TB := lw_inT (List.mem_of_getElem? (i := 442) (by rfl)) (by rfl)
set_option maxRecDepth 20000 in
theorem wd_ml_RX5_210 : Cond.methodLink RX5 210 yX4_performAlone ∈ lw_TB := lw_inT (List.mem_of_getElem? (i := 443) (by rfl)) (by rfl)
set_option maxRecDepth 20000 in
theorem wd_im_yX4_performAlone : Cond.instanceMethod yX4_performAlone ∈ lw_TB := lw_inT (List.mem_of_getElem? (i := 444) (by rfl)) (by rfl)
set_option maxRecDepth 20000 in
theorem wd_se_yX4_performAlone : Cond.selects RX4 yX4_performAlone yX4_performAlone ∈ lw_TB := lw_inT (List.mem_of_getElem? (i := 445) (by rfl)) (by rfl)
set_option maxRecDepth 20000 in
theorem wd_co_yX4_performAlone : Cond.code yX4_performAlone cX4_performAlone 5 (some .int) ∈ lw_TB := lw_inT (List.mem_of_getElem? (i := 446) (by rfl)) (by rfl)
set_option maxRecDepth 20000 in
theorem wd_ml_RX4_73 : Cond.methodLink RX4 73 yX4_keep ∈ lw_TB := lw_inT (List.mem_of_getElem? (i := 447) (by rfl)) (by rfl)
set_option maxRecDepth 20000 in
theorem wd_ml_RX4_77 : Cond.methodLink RX4 77 yX4_held ∈ lw_TB := lw_inT (List.mem_of_getElem? (i := 448) (by rfl)) (by rfl)
set_option maxRecDepth 20000 in
theorem wd_ml_RX4_81 : Cond.methodLink RX4 81 yX4_divide ∈ lw_TB := lw_inT (List.mem_of_getElem? (i := 449) (by rfl)) (by rfl)
set_option maxRecDepth 20000 in
theorem wd_im_yX4_divide : Cond.instanceMethod yX4_divide ∈ lw_TB := lw_inT (List.mem_of_getElem? (i := 451) (by rfl)) (by rfl)
set_option maxRecDepth 20000 in
theorem wd_co_yX4_divide : Cond.code yX4_divide cX4_divide 4 (some .int) ∈ lw_TB := lw_inT (List.mem_of_getElem? (i := 452) (by rfl)) (by rfl)
set_option maxRecDepth 20000 in
theorem wd_ml_RX4_88 : Cond.methodLink RX4 88 yX4_beginAtom ∈ lw_TB := lw_inT (List.mem_of_getElem? (i := 453) (by rfl)) (by rfl)
set_option maxRecDepth 20000 in
theorem wd_im_yX4_beginAtom : Cond.instanceMethod yX4_beginAtom ∈ lw_TB := lw_inT (List.mem_of_getElem? (i := 455) (by rfl)) (by rfl)
set_option maxRecDepth 20000 in
theorem wd_co_yX4_beginAtom : Cond.code yX4_beginAtom cX4_beginAtom 1 (some .int) ∈ lw_TB := lw_inT (List.mem_of_getElem? (i := 456) (by rfl)) (by rfl)
set_option maxRecDepth 20000 in
theorem wd_ml_RX4_92 : Cond.methodLink RX4 92 yX4_openTry ∈ lw_TB := lw_inT (List.mem_of_getElem? (i := 457) (by rfl)) (by rfl)
set_option maxRecDepth 20000 in
theorem wd_im_yX4_openTry : Cond.instanceMethod yX4_openTry ∈ lw_TB := lw_inT (List.mem_of_getElem? (i := 459) (by rfl)) (by rfl)
set_option maxRecDepth 20000 in
theorem wd_co_yX4_openTry : Cond.code yX4_openTry cX4_openTry 2 (some .int) ∈ lw_TB := lw_inT (List.mem_of_getElem? (i := 460) (by rfl)) (by rfl)
set_option maxRecDepth 20000 in
theorem wd_ml_RX4_95 : Cond.methodLink RX4 95 yX4_closeTry ∈ lw_TB := lw_inT (List.mem_of_getElem? (i := 461) (by rfl)) (by rfl)
set_option maxRecDepth 20000 in
theorem wd_im_yX4_closeTry : Cond.instanceMethod yX4_closeTry ∈ lw_TB := lw_inT (List.mem_of_getElem? (i := 463) (by rfl)) (by rfl)
set_option maxRecDepth 20000 in
theorem wd_co_yX4_closeTry : Cond.code yX4_closeTry cX4_closeTry 1 (some .int) ∈ lw_TB := lw_inT (List.mem_of_getElem? (i := 464) (by rfl)) (by rfl)
set_option maxRecDepth 20000 in
theorem wd_ml_RX5_160 : Cond.methodLink RX5 160 yX4_fail ∈ lw_TB := lw_inT (List.mem_of_getElem? (i := 465) (by rfl)) (by rfl)
set_option maxRecDepth 20000 in
theorem wd_im_yX4_fail : Cond.instanceMethod yX4_fail ∈ lw_TB := lw_inT (List.mem_of_getElem? (i := 466) (by rfl)) (by rfl)
set_option maxRecDepth 20000 in
theorem wd_se_yX4_fail : Cond.selects RX4 yX4_fail yX4_fail ∈ lw_TB := lw_inT (List.mem_of_getElem? (i := 467) (by rfl)) (by rfl)
set_option maxRecDepth 20000 in
theorem wd_co_yX4_fail : Cond.code yX4_fail cX4_fail 2 none ∈ lw_TB := lw_inT (List.mem_of_getElem? (i := 468) (by rfl)) (by rfl)
set_option maxRecDepth 20000 in
theorem wd_ml_RL_23 : Cond.methodLink RL 23 yX5_play ∈ lw_TB := lw_inT (List.mem_of_getElem? (i := 469) (by rfl)) (by rfl)
set_option maxRecDepth 20000 in
theorem wd_im_yX5_play : Cond.instanceMethod yX5_play ∈ lw_TB := lw_inT (List.mem_of_getElem? (i := 470) (by rfl)) (by rfl)
set_option maxRecDepth 20000 in
theorem wd_se_yX5_play : Cond.selects RX5 yX5_play yX5_play ∈ lw_TB := lw_inT (List.mem_of_getElem? (i := 471) (by rfl)) (by rfl)
set_option maxRecDepth 20000 in
theorem wd_co_yX5_play : Cond.code yX5_play cX5_play 6 (some .int) ∈ lw_TB := lw_inT (List.mem_of_getElem? (i := 472) (by rfl)) (by rfl)
set_option maxRecDepth 20000 in
theorem wd_ct_RX5_61 : Cond.constant RX5 61 1103515245 ∈ lw_TB := lw_inT (List.mem_of_getElem? (i := 473) (by rfl)) (by rfl)
set_option maxRecDepth 20000 in
theorem wd_ml_RX5_62 : Cond.methodLink RX5 62 yX5_drawn ∈ lw_TB := lw_inT (List.mem_of_getElem? (i := 474) (by rfl)) (by rfl)
set_option maxRecDepth 20000 in
theorem wd_im_yX5_drawn : Cond.instanceMethod yX5_drawn ∈ lw_TB := lw_inT (List.mem_of_getElem? (i := 476) (by rfl)) (by rfl)
set_option maxRecDepth 20000 in
theorem wd_co_yX5_drawn : Cond.code yX5_drawn cX5_drawn 5 (some (.object "MutableCells$Strand")) ∈ lw_TB := lw_inT (List.mem_of_getElem? (i := 477) (by rfl)) (by rfl)
set_option maxRecDepth 20000 in
theorem wd_ml_RX5_150 : Cond.methodLink RX5 150 yX5_goes ∈ lw_TB := lw_inT (List.mem_of_getElem? (i := 478) (by rfl)) (by rfl)
set_option maxRecDepth 20000 in
theorem wd_im_yX5_goes : Cond.instanceMethod yX5_goes ∈ lw_TB := lw_inT (List.mem_of_getElem? (i := 480) (by rfl)) (by rfl)
set_option maxRecDepth 20000 in
theorem wd_co_yX5_goes : Cond.code yX5_goes cX5_goes 3 (some .boolean) ∈ lw_TB := lw_inT (List.mem_of_getElem? (i := 481) (by rfl)) (by rfl)
set_option maxRecDepth 20000 in
theorem wd_ml_RL_28 : Cond.methodLink RL 28 yX5_told ∈ lw_TB := lw_inT (List.mem_of_getElem? (i := 482) (by rfl)) (by rfl)
set_option maxRecDepth 20000 in
theorem wd_im_yX5_told : Cond.instanceMethod yX5_told ∈ lw_TB := lw_inT (List.mem_of_getElem? (i := 483) (by rfl)) (by rfl)
set_option maxRecDepth 20000 in
theorem wd_se_yX5_told : Cond.selects RX5 yX5_told yX5_told ∈ lw_TB := lw_inT (List.mem_of_getElem? (i := 484) (by rfl)) (by rfl)
set_option maxRecDepth 20000 in
theorem wd_co_yX5_told : Cond.code yX5_told cX5_told 4 (some .int) ∈ lw_TB := lw_inT (List.mem_of_getElem? (i := 485) (by rfl)) (by rfl)
set_option maxRecDepth 20000 in
theorem wd_ml_RL_32 : Cond.methodLink RL 32 yX5_register ∈ lw_TB := lw_inT (List.mem_of_getElem? (i := 486) (by rfl)) (by rfl)
set_option maxRecDepth 20000 in
theorem wd_im_yX5_register : Cond.instanceMethod yX5_register ∈ lw_TB := lw_inT (List.mem_of_getElem? (i := 487) (by rfl)) (by rfl)
set_option maxRecDepth 20000 in
theorem wd_se_yX5_register : Cond.selects RX5 yX5_register yX5_register ∈ lw_TB := lw_inT (List.mem_of_getElem? (i := 488) (by rfl)) (by rfl)
set_option maxRecDepth 20000 in
theorem wd_co_yX5_register : Cond.code yX5_register cX5_register 4 (some .int) ∈ lw_TB := lw_inT (List.mem_of_getElem? (i := 489) (by rfl)) (by rfl)
set_option maxRecDepth 20000 in
theorem wd_ml_RL_36 : Cond.methodLink RL 36 yX5_cell ∈ lw_TB := lw_inT (List.mem_of_getElem? (i := 490) (by rfl)) (by rfl)
set_option maxRecDepth 20000 in
theorem wd_im_yX5_cell : Cond.instanceMethod yX5_cell ∈ lw_TB := lw_inT (List.mem_of_getElem? (i := 491) (by rfl)) (by rfl)
set_option maxRecDepth 20000 in
theorem wd_se_yX5_cell : Cond.selects RX5 yX5_cell yX5_cell ∈ lw_TB := lw_inT (List.mem_of_getElem? (i := 492) (by rfl)) (by rfl)
set_option maxRecDepth 20000 in
theorem wd_co_yX5_cell : Cond.code yX5_cell cX5_cell 2 (some .int) ∈ lw_TB := lw_inT (List.mem_of_getElem? (i := 493) (by rfl)) (by rfl)
set_option maxRecDepth 20000 in
theorem wd_ml_RL_40 : Cond.methodLink RL 40 yX5_lazy ∈ lw_TB := lw_inT (List.mem_of_getElem? (i := 494) (by rfl)) (by rfl)
set_option maxRecDepth 20000 in
theorem wd_im_yX5_lazy : Cond.instanceMethod yX5_lazy ∈ lw_TB := lw_inT (List.mem_of_getElem? (i := 495) (by rfl)) (by rfl)
set_option maxRecDepth 20000 in
theorem wd_se_yX5_lazy : Cond.selects RX5 yX5_lazy yX5_lazy ∈ lw_TB := lw_inT (List.mem_of_getElem? (i := 496) (by rfl)) (by rfl)
set_option maxRecDepth 20000 in
theorem wd_co_yX5_lazy : Cond.code yX5_lazy cX5_lazy 2 (some .int) ∈ lw_TB := lw_inT (List.mem_of_getElem? (i := 497) (by rfl)) (by rfl)
set_option maxRecDepth 20000 in
theorem wd_ml_RL_44 : Cond.methodLink RL 44 yX5_size ∈ lw_TB := lw_inT (List.mem_of_getElem? (i := 498) (by rfl)) (by rfl)
set_option maxRecDepth 20000 in
theorem wd_im_yX5_size : Cond.instanceMethod yX5_size ∈ lw_TB := lw_inT (List.mem_of_getElem? (i := 499) (by rfl)) (by rfl)
set_option maxRecDepth 20000 in
theorem wd_se_yX5_size : Cond.selects RX5 yX5_size yX5_size ∈ lw_TB := lw_inT (List.mem_of_getElem? (i := 500) (by rfl)) (by rfl)
set_option maxRecDepth 20000 in
theorem wd_co_yX5_size : Cond.code yX5_size cX5_size 2 (some .int) ∈ lw_TB := lw_inT (List.mem_of_getElem? (i := 501) (by rfl)) (by rfl)
set_option maxRecDepth 20000 in
theorem wd_ml_RX5_107 : Cond.methodLink RX5 107 yX3_length ∈ lw_TB := lw_inT (List.mem_of_getElem? (i := 502) (by rfl)) (by rfl)
set_option maxRecDepth 20000 in
theorem wd_ml_RL_48 : Cond.methodLink RL 48 yX5_item ∈ lw_TB := lw_inT (List.mem_of_getElem? (i := 503) (by rfl)) (by rfl)
set_option maxRecDepth 20000 in
theorem wd_im_yX5_item : Cond.instanceMethod yX5_item ∈ lw_TB := lw_inT (List.mem_of_getElem? (i := 504) (by rfl)) (by rfl)
set_option maxRecDepth 20000 in
theorem wd_se_yX5_item : Cond.selects RX5 yX5_item yX5_item ∈ lw_TB := lw_inT (List.mem_of_getElem? (i := 505) (by rfl)) (by rfl)
set_option maxRecDepth 20000 in
theorem wd_co_yX5_item : Cond.code yX5_item cX5_item 3 (some .int) ∈ lw_TB := lw_inT (List.mem_of_getElem? (i := 506) (by rfl)) (by rfl)
set_option maxRecDepth 20000 in
theorem wd_ml_RL_52 : Cond.methodLink RL 52 yX5_frozen ∈ lw_TB := lw_inT (List.mem_of_getElem? (i := 507) (by rfl)) (by rfl)
set_option maxRecDepth 20000 in
theorem wd_im_yX5_frozen : Cond.instanceMethod yX5_frozen ∈ lw_TB := lw_inT (List.mem_of_getElem? (i := 508) (by rfl)) (by rfl)
set_option maxRecDepth 20000 in
theorem wd_se_yX5_frozen : Cond.selects RX5 yX5_frozen yX5_frozen ∈ lw_TB := lw_inT (List.mem_of_getElem? (i := 509) (by rfl)) (by rfl)
set_option maxRecDepth 20000 in
theorem wd_co_yX5_frozen : Cond.code yX5_frozen cX5_frozen 2 (some .int) ∈ lw_TB := lw_inT (List.mem_of_getElem? (i := 510) (by rfl)) (by rfl)
set_option maxRecDepth 20000 in
theorem wd_ml_RX5_114 : Cond.methodLink RX5 114 yX3_isFrozen ∈ lw_TB := lw_inT (List.mem_of_getElem? (i := 511) (by rfl)) (by rfl)
set_option maxRecDepth 20000 in
theorem wd_ml_RL_56 : Cond.methodLink RL 56 yX5_put ∈ lw_TB := lw_inT (List.mem_of_getElem? (i := 512) (by rfl)) (by rfl)
set_option maxRecDepth 20000 in
theorem wd_im_yX5_put : Cond.instanceMethod yX5_put ∈ lw_TB := lw_inT (List.mem_of_getElem? (i := 513) (by rfl)) (by rfl)
set_option maxRecDepth 20000 in
theorem wd_se_yX5_put : Cond.selects RX5 yX5_put yX5_put ∈ lw_TB := lw_inT (List.mem_of_getElem? (i := 514) (by rfl)) (by rfl)
set_option maxRecDepth 20000 in
theorem wd_co_yX5_put : Cond.code yX5_put cX5_put 4 (some .int) ∈ lw_TB := lw_inT (List.mem_of_getElem? (i := 515) (by rfl)) (by rfl)
set_option maxRecDepth 20000 in
theorem wd_ml_RX5_117 : Cond.methodLink RX5 117 yX1_hold ∈ lw_TB := lw_inT (List.mem_of_getElem? (i := 516) (by rfl)) (by rfl)
set_option maxRecDepth 20000 in
theorem wd_ml_RL_60 : Cond.methodLink RL 60 yX5_writes ∈ lw_TB := lw_inT (List.mem_of_getElem? (i := 517) (by rfl)) (by rfl)
set_option maxRecDepth 20000 in
theorem wd_im_yX5_writes : Cond.instanceMethod yX5_writes ∈ lw_TB := lw_inT (List.mem_of_getElem? (i := 518) (by rfl)) (by rfl)
set_option maxRecDepth 20000 in
theorem wd_se_yX5_writes : Cond.selects RX5 yX5_writes yX5_writes ∈ lw_TB := lw_inT (List.mem_of_getElem? (i := 519) (by rfl)) (by rfl)
set_option maxRecDepth 20000 in
theorem wd_co_yX5_writes : Cond.code yX5_writes cX5_writes 1 (some .int) ∈ lw_TB := lw_inT (List.mem_of_getElem? (i := 520) (by rfl)) (by rfl)
set_option maxRecDepth 20000 in
theorem wd_ml_RL_65 : Cond.methodLink RL 65 yX5_write ∈ lw_TB := lw_inT (List.mem_of_getElem? (i := 521) (by rfl)) (by rfl)
set_option maxRecDepth 20000 in
theorem wd_im_yX5_write : Cond.instanceMethod yX5_write ∈ lw_TB := lw_inT (List.mem_of_getElem? (i := 522) (by rfl)) (by rfl)
set_option maxRecDepth 20000 in
theorem wd_se_yX5_write : Cond.selects RX5 yX5_write yX5_write ∈ lw_TB := lw_inT (List.mem_of_getElem? (i := 523) (by rfl)) (by rfl)
set_option maxRecDepth 20000 in
theorem wd_co_yX5_write : Cond.code yX5_write cX5_write 3 (some .int) ∈ lw_TB := lw_inT (List.mem_of_getElem? (i := 524) (by rfl)) (by rfl)
set_option maxRecDepth 20000 in
theorem wd_ml_RX5_130 : Cond.methodLink RX5 130 yX2_tell ∈ lw_TB := lw_inT (List.mem_of_getElem? (i := 525) (by rfl)) (by rfl)
set_option maxRecDepth 20000 in
theorem wd_im_yX2_tell : Cond.instanceMethod yX2_tell ∈ lw_TB := lw_inT (List.mem_of_getElem? (i := 526) (by rfl)) (by rfl)
set_option maxRecDepth 20000 in
theorem wd_se_yX2_tell : Cond.selects RX2 yX2_tell yX2_tell ∈ lw_TB := lw_inT (List.mem_of_getElem? (i := 527) (by rfl)) (by rfl)
set_option maxRecDepth 20000 in
theorem wd_co_yX2_tell : Cond.code yX2_tell cX2_tell 4 (some .int) ∈ lw_TB := lw_inT (List.mem_of_getElem? (i := 528) (by rfl)) (by rfl)
set_option maxRecDepth 20000 in
theorem wd_ml_RL_69 : Cond.methodLink RL 69 yX5_again ∈ lw_TB := lw_inT (List.mem_of_getElem? (i := 529) (by rfl)) (by rfl)
set_option maxRecDepth 20000 in
theorem wd_im_yX5_again : Cond.instanceMethod yX5_again ∈ lw_TB := lw_inT (List.mem_of_getElem? (i := 530) (by rfl)) (by rfl)
set_option maxRecDepth 20000 in
theorem wd_se_yX5_again : Cond.selects RX5 yX5_again yX5_again ∈ lw_TB := lw_inT (List.mem_of_getElem? (i := 531) (by rfl)) (by rfl)
set_option maxRecDepth 20000 in
theorem wd_co_yX5_again : Cond.code yX5_again cX5_again 1 (some .int) ∈ lw_TB := lw_inT (List.mem_of_getElem? (i := 532) (by rfl)) (by rfl)
set_option maxRecDepth 20000 in
theorem wd_ml_RX5_133 : Cond.methodLink RX5 133 yX5_restart ∈ lw_TB := lw_inT (List.mem_of_getElem? (i := 533) (by rfl)) (by rfl)
set_option maxRecDepth 20000 in
theorem wd_im_yX5_restart : Cond.instanceMethod yX5_restart ∈ lw_TB := lw_inT (List.mem_of_getElem? (i := 535) (by rfl)) (by rfl)
set_option maxRecDepth 20000 in
theorem wd_co_yX5_restart : Cond.code yX5_restart cX5_restart 5 (some .int) ∈ lw_TB := lw_inT (List.mem_of_getElem? (i := 536) (by rfl)) (by rfl)
set_option maxRecDepth 20000 in
theorem wd_ml_RX5_140 : Cond.methodLink RX5 140 yX1_reset ∈ lw_TB := lw_inT (List.mem_of_getElem? (i := 537) (by rfl)) (by rfl)
set_option maxRecDepth 20000 in
theorem wd_ml_RX5_143 : Cond.methodLink RX5 143 yX3_reset ∈ lw_TB := lw_inT (List.mem_of_getElem? (i := 538) (by rfl)) (by rfl)
set_option maxRecDepth 20000 in
theorem wd_ml_RX5_144 : Cond.methodLink RX5 144 yX4_reset ∈ lw_TB := lw_inT (List.mem_of_getElem? (i := 539) (by rfl)) (by rfl)
set_option maxRecDepth 20000 in
theorem wd_im_yX4_reset : Cond.instanceMethod yX4_reset ∈ lw_TB := lw_inT (List.mem_of_getElem? (i := 540) (by rfl)) (by rfl)
set_option maxRecDepth 20000 in
theorem wd_se_yX4_reset : Cond.selects RX4 yX4_reset yX4_reset ∈ lw_TB := lw_inT (List.mem_of_getElem? (i := 541) (by rfl)) (by rfl)
set_option maxRecDepth 20000 in
theorem wd_co_yX4_reset : Cond.code yX4_reset cX4_reset 2 none ∈ lw_TB := lw_inT (List.mem_of_getElem? (i := 542) (by rfl)) (by rfl)
set_option maxRecDepth 20000 in
theorem wd_ml_RX4_44 : Cond.methodLink RX4 44 yJ7_fill_53178 ∈ lw_TB := lw_inT (List.mem_of_getElem? (i := 543) (by rfl)) (by rfl)
set_option maxRecDepth 20000 in
theorem wd_ml_RL_73 : Cond.methodLink RL 73 yX5_clear ∈ lw_TB := lw_inT (List.mem_of_getElem? (i := 544) (by rfl)) (by rfl)
set_option maxRecDepth 20000 in
theorem wd_im_yX5_clear : Cond.instanceMethod yX5_clear ∈ lw_TB := lw_inT (List.mem_of_getElem? (i := 545) (by rfl)) (by rfl)
set_option maxRecDepth 20000 in
theorem wd_se_yX5_clear : Cond.selects RX5 yX5_clear yX5_clear ∈ lw_TB := lw_inT (List.mem_of_getElem? (i := 546) (by rfl)) (by rfl)
set_option maxRecDepth 20000 in
theorem wd_co_yX5_clear : Cond.code yX5_clear cX5_clear 1 (some .int) ∈ lw_TB := lw_inT (List.mem_of_getElem? (i := 547) (by rfl)) (by rfl)
set_option maxRecDepth 20000 in
theorem wd_cl_RL_10 : Cond.classLink RL 10 RX6 ∈ lw_TB := lw_inT (List.mem_of_getElem? (i := 548) (by rfl)) (by rfl)
set_option maxRecDepth 20000 in
theorem wd_ist_RX6 : Cond.instantiable RX6 34 ∈ lw_TB := lw_inT (List.mem_of_getElem? (i := 549) (by rfl)) (by rfl)
set_option maxRecDepth 20000 in
theorem wd_ml_RL_12 : Cond.methodLink RL 12 yX6_init ∈ lw_TB := lw_inT (List.mem_of_getElem? (i := 550) (by rfl)) (by rfl)
set_option maxRecDepth 20000 in
theorem wd_im_yX6_init : Cond.instanceMethod yX6_init ∈ lw_TB := lw_inT (List.mem_of_getElem? (i := 551) (by rfl)) (by rfl)
set_option maxRecDepth 20000 in
theorem wd_co_yX6_init : Cond.code yX6_init cX6_init 1 none ∈ lw_TB := lw_inT (List.mem_of_getElem? (i := 552) (by rfl)) (by rfl)
set_option maxRecDepth 20000 in
theorem wd_ml_RX6_1 : Cond.methodLink RX6 1 objectInit ∈ lw_TB := lw_inT (List.mem_of_getElem? (i := 553) (by rfl)) (by rfl)
set_option maxRecDepth 20000 in
theorem wd_ml_RX6_104 : Cond.methodLink RX6 104 yX6_begin ∈ lw_TB := lw_inT (List.mem_of_getElem? (i := 554) (by rfl)) (by rfl)
set_option maxRecDepth 20000 in
theorem wd_im_yX6_begin : Cond.instanceMethod yX6_begin ∈ lw_TB := lw_inT (List.mem_of_getElem? (i := 556) (by rfl)) (by rfl)
set_option maxRecDepth 20000 in
theorem wd_co_yX6_begin : Cond.code yX6_begin cX6_begin 3 none ∈ lw_TB := lw_inT (List.mem_of_getElem? (i := 557) (by rfl)) (by rfl)
set_option maxRecDepth 20000 in
theorem wd_fl_RX6_181 : Cond.fieldLink RX6 181 "MutableCellsModel" "failures" "I" ∈ lw_TB := lw_inT (List.mem_of_getElem? (i := 558) (by rfl)) (by rfl)
set_option maxRecDepth 20000 in
theorem wd_fl_RX6_7 : Cond.fieldLink RX6 7 "MutableCellsModel" "cells" "[I" ∈ lw_TB := lw_inT (List.mem_of_getElem? (i := 559) (by rfl)) (by rfl)
set_option maxRecDepth 20000 in
theorem wd_fl_RX6_13 : Cond.fieldLink RX6 13 "MutableCellsModel" "isLazy" "[Z" ∈ lw_TB := lw_inT (List.mem_of_getElem? (i := 560) (by rfl)) (by rfl)
set_option maxRecDepth 20000 in
theorem wd_fl_RX6_17 : Cond.fieldLink RX6 17 "MutableCellsModel" "isRead" "[Z" ∈ lw_TB := lw_inT (List.mem_of_getElem? (i := 561) (by rfl)) (by rfl)
set_option maxRecDepth 20000 in
theorem wd_fl_RX6_20 : Cond.fieldLink RX6 20 "MutableCellsModel" "sizes" "[I" ∈ lw_TB := lw_inT (List.mem_of_getElem? (i := 562) (by rfl)) (by rfl)
set_option maxRecDepth 20000 in
theorem wd_fl_RX6_23 : Cond.fieldLink RX6 23 "MutableCellsModel" "items" "[I" ∈ lw_TB := lw_inT (List.mem_of_getElem? (i := 563) (by rfl)) (by rfl)
set_option maxRecDepth 20000 in
theorem wd_fl_RX6_26 : Cond.fieldLink RX6 26 "MutableCellsModel" "isFrozen" "[Z" ∈ lw_TB := lw_inT (List.mem_of_getElem? (i := 564) (by rfl)) (by rfl)
set_option maxRecDepth 20000 in
theorem wd_fl_RX6_29 : Cond.fieldLink RX6 29 "MutableCellsModel" "many" "[I" ∈ lw_TB := lw_inT (List.mem_of_getElem? (i := 565) (by rfl)) (by rfl)
set_option maxRecDepth 20000 in
theorem wd_fl_RX6_32 : Cond.fieldLink RX6 32 "MutableCellsModel" "kind" "[I" ∈ lw_TB := lw_inT (List.mem_of_getElem? (i := 566) (by rfl)) (by rfl)
set_option maxRecDepth 20000 in
theorem wd_fl_RX6_35 : Cond.fieldLink RX6 35 "MutableCellsModel" "actX" "[I" ∈ lw_TB := lw_inT (List.mem_of_getElem? (i := 567) (by rfl)) (by rfl)
set_option maxRecDepth 20000 in
theorem wd_fl_RX6_38 : Cond.fieldLink RX6 38 "MutableCellsModel" "actY" "[I" ∈ lw_TB := lw_inT (List.mem_of_getElem? (i := 568) (by rfl)) (by rfl)
set_option maxRecDepth 20000 in
theorem wd_fl_RX6_41 : Cond.fieldLink RX6 41 "MutableCellsModel" "actZ" "[I" ∈ lw_TB := lw_inT (List.mem_of_getElem? (i := 569) (by rfl)) (by rfl)
set_option maxRecDepth 20000 in
theorem wd_fl_RX6_44 : Cond.fieldLink RX6 44 "MutableCellsModel" "registers" "[I" ∈ lw_TB := lw_inT (List.mem_of_getElem? (i := 570) (by rfl)) (by rfl)
set_option maxRecDepth 20000 in
theorem wd_fl_RX6_47 : Cond.fieldLink RX6 47 "MutableCellsModel" "place" "[I" ∈ lw_TB := lw_inT (List.mem_of_getElem? (i := 571) (by rfl)) (by rfl)
set_option maxRecDepth 20000 in
theorem wd_fl_RX6_50 : Cond.fieldLink RX6 50 "MutableCellsModel" "failedBy" "[I" ∈ lw_TB := lw_inT (List.mem_of_getElem? (i := 572) (by rfl)) (by rfl)
set_option maxRecDepth 20000 in
theorem wd_fl_RX6_53 : Cond.fieldLink RX6 53 "MutableCellsModel" "hasFailed" "[Z" ∈ lw_TB := lw_inT (List.mem_of_getElem? (i := 573) (by rfl)) (by rfl)
set_option maxRecDepth 20000 in
theorem wd_fl_RX6_56 : Cond.fieldLink RX6 56 "MutableCellsModel" "turns" "[I" ∈ lw_TB := lw_inT (List.mem_of_getElem? (i := 574) (by rfl)) (by rfl)
set_option maxRecDepth 20000 in
theorem wd_fl_RX6_59 : Cond.fieldLink RX6 59 "MutableCellsModel" "anew" "[I" ∈ lw_TB := lw_inT (List.mem_of_getElem? (i := 575) (by rfl)) (by rfl)
set_option maxRecDepth 20000 in
theorem wd_fl_RX6_62 : Cond.fieldLink RX6 62 "MutableCellsModel" "tries" "[I" ∈ lw_TB := lw_inT (List.mem_of_getElem? (i := 576) (by rfl)) (by rfl)
set_option maxRecDepth 20000 in
theorem wd_fl_RX6_65 : Cond.fieldLink RX6 65 "MutableCellsModel" "tryPlace" "[I" ∈ lw_TB := lw_inT (List.mem_of_getElem? (i := 577) (by rfl)) (by rfl)
set_option maxRecDepth 20000 in
theorem wd_fl_RX6_68 : Cond.fieldLink RX6 68 "MutableCellsModel" "isAtom" "[Z" ∈ lw_TB := lw_inT (List.mem_of_getElem? (i := 578) (by rfl)) (by rfl)
set_option maxRecDepth 20000 in
theorem wd_fl_RX6_71 : Cond.fieldLink RX6 71 "MutableCellsModel" "atomTries" "[I" ∈ lw_TB := lw_inT (List.mem_of_getElem? (i := 579) (by rfl)) (by rfl)
set_option maxRecDepth 20000 in
theorem wd_fl_RX6_74 : Cond.fieldLink RX6 74 "MutableCellsModel" "atomPlace" "[I" ∈ lw_TB := lw_inT (List.mem_of_getElem? (i := 580) (by rfl)) (by rfl)
set_option maxRecDepth 20000 in
theorem wd_fl_RX6_77 : Cond.fieldLink RX6 77 "MutableCellsModel" "atomRegisters" "[I" ∈ lw_TB := lw_inT (List.mem_of_getElem? (i := 581) (by rfl)) (by rfl)
set_option maxRecDepth 20000 in
theorem wd_fl_RX6_80 : Cond.fieldLink RX6 80 "MutableCellsModel" "wasRead" "[Z" ∈ lw_TB := lw_inT (List.mem_of_getElem? (i := 582) (by rfl)) (by rfl)
set_option maxRecDepth 20000 in
theorem wd_fl_RX6_83 : Cond.fieldLink RX6 83 "MutableCellsModel" "firstRead" "[I" ∈ lw_TB := lw_inT (List.mem_of_getElem? (i := 583) (by rfl)) (by rfl)
set_option maxRecDepth 20000 in
theorem wd_fl_RX6_86 : Cond.fieldLink RX6 86 "MutableCellsModel" "wasPut" "[Z" ∈ lw_TB := lw_inT (List.mem_of_getElem? (i := 584) (by rfl)) (by rfl)
set_option maxRecDepth 20000 in
theorem wd_fl_RX6_89 : Cond.fieldLink RX6 89 "MutableCellsModel" "putThere" "[I" ∈ lw_TB := lw_inT (List.mem_of_getElem? (i := 585) (by rfl)) (by rfl)
set_option maxRecDepth 20000 in
theorem wd_fl_RX6_107 : Cond.fieldLink RX6 107 "MutableCellsModel" "writes" "I" ∈ lw_TB := lw_inT (List.mem_of_getElem? (i := 586) (by rfl)) (by rfl)
set_option maxRecDepth 20000 in
theorem wd_fl_RX6_92 : Cond.fieldLink RX6 92 "MutableCellsModel" "writeThread" "[I" ∈ lw_TB := lw_inT (List.mem_of_getElem? (i := 587) (by rfl)) (by rfl)
set_option maxRecDepth 20000 in
theorem wd_fl_RX6_95 : Cond.fieldLink RX6 95 "MutableCellsModel" "writeCell" "[I" ∈ lw_TB := lw_inT (List.mem_of_getElem? (i := 588) (by rfl)) (by rfl)
set_option maxRecDepth 20000 in
theorem wd_fl_RX6_98 : Cond.fieldLink RX6 98 "MutableCellsModel" "writeNumbe\x72" "[I" ∈ lw_TB := lw_inT (List.mem_of_getElem? (i := 589) (by rfl)) (by rfl)
set_option maxRecDepth 20000 in
theorem wd_fl_RX6_133 : Cond.fieldLink RX6 133 "MutableCellsModel" "failure" "I" ∈ lw_TB := lw_inT (List.mem_of_getElem? (i := 590) (by rfl)) (by rfl)
set_option maxRecDepth 20000 in
theorem wd_fl_RX6_101 : Cond.fieldLink RX6 101 "MutableCellsModel" "chain" "[I" ∈ lw_TB := lw_inT (List.mem_of_getElem? (i := 591) (by rfl)) (by rfl)
set_option maxRecDepth 20000 in
theorem wd_ml_RL_17 : Cond.methodLink RL 17 yX6_act ∈ lw_TB := lw_inT (List.mem_of_getElem? (i := 661) (by rfl)) (by rfl)
set_option maxRecDepth 20000 in
theorem wd_im_yX6_act : Cond.instanceMethod yX6_act ∈ lw_TB := lw_inT (List.mem_of_getElem? (i := 662) (by rfl)) (by rfl)
set_option maxRecDepth 20000 in
theorem wd_se_yX6_act : Cond.selects RX6 yX6_act yX6_act ∈ lw_TB := lw_inT (List.mem_of_getElem? (i := 663) (by rfl)) (by rfl)
set_option maxRecDepth 20000 in
theorem wd_co_yX6_act : Cond.code yX6_act cX6_act 7 (some .int) ∈ lw_TB := lw_inT (List.mem_of_getElem? (i := 664) (by rfl)) (by rfl)
set_option maxRecDepth 20000 in
theorem wd_ml_RX6_111 : Cond.methodLink RX6 111 yX6_within ∈ lw_TB := lw_inT (List.mem_of_getElem? (i := 665) (by rfl)) (by rfl)
set_option maxRecDepth 20000 in
theorem wd_sm_yX6_within : Cond.static yX6_within ∈ lw_TB := lw_inT (List.mem_of_getElem? (i := 666) (by rfl)) (by rfl)
set_option maxRecDepth 20000 in
theorem wd_co_yX6_within : Cond.code yX6_within cX6_within 3 (some .boolean) ∈ lw_TB := lw_inT (List.mem_of_getElem? (i := 667) (by rfl)) (by rfl)
set_option maxRecDepth 20000 in
theorem wd_ml_RX6_125 : Cond.methodLink RX6 125 yX6_fits ∈ lw_TB := lw_inT (List.mem_of_getElem? (i := 668) (by rfl)) (by rfl)
set_option maxRecDepth 20000 in
theorem wd_sm_yX6_fits : Cond.static yX6_fits ∈ lw_TB := lw_inT (List.mem_of_getElem? (i := 669) (by rfl)) (by rfl)
set_option maxRecDepth 20000 in
theorem wd_co_yX6_fits : Cond.code yX6_fits cX6_fits 4 (some .boolean) ∈ lw_TB := lw_inT (List.mem_of_getElem? (i := 670) (by rfl)) (by rfl)
set_option maxRecDepth 20000 in
theorem wd_ml_RX6_115 : Cond.methodLink RX6 115 yX6_isRegister ∈ lw_TB := lw_inT (List.mem_of_getElem? (i := 671) (by rfl)) (by rfl)
set_option maxRecDepth 20000 in
theorem wd_sm_yX6_isRegister : Cond.static yX6_isRegister ∈ lw_TB := lw_inT (List.mem_of_getElem? (i := 672) (by rfl)) (by rfl)
set_option maxRecDepth 20000 in
theorem wd_co_yX6_isRegister : Cond.code yX6_isRegister cX6_isRegister 1 (some .boolean) ∈ lw_TB := lw_inT (List.mem_of_getElem? (i := 673) (by rfl)) (by rfl)
set_option maxRecDepth 20000 in
theorem wd_ml_RX6_119 : Cond.methodLink RX6 119 yX6_isCell ∈ lw_TB := lw_inT (List.mem_of_getElem? (i := 674) (by rfl)) (by rfl)
set_option maxRecDepth 20000 in
theorem wd_sm_yX6_isCell : Cond.static yX6_isCell ∈ lw_TB := lw_inT (List.mem_of_getElem? (i := 675) (by rfl)) (by rfl)
set_option maxRecDepth 20000 in
theorem wd_co_yX6_isCell : Cond.code yX6_isCell cX6_isCell 1 (some .boolean) ∈ lw_TB := lw_inT (List.mem_of_getElem? (i := 676) (by rfl)) (by rfl)
set_option maxRecDepth 20000 in
theorem wd_ml_RX6_122 : Cond.methodLink RX6 122 yX6_isPlaceIn ∈ lw_TB := lw_inT (List.mem_of_getElem? (i := 677) (by rfl)) (by rfl)
set_option maxRecDepth 20000 in
theorem wd_sm_yX6_isPlaceIn : Cond.static yX6_isPlaceIn ∈ lw_TB := lw_inT (List.mem_of_getElem? (i := 678) (by rfl)) (by rfl)
set_option maxRecDepth 20000 in
theorem wd_co_yX6_isPlaceIn : Cond.code yX6_isPlaceIn cX6_isPlaceIn 1 (some .boolean) ∈ lw_TB := lw_inT (List.mem_of_getElem? (i := 679) (by rfl)) (by rfl)
set_option maxRecDepth 20000 in
theorem wd_ml_RL_22 : Cond.methodLink RL 22 yX6_turn ∈ lw_TB := lw_inT (List.mem_of_getElem? (i := 680) (by rfl)) (by rfl)
set_option maxRecDepth 20000 in
theorem wd_im_yX6_turn : Cond.instanceMethod yX6_turn ∈ lw_TB := lw_inT (List.mem_of_getElem? (i := 681) (by rfl)) (by rfl)
set_option maxRecDepth 20000 in
theorem wd_se_yX6_turn : Cond.selects RX6 yX6_turn yX6_turn ∈ lw_TB := lw_inT (List.mem_of_getElem? (i := 682) (by rfl)) (by rfl)
set_option maxRecDepth 20000 in
theorem wd_co_yX6_turn : Cond.code yX6_turn cX6_turn 2 (some .int) ∈ lw_TB := lw_inT (List.mem_of_getElem? (i := 683) (by rfl)) (by rfl)
set_option maxRecDepth 20000 in
theorem wd_ml_RX6_190 : Cond.methodLink RX6 190 yX6_stateOf ∈ lw_TB := lw_inT (List.mem_of_getElem? (i := 684) (by rfl)) (by rfl)
set_option maxRecDepth 20000 in
theorem wd_im_yX6_stateOf : Cond.instanceMethod yX6_stateOf ∈ lw_TB := lw_inT (List.mem_of_getElem? (i := 686) (by rfl)) (by rfl)
set_option maxRecDepth 20000 in
theorem wd_co_yX6_stateOf : Cond.code yX6_stateOf cX6_stateOf 2 (some .int) ∈ lw_TB := lw_inT (List.mem_of_getElem? (i := 687) (by rfl)) (by rfl)
set_option maxRecDepth 20000 in
theorem wd_ml_RX6_193 : Cond.methodLink RX6 193 yX6_doTurn ∈ lw_TB := lw_inT (List.mem_of_getElem? (i := 688) (by rfl)) (by rfl)
set_option maxRecDepth 20000 in
theorem wd_im_yX6_doTurn : Cond.instanceMethod yX6_doTurn ∈ lw_TB := lw_inT (List.mem_of_getElem? (i := 690) (by rfl)) (by rfl)
set_option maxRecDepth 20000 in
theorem wd_co_yX6_doTurn : Cond.code yX6_doTurn cX6_doTurn 3 none ∈ lw_TB := lw_inT (List.mem_of_getElem? (i := 691) (by rfl)) (by rfl)
set_option maxRecDepth 20000 in
theorem wd_ml_RX6_184 : Cond.methodLink RX6 184 yX6_doAct ∈ lw_TB := lw_inT (List.mem_of_getElem? (i := 692) (by rfl)) (by rfl)
set_option maxRecDepth 20000 in
theorem wd_im_yX6_doAct : Cond.instanceMethod yX6_doAct ∈ lw_TB := lw_inT (List.mem_of_getElem? (i := 694) (by rfl)) (by rfl)
set_option maxRecDepth 20000 in
theorem wd_co_yX6_doAct : Cond.code yX6_doAct cX6_doAct 9 (some .int) ∈ lw_TB := lw_inT (List.mem_of_getElem? (i := 695) (by rfl)) (by rfl)
set_option maxRecDepth 20000 in
theorem wd_ml_RX6_147 : Cond.methodLink RX6 147 yX6_give ∈ lw_TB := lw_inT (List.mem_of_getElem? (i := 696) (by rfl)) (by rfl)
set_option maxRecDepth 20000 in
theorem wd_im_yX6_give : Cond.instanceMethod yX6_give ∈ lw_TB := lw_inT (List.mem_of_getElem? (i := 698) (by rfl)) (by rfl)
set_option maxRecDepth 20000 in
theorem wd_co_yX6_give : Cond.code yX6_give cX6_give 4 none ∈ lw_TB := lw_inT (List.mem_of_getElem? (i := 699) (by rfl)) (by rfl)
set_option maxRecDepth 20000 in
theorem wd_ml_RX6_150 : Cond.methodLink RX6 150 yX6_read ∈ lw_TB := lw_inT (List.mem_of_getElem? (i := 700) (by rfl)) (by rfl)
set_option maxRecDepth 20000 in
theorem wd_im_yX6_read : Cond.instanceMethod yX6_read ∈ lw_TB := lw_inT (List.mem_of_getElem? (i := 702) (by rfl)) (by rfl)
set_option maxRecDepth 20000 in
theorem wd_co_yX6_read : Cond.code yX6_read cX6_read 4 (some .int) ∈ lw_TB := lw_inT (List.mem_of_getElem? (i := 703) (by rfl)) (by rfl)
set_option maxRecDepth 20000 in
theorem wd_ml_RX6_139 : Cond.methodLink RX6 139 yX6_readPlain ∈ lw_TB := lw_inT (List.mem_of_getElem? (i := 704) (by rfl)) (by rfl)
set_option maxRecDepth 20000 in
theorem wd_im_yX6_readPlain : Cond.instanceMethod yX6_readPlain ∈ lw_TB := lw_inT (List.mem_of_getElem? (i := 706) (by rfl)) (by rfl)
set_option maxRecDepth 20000 in
theorem wd_co_yX6_readPlain : Cond.code yX6_readPlain cX6_readPlain 8 (some .int) ∈ lw_TB := lw_inT (List.mem_of_getElem? (i := 707) (by rfl)) (by rfl)
set_option maxRecDepth 20000 in
theorem wd_ml_RX6_136 : Cond.methodLink RX6 136 yX6_write ∈ lw_TB := lw_inT (List.mem_of_getElem? (i := 708) (by rfl)) (by rfl)
set_option maxRecDepth 20000 in
theorem wd_im_yX6_write : Cond.instanceMethod yX6_write ∈ lw_TB := lw_inT (List.mem_of_getElem? (i := 710) (by rfl)) (by rfl)
set_option maxRecDepth 20000 in
theorem wd_co_yX6_write : Cond.code yX6_write cX6_write 4 none ∈ lw_TB := lw_inT (List.mem_of_getElem? (i := 711) (by rfl)) (by rfl)
set_option maxRecDepth 20000 in
theorem wd_ml_RX6_129 : Cond.methodLink RX6 129 yX6_note ∈ lw_TB := lw_inT (List.mem_of_getElem? (i := 712) (by rfl)) (by rfl)
set_option maxRecDepth 20000 in
theorem wd_im_yX6_note : Cond.instanceMethod yX6_note ∈ lw_TB := lw_inT (List.mem_of_getElem? (i := 714) (by rfl)) (by rfl)
set_option maxRecDepth 20000 in
theorem wd_co_yX6_note : Cond.code yX6_note cX6_note 4 none ∈ lw_TB := lw_inT (List.mem_of_getElem? (i := 715) (by rfl)) (by rfl)
set_option maxRecDepth 20000 in
theorem wd_ml_RX6_153 : Cond.methodLink RX6 153 yX6_r ∈ lw_TB := lw_inT (List.mem_of_getElem? (i := 716) (by rfl)) (by rfl)
set_option maxRecDepth 20000 in
theorem wd_im_yX6_r : Cond.instanceMethod yX6_r ∈ lw_TB := lw_inT (List.mem_of_getElem? (i := 718) (by rfl)) (by rfl)
set_option maxRecDepth 20000 in
theorem wd_co_yX6_r : Cond.code yX6_r cX6_r 3 (some .int) ∈ lw_TB := lw_inT (List.mem_of_getElem? (i := 719) (by rfl)) (by rfl)
set_option maxRecDepth 20000 in
theorem wd_ml_RX6_156 : Cond.methodLink RX6 156 yX6_lay ∈ lw_TB := lw_inT (List.mem_of_getElem? (i := 720) (by rfl)) (by rfl)
set_option maxRecDepth 20000 in
theorem wd_im_yX6_lay : Cond.instanceMethod yX6_lay ∈ lw_TB := lw_inT (List.mem_of_getElem? (i := 722) (by rfl)) (by rfl)
set_option maxRecDepth 20000 in
theorem wd_co_yX6_lay : Cond.code yX6_lay cX6_lay 4 none ∈ lw_TB := lw_inT (List.mem_of_getElem? (i := 723) (by rfl)) (by rfl)
set_option maxRecDepth 20000 in
theorem wd_ml_RX6_163 : Cond.methodLink RX6 163 yX6_compute ∈ lw_TB := lw_inT (List.mem_of_getElem? (i := 724) (by rfl)) (by rfl)
set_option maxRecDepth 20000 in
theorem wd_im_yX6_compute : Cond.instanceMethod yX6_compute ∈ lw_TB := lw_inT (List.mem_of_getElem? (i := 726) (by rfl)) (by rfl)
set_option maxRecDepth 20000 in
theorem wd_co_yX6_compute : Cond.code yX6_compute cX6_compute 6 none ∈ lw_TB := lw_inT (List.mem_of_getElem? (i := 727) (by rfl)) (by rfl)
set_option maxRecDepth 20000 in
theorem wd_ml_RX6_167 : Cond.methodLink RX6 167 yX6_swap ∈ lw_TB := lw_inT (List.mem_of_getElem? (i := 728) (by rfl)) (by rfl)
set_option maxRecDepth 20000 in
theorem wd_im_yX6_swap : Cond.instanceMethod yX6_swap ∈ lw_TB := lw_inT (List.mem_of_getElem? (i := 730) (by rfl)) (by rfl)
set_option maxRecDepth 20000 in
theorem wd_co_yX6_swap : Cond.code yX6_swap cX6_swap 7 none ∈ lw_TB := lw_inT (List.mem_of_getElem? (i := 731) (by rfl)) (by rfl)
set_option maxRecDepth 20000 in
theorem wd_ml_RX6_171 : Cond.methodLink RX6 171 yX6_beginAtom ∈ lw_TB := lw_inT (List.mem_of_getElem? (i := 732) (by rfl)) (by rfl)
set_option maxRecDepth 20000 in
theorem wd_im_yX6_beginAtom : Cond.instanceMethod yX6_beginAtom ∈ lw_TB := lw_inT (List.mem_of_getElem? (i := 734) (by rfl)) (by rfl)
set_option maxRecDepth 20000 in
theorem wd_co_yX6_beginAtom : Cond.code yX6_beginAtom cX6_beginAtom 3 none ∈ lw_TB := lw_inT (List.mem_of_getElem? (i := 735) (by rfl)) (by rfl)
set_option maxRecDepth 20000 in
theorem wd_ml_RX6_143 : Cond.methodLink RX6 143 yX6_clearAtom ∈ lw_TB := lw_inT (List.mem_of_getElem? (i := 736) (by rfl)) (by rfl)
set_option maxRecDepth 20000 in
theorem wd_im_yX6_clearAtom : Cond.instanceMethod yX6_clearAtom ∈ lw_TB := lw_inT (List.mem_of_getElem? (i := 738) (by rfl)) (by rfl)
set_option maxRecDepth 20000 in
theorem wd_co_yX6_clearAtom : Cond.code yX6_clearAtom cX6_clearAtom 3 none ∈ lw_TB := lw_inT (List.mem_of_getElem? (i := 739) (by rfl)) (by rfl)
set_option maxRecDepth 20000 in
theorem wd_ml_RX6_174 : Cond.methodLink RX6 174 yX6_endAtom ∈ lw_TB := lw_inT (List.mem_of_getElem? (i := 740) (by rfl)) (by rfl)
set_option maxRecDepth 20000 in
theorem wd_im_yX6_endAtom : Cond.instanceMethod yX6_endAtom ∈ lw_TB := lw_inT (List.mem_of_getElem? (i := 742) (by rfl)) (by rfl)
set_option maxRecDepth 20000 in
theorem wd_co_yX6_endAtom : Cond.code yX6_endAtom cX6_endAtom 5 (some .int) ∈ lw_TB := lw_inT (List.mem_of_getElem? (i := 743) (by rfl)) (by rfl)
set_option maxRecDepth 20000 in
theorem wd_ml_RX6_178 : Cond.methodLink RX6 178 yX6_rows ∈ lw_TB := lw_inT (List.mem_of_getElem? (i := 744) (by rfl)) (by rfl)
set_option maxRecDepth 20000 in
theorem wd_im_yX6_rows : Cond.instanceMethod yX6_rows ∈ lw_TB := lw_inT (List.mem_of_getElem? (i := 746) (by rfl)) (by rfl)
set_option maxRecDepth 20000 in
theorem wd_co_yX6_rows : Cond.code yX6_rows cX6_rows 8 none ∈ lw_TB := lw_inT (List.mem_of_getElem? (i := 747) (by rfl)) (by rfl)
set_option maxRecDepth 20000 in
theorem wd_ml_RX6_159 : Cond.methodLink RX6 159 yX6_checkItem ∈ lw_TB := lw_inT (List.mem_of_getElem? (i := 748) (by rfl)) (by rfl)
set_option maxRecDepth 20000 in
theorem wd_im_yX6_checkItem : Cond.instanceMethod yX6_checkItem ∈ lw_TB := lw_inT (List.mem_of_getElem? (i := 750) (by rfl)) (by rfl)
set_option maxRecDepth 20000 in
theorem wd_co_yX6_checkItem : Cond.code yX6_checkItem cX6_checkItem 3 none ∈ lw_TB := lw_inT (List.mem_of_getElem? (i := 751) (by rfl)) (by rfl)
set_option maxRecDepth 20000 in
theorem wd_ml_RX6_187 : Cond.methodLink RX6 187 yX6_fail ∈ lw_TB := lw_inT (List.mem_of_getElem? (i := 752) (by rfl)) (by rfl)
set_option maxRecDepth 20000 in
theorem wd_im_yX6_fail : Cond.instanceMethod yX6_fail ∈ lw_TB := lw_inT (List.mem_of_getElem? (i := 754) (by rfl)) (by rfl)
set_option maxRecDepth 20000 in
theorem wd_co_yX6_fail : Cond.code yX6_fail cX6_fail 2 none ∈ lw_TB := lw_inT (List.mem_of_getElem? (i := 755) (by rfl)) (by rfl)
set_option maxRecDepth 20000 in
theorem wd_ml_RL_27 : Cond.methodLink RL 27 yX6_play ∈ lw_TB := lw_inT (List.mem_of_getElem? (i := 756) (by rfl)) (by rfl)
set_option maxRecDepth 20000 in
theorem wd_im_yX6_play : Cond.instanceMethod yX6_play ∈ lw_TB := lw_inT (List.mem_of_getElem? (i := 757) (by rfl)) (by rfl)
set_option maxRecDepth 20000 in
theorem wd_se_yX6_play : Cond.selects RX6 yX6_play yX6_play ∈ lw_TB := lw_inT (List.mem_of_getElem? (i := 758) (by rfl)) (by rfl)
set_option maxRecDepth 20000 in
theorem wd_co_yX6_play : Cond.code yX6_play cX6_play 9 (some .int) ∈ lw_TB := lw_inT (List.mem_of_getElem? (i := 759) (by rfl)) (by rfl)
set_option maxRecDepth 20000 in
theorem wd_ct_RX6_196 : Cond.constant RX6 196 1103515245 ∈ lw_TB := lw_inT (List.mem_of_getElem? (i := 760) (by rfl)) (by rfl)
set_option maxRecDepth 20000 in
theorem wd_ml_RL_31 : Cond.methodLink RL 31 yX6_told ∈ lw_TB := lw_inT (List.mem_of_getElem? (i := 761) (by rfl)) (by rfl)
set_option maxRecDepth 20000 in
theorem wd_im_yX6_told : Cond.instanceMethod yX6_told ∈ lw_TB := lw_inT (List.mem_of_getElem? (i := 762) (by rfl)) (by rfl)
set_option maxRecDepth 20000 in
theorem wd_se_yX6_told : Cond.selects RX6 yX6_told yX6_told ∈ lw_TB := lw_inT (List.mem_of_getElem? (i := 763) (by rfl)) (by rfl)
set_option maxRecDepth 20000 in
theorem wd_co_yX6_told : Cond.code yX6_told cX6_told 3 (some .int) ∈ lw_TB := lw_inT (List.mem_of_getElem? (i := 764) (by rfl)) (by rfl)
set_option maxRecDepth 20000 in
theorem wd_ml_RL_35 : Cond.methodLink RL 35 yX6_register ∈ lw_TB := lw_inT (List.mem_of_getElem? (i := 765) (by rfl)) (by rfl)
set_option maxRecDepth 20000 in
theorem wd_im_yX6_register : Cond.instanceMethod yX6_register ∈ lw_TB := lw_inT (List.mem_of_getElem? (i := 766) (by rfl)) (by rfl)
set_option maxRecDepth 20000 in
theorem wd_se_yX6_register : Cond.selects RX6 yX6_register yX6_register ∈ lw_TB := lw_inT (List.mem_of_getElem? (i := 767) (by rfl)) (by rfl)
set_option maxRecDepth 20000 in
theorem wd_co_yX6_register : Cond.code yX6_register cX6_register 3 (some .int) ∈ lw_TB := lw_inT (List.mem_of_getElem? (i := 768) (by rfl)) (by rfl)
set_option maxRecDepth 20000 in
theorem wd_ml_RL_39 : Cond.methodLink RL 39 yX6_cell ∈ lw_TB := lw_inT (List.mem_of_getElem? (i := 769) (by rfl)) (by rfl)
set_option maxRecDepth 20000 in
theorem wd_im_yX6_cell : Cond.instanceMethod yX6_cell ∈ lw_TB := lw_inT (List.mem_of_getElem? (i := 770) (by rfl)) (by rfl)
set_option maxRecDepth 20000 in
theorem wd_se_yX6_cell : Cond.selects RX6 yX6_cell yX6_cell ∈ lw_TB := lw_inT (List.mem_of_getElem? (i := 771) (by rfl)) (by rfl)
set_option maxRecDepth 20000 in
theorem wd_co_yX6_cell : Cond.code yX6_cell cX6_cell 2 (some .int) ∈ lw_TB := lw_inT (List.mem_of_getElem? (i := 772) (by rfl)) (by rfl)
set_option maxRecDepth 20000 in
theorem wd_ml_RL_43 : Cond.methodLink RL 43 yX6_lazy ∈ lw_TB := lw_inT (List.mem_of_getElem? (i := 773) (by rfl)) (by rfl)
set_option maxRecDepth 20000 in
theorem wd_im_yX6_lazy : Cond.instanceMethod yX6_lazy ∈ lw_TB := lw_inT (List.mem_of_getElem? (i := 774) (by rfl)) (by rfl)
set_option maxRecDepth 20000 in
theorem wd_se_yX6_lazy : Cond.selects RX6 yX6_lazy yX6_lazy ∈ lw_TB := lw_inT (List.mem_of_getElem? (i := 775) (by rfl)) (by rfl)
set_option maxRecDepth 20000 in
theorem wd_co_yX6_lazy : Cond.code yX6_lazy cX6_lazy 2 (some .int) ∈ lw_TB := lw_inT (List.mem_of_getElem? (i := 776) (by rfl)) (by rfl)
set_option maxRecDepth 20000 in
theorem wd_ml_RL_47 : Cond.methodLink RL 47 yX6_size ∈ lw_TB := lw_inT (List.mem_of_getElem? (i := 777) (by rfl)) (by rfl)
set_option maxRecDepth 20000 in
theorem wd_im_yX6_size : Cond.instanceMethod yX6_size ∈ lw_TB := lw_inT (List.mem_of_getElem? (i := 778) (by rfl)) (by rfl)
set_option maxRecDepth 20000 in
theorem wd_se_yX6_size : Cond.selects RX6 yX6_size yX6_size ∈ lw_TB := lw_inT (List.mem_of_getElem? (i := 779) (by rfl)) (by rfl)
set_option maxRecDepth 20000 in
theorem wd_co_yX6_size : Cond.code yX6_size cX6_size 2 (some .int) ∈ lw_TB := lw_inT (List.mem_of_getElem? (i := 780) (by rfl)) (by rfl)
set_option maxRecDepth 20000 in
theorem wd_ml_RL_51 : Cond.methodLink RL 51 yX6_item ∈ lw_TB := lw_inT (List.mem_of_getElem? (i := 781) (by rfl)) (by rfl)
set_option maxRecDepth 20000 in
theorem wd_im_yX6_item : Cond.instanceMethod yX6_item ∈ lw_TB := lw_inT (List.mem_of_getElem? (i := 782) (by rfl)) (by rfl)
set_option maxRecDepth 20000 in
theorem wd_se_yX6_item : Cond.selects RX6 yX6_item yX6_item ∈ lw_TB := lw_inT (List.mem_of_getElem? (i := 783) (by rfl)) (by rfl)
set_option maxRecDepth 20000 in
theorem wd_co_yX6_item : Cond.code yX6_item cX6_item 3 (some .int) ∈ lw_TB := lw_inT (List.mem_of_getElem? (i := 784) (by rfl)) (by rfl)
set_option maxRecDepth 20000 in
theorem wd_ml_RL_55 : Cond.methodLink RL 55 yX6_frozen ∈ lw_TB := lw_inT (List.mem_of_getElem? (i := 785) (by rfl)) (by rfl)
set_option maxRecDepth 20000 in
theorem wd_im_yX6_frozen : Cond.instanceMethod yX6_frozen ∈ lw_TB := lw_inT (List.mem_of_getElem? (i := 786) (by rfl)) (by rfl)
set_option maxRecDepth 20000 in
theorem wd_se_yX6_frozen : Cond.selects RX6 yX6_frozen yX6_frozen ∈ lw_TB := lw_inT (List.mem_of_getElem? (i := 787) (by rfl)) (by rfl)
set_option maxRecDepth 20000 in
theorem wd_co_yX6_frozen : Cond.code yX6_frozen cX6_frozen 2 (some .int) ∈ lw_TB := lw_inT (List.mem_of_getElem? (i := 788) (by rfl)) (by rfl)
set_option maxRecDepth 20000 in
theorem wd_ml_RL_59 : Cond.methodLink RL 59 yX6_put ∈ lw_TB := lw_inT (List.mem_of_getElem? (i := 789) (by rfl)) (by rfl)
set_option maxRecDepth 20000 in
theorem wd_im_yX6_put : Cond.instanceMethod yX6_put ∈ lw_TB := lw_inT (List.mem_of_getElem? (i := 790) (by rfl)) (by rfl)
set_option maxRecDepth 20000 in
theorem wd_se_yX6_put : Cond.selects RX6 yX6_put yX6_put ∈ lw_TB := lw_inT (List.mem_of_getElem? (i := 791) (by rfl)) (by rfl)
set_option maxRecDepth 20000 in
theorem wd_co_yX6_put : Cond.code yX6_put cX6_put 4 (some .int) ∈ lw_TB := lw_inT (List.mem_of_getElem? (i := 792) (by rfl)) (by rfl)
set_option maxRecDepth 20000 in
theorem wd_ml_RL_64 : Cond.methodLink RL 64 yX6_writes ∈ lw_TB := lw_inT (List.mem_of_getElem? (i := 793) (by rfl)) (by rfl)
set_option maxRecDepth 20000 in
theorem wd_im_yX6_writes : Cond.instanceMethod yX6_writes ∈ lw_TB := lw_inT (List.mem_of_getElem? (i := 794) (by rfl)) (by rfl)
set_option maxRecDepth 20000 in
theorem wd_se_yX6_writes : Cond.selects RX6 yX6_writes yX6_writes ∈ lw_TB := lw_inT (List.mem_of_getElem? (i := 795) (by rfl)) (by rfl)
set_option maxRecDepth 20000 in
theorem wd_co_yX6_writes : Cond.code yX6_writes cX6_writes 1 (some .int) ∈ lw_TB := lw_inT (List.mem_of_getElem? (i := 796) (by rfl)) (by rfl)
set_option maxRecDepth 20000 in
theorem wd_ml_RL_68 : Cond.methodLink RL 68 yX6_write_ ∈ lw_TB := lw_inT (List.mem_of_getElem? (i := 797) (by rfl)) (by rfl)
set_option maxRecDepth 20000 in
theorem wd_im_yX6_write_ : Cond.instanceMethod yX6_write_ ∈ lw_TB := lw_inT (List.mem_of_getElem? (i := 798) (by rfl)) (by rfl)
set_option maxRecDepth 20000 in
theorem wd_se_yX6_write_ : Cond.selects RX6 yX6_write_ yX6_write_ ∈ lw_TB := lw_inT (List.mem_of_getElem? (i := 799) (by rfl)) (by rfl)
set_option maxRecDepth 20000 in
theorem wd_co_yX6_write_ : Cond.code yX6_write_ cX6_write_ 5 (some .int) ∈ lw_TB := lw_inT (List.mem_of_getElem? (i := 800) (by rfl)) (by rfl)
set_option maxRecDepth 20000 in
theorem wd_ml_RL_72 : Cond.methodLink RL 72 yX6_again ∈ lw_TB := lw_inT (List.mem_of_getElem? (i := 801) (by rfl)) (by rfl)
set_option maxRecDepth 20000 in
theorem wd_im_yX6_again : Cond.instanceMethod yX6_again ∈ lw_TB := lw_inT (List.mem_of_getElem? (i := 802) (by rfl)) (by rfl)
set_option maxRecDepth 20000 in
theorem wd_se_yX6_again : Cond.selects RX6 yX6_again yX6_again ∈ lw_TB := lw_inT (List.mem_of_getElem? (i := 803) (by rfl)) (by rfl)
set_option maxRecDepth 20000 in
theorem wd_co_yX6_again : Cond.code yX6_again cX6_again 2 (some .int) ∈ lw_TB := lw_inT (List.mem_of_getElem? (i := 804) (by rfl)) (by rfl)
set_option maxRecDepth 20000 in
theorem wd_ml_RL_76 : Cond.methodLink RL 76 yX6_clear ∈ lw_TB := lw_inT (List.mem_of_getElem? (i := 805) (by rfl)) (by rfl)
set_option maxRecDepth 20000 in
theorem wd_im_yX6_clear : Cond.instanceMethod yX6_clear ∈ lw_TB := lw_inT (List.mem_of_getElem? (i := 806) (by rfl)) (by rfl)
set_option maxRecDepth 20000 in
theorem wd_se_yX6_clear : Cond.selects RX6 yX6_clear yX6_clear ∈ lw_TB := lw_inT (List.mem_of_getElem? (i := 807) (by rfl)) (by rfl)
set_option maxRecDepth 20000 in
theorem wd_co_yX6_clear : Cond.code yX6_clear cX6_clear 3 (some .int) ∈ lw_TB := lw_inT (List.mem_of_getElem? (i := 808) (by rfl)) (by rfl)
set_option maxRecDepth 20000 in
theorem wd_ml_RX6_197 : Cond.methodLink RX6 197 yX6_again ∈ lw_TB := lw_inT (List.mem_of_getElem? (i := 809) (by rfl)) (by rfl)
set_option maxRecDepth 20000 in
theorem inX0 : ∀ w ∈ wsX00, w ∈ lw_TB := by
  intro w hw
  obtain ⟨k, hk, rfl⟩ := List.mem_map.mp hw
  have hk := List.mem_range.mp hk
  match k, hk with
  | 0, _ => exact lw_inT (List.mem_of_getElem? (i := 152) (by rfl)) (by rfl)
  | 1, _ => exact lw_inT (List.mem_of_getElem? (i := 154) (by rfl)) (by rfl)
  | 2, _ => exact lw_inT (List.mem_of_getElem? (i := 156) (by rfl)) (by rfl)
  | 3, _ => exact lw_inT (List.mem_of_getElem? (i := 158) (by rfl)) (by rfl)
  | 4, _ => exact lw_inT (List.mem_of_getElem? (i := 160) (by rfl)) (by rfl)
  | 5, _ => exact lw_inT (List.mem_of_getElem? (i := 162) (by rfl)) (by rfl)
  | 6, _ => exact lw_inT (List.mem_of_getElem? (i := 164) (by rfl)) (by rfl)
  | 7, _ => exact lw_inT (List.mem_of_getElem? (i := 166) (by rfl)) (by rfl)
  | k + 8, hk => exact absurd hk (by omega)
set_option maxRecDepth 20000 in
theorem inX1 : ∀ w ∈ wsX10, w ∈ lw_TB := by
  intro w hw
  obtain ⟨k, hk, rfl⟩ := List.mem_map.mp hw
  have hk := List.mem_range.mp hk
  match k, hk with
  | 0, _ => exact lw_inT (List.mem_of_getElem? (i := 98) (by rfl)) (by rfl)
  | 1, _ => exact lw_inT (List.mem_of_getElem? (i := 100) (by rfl)) (by rfl)
  | 2, _ => exact lw_inT (List.mem_of_getElem? (i := 102) (by rfl)) (by rfl)
  | 3, _ => exact lw_inT (List.mem_of_getElem? (i := 104) (by rfl)) (by rfl)
  | k + 4, hk => exact absurd hk (by omega)
set_option maxRecDepth 20000 in
theorem inX2 : ∀ w ∈ wsX20, w ∈ lw_TB := by
  intro w hw
  obtain ⟨k, hk, rfl⟩ := List.mem_map.mp hw
  have hk := List.mem_range.mp hk
  match k, hk with
  | 0, _ => exact lw_inT (List.mem_of_getElem? (i := 74) (by rfl)) (by rfl)
  | 1, _ => exact lw_inT (List.mem_of_getElem? (i := 76) (by rfl)) (by rfl)
  | 2, _ => exact lw_inT (List.mem_of_getElem? (i := 78) (by rfl)) (by rfl)
  | 3, _ => exact lw_inT (List.mem_of_getElem? (i := 80) (by rfl)) (by rfl)
  | 4, _ => exact lw_inT (List.mem_of_getElem? (i := 82) (by rfl)) (by rfl)
  | k + 5, hk => exact absurd hk (by omega)
set_option maxRecDepth 20000 in
theorem inX3 : ∀ w ∈ wsX30, w ∈ lw_TB := by
  intro w hw
  obtain ⟨k, hk, rfl⟩ := List.mem_map.mp hw
  have hk := List.mem_range.mp hk
  match k, hk with
  | 0, _ => exact lw_inT (List.mem_of_getElem? (i := 120) (by rfl)) (by rfl)
  | 1, _ => exact lw_inT (List.mem_of_getElem? (i := 122) (by rfl)) (by rfl)
  | 2, _ => exact lw_inT (List.mem_of_getElem? (i := 124) (by rfl)) (by rfl)
  | k + 3, hk => exact absurd hk (by omega)
set_option maxRecDepth 20000 in
theorem inX4 : ∀ w ∈ wsX40, w ∈ lw_TB := by
  intro w hw
  obtain ⟨k, hk, rfl⟩ := List.mem_map.mp hw
  have hk := List.mem_range.mp hk
  match k, hk with
  | 0, _ => exact lw_inT (List.mem_of_getElem? (i := 197) (by rfl)) (by rfl)
  | 1, _ => exact lw_inT (List.mem_of_getElem? (i := 199) (by rfl)) (by rfl)
  | 2, _ => exact lw_inT (List.mem_of_getElem? (i := 201) (by rfl)) (by rfl)
  | 3, _ => exact lw_inT (List.mem_of_getElem? (i := 203) (by rfl)) (by rfl)
  | 4, _ => exact lw_inT (List.mem_of_getElem? (i := 205) (by rfl)) (by rfl)
  | 5, _ => exact lw_inT (List.mem_of_getElem? (i := 207) (by rfl)) (by rfl)
  | 6, _ => exact lw_inT (List.mem_of_getElem? (i := 209) (by rfl)) (by rfl)
  | 7, _ => exact lw_inT (List.mem_of_getElem? (i := 211) (by rfl)) (by rfl)
  | 8, _ => exact lw_inT (List.mem_of_getElem? (i := 213) (by rfl)) (by rfl)
  | 9, _ => exact lw_inT (List.mem_of_getElem? (i := 215) (by rfl)) (by rfl)
  | 10, _ => exact lw_inT (List.mem_of_getElem? (i := 217) (by rfl)) (by rfl)
  | 11, _ => exact lw_inT (List.mem_of_getElem? (i := 219) (by rfl)) (by rfl)
  | 12, _ => exact lw_inT (List.mem_of_getElem? (i := 221) (by rfl)) (by rfl)
  | 13, _ => exact lw_inT (List.mem_of_getElem? (i := 223) (by rfl)) (by rfl)
  | 14, _ => exact lw_inT (List.mem_of_getElem? (i := 225) (by rfl)) (by rfl)
  | k + 15, hk => exact absurd hk (by omega)
set_option maxRecDepth 20000 in
theorem inX5 : ∀ w ∈ wsX50, w ∈ lw_TB := by
  intro w hw
  obtain ⟨k, hk, rfl⟩ := List.mem_map.mp hw
  have hk := List.mem_range.mp hk
  match k, hk with
  | 0, _ => exact lw_inT (List.mem_of_getElem? (i := 233) (by rfl)) (by rfl)
  | 1, _ => exact lw_inT (List.mem_of_getElem? (i := 235) (by rfl)) (by rfl)
  | 2, _ => exact lw_inT (List.mem_of_getElem? (i := 237) (by rfl)) (by rfl)
  | 3, _ => exact lw_inT (List.mem_of_getElem? (i := 239) (by rfl)) (by rfl)
  | 4, _ => exact lw_inT (List.mem_of_getElem? (i := 241) (by rfl)) (by rfl)
  | k + 5, hk => exact absurd hk (by omega)
set_option maxRecDepth 20000 in
theorem inX6 : ∀ w ∈ wsX60, w ∈ lw_TB := by
  intro w hw
  obtain ⟨k, hk, rfl⟩ := List.mem_map.mp hw
  have hk := List.mem_range.mp hk
  match k, hk with
  | 0, _ => exact lw_inT (List.mem_of_getElem? (i := 592) (by rfl)) (by rfl)
  | 1, _ => exact lw_inT (List.mem_of_getElem? (i := 594) (by rfl)) (by rfl)
  | 2, _ => exact lw_inT (List.mem_of_getElem? (i := 596) (by rfl)) (by rfl)
  | 3, _ => exact lw_inT (List.mem_of_getElem? (i := 598) (by rfl)) (by rfl)
  | 4, _ => exact lw_inT (List.mem_of_getElem? (i := 600) (by rfl)) (by rfl)
  | 5, _ => exact lw_inT (List.mem_of_getElem? (i := 602) (by rfl)) (by rfl)
  | 6, _ => exact lw_inT (List.mem_of_getElem? (i := 604) (by rfl)) (by rfl)
  | 7, _ => exact lw_inT (List.mem_of_getElem? (i := 606) (by rfl)) (by rfl)
  | 8, _ => exact lw_inT (List.mem_of_getElem? (i := 608) (by rfl)) (by rfl)
  | 9, _ => exact lw_inT (List.mem_of_getElem? (i := 610) (by rfl)) (by rfl)
  | 10, _ => exact lw_inT (List.mem_of_getElem? (i := 612) (by rfl)) (by rfl)
  | 11, _ => exact lw_inT (List.mem_of_getElem? (i := 614) (by rfl)) (by rfl)
  | 12, _ => exact lw_inT (List.mem_of_getElem? (i := 616) (by rfl)) (by rfl)
  | 13, _ => exact lw_inT (List.mem_of_getElem? (i := 618) (by rfl)) (by rfl)
  | 14, _ => exact lw_inT (List.mem_of_getElem? (i := 620) (by rfl)) (by rfl)
  | 15, _ => exact lw_inT (List.mem_of_getElem? (i := 622) (by rfl)) (by rfl)
  | 16, _ => exact lw_inT (List.mem_of_getElem? (i := 624) (by rfl)) (by rfl)
  | 17, _ => exact lw_inT (List.mem_of_getElem? (i := 626) (by rfl)) (by rfl)
  | 18, _ => exact lw_inT (List.mem_of_getElem? (i := 628) (by rfl)) (by rfl)
  | 19, _ => exact lw_inT (List.mem_of_getElem? (i := 630) (by rfl)) (by rfl)
  | 20, _ => exact lw_inT (List.mem_of_getElem? (i := 632) (by rfl)) (by rfl)
  | 21, _ => exact lw_inT (List.mem_of_getElem? (i := 634) (by rfl)) (by rfl)
  | 22, _ => exact lw_inT (List.mem_of_getElem? (i := 636) (by rfl)) (by rfl)
  | 23, _ => exact lw_inT (List.mem_of_getElem? (i := 638) (by rfl)) (by rfl)
  | 24, _ => exact lw_inT (List.mem_of_getElem? (i := 640) (by rfl)) (by rfl)
  | 25, _ => exact lw_inT (List.mem_of_getElem? (i := 642) (by rfl)) (by rfl)
  | 26, _ => exact lw_inT (List.mem_of_getElem? (i := 644) (by rfl)) (by rfl)
  | 27, _ => exact lw_inT (List.mem_of_getElem? (i := 646) (by rfl)) (by rfl)
  | 28, _ => exact lw_inT (List.mem_of_getElem? (i := 648) (by rfl)) (by rfl)
  | 29, _ => exact lw_inT (List.mem_of_getElem? (i := 650) (by rfl)) (by rfl)
  | 30, _ => exact lw_inT (List.mem_of_getElem? (i := 652) (by rfl)) (by rfl)
  | 31, _ => exact lw_inT (List.mem_of_getElem? (i := 654) (by rfl)) (by rfl)
  | 32, _ => exact lw_inT (List.mem_of_getElem? (i := 656) (by rfl)) (by rfl)
  | 33, _ => exact lw_inT (List.mem_of_getElem? (i := 658) (by rfl)) (by rfl)
  | k + 34, hk => exact absurd hk (by omega)
def lw_nest : List Cond := [Cond.methodLinkNest RX1 23 yX2_init RX5, Cond.fieldLinkNest RX1 37 "MutableCells$Log" "count" "I" RX5, Cond.fieldLinkNest RX5 125 "MutableCells$Log" "count" "I" RX5, Cond.fieldLinkNest RX5 121 "MutableCells$Cells" "log" "LMutableCells$Log;" RX5, Cond.methodLinkNest RX4 32 yX0_init RX5, Cond.fieldLinkNest RX4 53 "MutableCells$Atom" "open" "Z" RX5, Cond.fieldLinkNest RX5 78 "MutableCells$Atom" "open" "Z" RX5, Cond.fieldLinkNest RX4 101 "MutableCells$Atom" "behindBegin" "I" RX5, Cond.fieldLinkNest RX4 98 "MutableCells$Atom" "trysAhead" "I" RX5, Cond.fieldLinkNest RX5 251 "MutableCells$Atom" "trysAhead" "I" RX5, Cond.fieldLinkNest RX4 104 "MutableCells$Atom" "registers" "[I" RX5, Cond.fieldLinkNest RX5 233 "MutableCells$Strand" "numbe\x72" "I" RX5, Cond.fieldLinkNest RX5 163 "MutableCells$Strand" "kinds" "[I" RX5, Cond.fieldLinkNest RX5 167 "MutableCells$Strand" "xs" "[I" RX5, Cond.fieldLinkNest RX5 170 "MutableCells$Strand" "ys" "[I" RX5, Cond.fieldLinkNest RX5 173 "MutableCells$Strand" "zs" "[I" RX5, Cond.fieldLinkNest RX5 47 "MutableCells$Strand" "acts" "I" RX5, Cond.fieldLinkNest RX5 71 "MutableCells$Strand" "trys" "I" RX5, Cond.fieldLinkNest RX5 74 "MutableCells$Strand" "atom" "LMutableCells$Atom;" RX5, Cond.fieldLinkNest RX5 65 "MutableCells$Strand" "place" "I" RX5, Cond.fieldLinkNest RX5 153 "MutableCells$Strand" "next" "I" RX5, Cond.fieldLinkNest RX5 68 "MutableCells$Strand" "failure" "I" RX5, Cond.fieldLinkNest RX5 40 "MutableCells$Strand" "turns" "I" RX5, Cond.fieldLinkNest RX5 84 "MutableCells$Strand" "anews" "I" RX5, Cond.methodLinkNest RX1 41 yX5_isCell RX5, Cond.methodLinkNest RX0 28 yX5_isCell RX5, Cond.methodLinkNest RX4 69 yX5_isRegister RX5, Cond.methodLinkNest RX3 25 yX5_isRow RX5]
set_option maxRecDepth 20000 in
theorem lw_nest_in : ∀ w ∈ lw_nest, w ∈ lw_tbl := by
  intro w hw
  obtain ⟨k, hk⟩ := List.getElem?_of_mem hw
  match k, hk with
  | 0, hk => cases hk; exact List.mem_of_getElem? (i := 63) (by rfl)
  | 1, hk => cases hk; exact List.mem_of_getElem? (i := 71) (by rfl)
  | 2, hk => cases hk; exact List.mem_of_getElem? (i := 73) (by rfl)
  | 3, hk => cases hk; exact List.mem_of_getElem? (i := 97) (by rfl)
  | 4, hk => cases hk; exact List.mem_of_getElem? (i := 137) (by rfl)
  | 5, hk => cases hk; exact List.mem_of_getElem? (i := 141) (by rfl)
  | 6, hk => cases hk; exact List.mem_of_getElem? (i := 142) (by rfl)
  | 7, hk => cases hk; exact List.mem_of_getElem? (i := 143) (by rfl)
  | 8, hk => cases hk; exact List.mem_of_getElem? (i := 144) (by rfl)
  | 9, hk => cases hk; exact List.mem_of_getElem? (i := 145) (by rfl)
  | 10, hk => cases hk; exact List.mem_of_getElem? (i := 147) (by rfl)
  | 11, hk => cases hk; exact List.mem_of_getElem? (i := 170) (by rfl)
  | 12, hk => cases hk; exact List.mem_of_getElem? (i := 172) (by rfl)
  | 13, hk => cases hk; exact List.mem_of_getElem? (i := 174) (by rfl)
  | 14, hk => cases hk; exact List.mem_of_getElem? (i := 176) (by rfl)
  | 15, hk => cases hk; exact List.mem_of_getElem? (i := 178) (by rfl)
  | 16, hk => cases hk; exact List.mem_of_getElem? (i := 180) (by rfl)
  | 17, hk => cases hk; exact List.mem_of_getElem? (i := 184) (by rfl)
  | 18, hk => cases hk; exact List.mem_of_getElem? (i := 186) (by rfl)
  | 19, hk => cases hk; exact List.mem_of_getElem? (i := 188) (by rfl)
  | 20, hk => cases hk; exact List.mem_of_getElem? (i := 190) (by rfl)
  | 21, hk => cases hk; exact List.mem_of_getElem? (i := 192) (by rfl)
  | 22, hk => cases hk; exact List.mem_of_getElem? (i := 193) (by rfl)
  | 23, hk => cases hk; exact List.mem_of_getElem? (i := 196) (by rfl)
  | 24, hk => cases hk; exact List.mem_of_getElem? (i := 302) (by rfl)
  | 25, hk => cases hk; exact List.mem_of_getElem? (i := 307) (by rfl)
  | 26, hk => cases hk; exact List.mem_of_getElem? (i := 350) (by rfl)
  | 27, hk => cases hk; exact List.mem_of_getElem? (i := 376) (by rfl)
  | k + 28, hk => exact absurd hk (by simp [lw_nest])
theorem wd_nml_RX1_23 : Cond.methodLinkNest RX1 23 yX2_init RX5 ∈ lw_nest := List.mem_of_getElem? (i := 0) (by rfl)
theorem wd_nfl_RX1_37 : Cond.fieldLinkNest RX1 37 "MutableCells$Log" "count" "I" RX5 ∈ lw_nest := List.mem_of_getElem? (i := 1) (by rfl)
theorem wd_nfl_RX5_125 : Cond.fieldLinkNest RX5 125 "MutableCells$Log" "count" "I" RX5 ∈ lw_nest := List.mem_of_getElem? (i := 2) (by rfl)
theorem wd_nfl_RX5_121 : Cond.fieldLinkNest RX5 121 "MutableCells$Cells" "log" "LMutableCells$Log;" RX5 ∈ lw_nest := List.mem_of_getElem? (i := 3) (by rfl)
theorem wd_nml_RX4_32 : Cond.methodLinkNest RX4 32 yX0_init RX5 ∈ lw_nest := List.mem_of_getElem? (i := 4) (by rfl)
theorem wd_nfl_RX4_53 : Cond.fieldLinkNest RX4 53 "MutableCells$Atom" "open" "Z" RX5 ∈ lw_nest := List.mem_of_getElem? (i := 5) (by rfl)
theorem wd_nfl_RX5_78 : Cond.fieldLinkNest RX5 78 "MutableCells$Atom" "open" "Z" RX5 ∈ lw_nest := List.mem_of_getElem? (i := 6) (by rfl)
theorem wd_nfl_RX4_101 : Cond.fieldLinkNest RX4 101 "MutableCells$Atom" "behindBegin" "I" RX5 ∈ lw_nest := List.mem_of_getElem? (i := 7) (by rfl)
theorem wd_nfl_RX4_98 : Cond.fieldLinkNest RX4 98 "MutableCells$Atom" "trysAhead" "I" RX5 ∈ lw_nest := List.mem_of_getElem? (i := 8) (by rfl)
theorem wd_nfl_RX5_251 : Cond.fieldLinkNest RX5 251 "MutableCells$Atom" "trysAhead" "I" RX5 ∈ lw_nest := List.mem_of_getElem? (i := 9) (by rfl)
theorem wd_nfl_RX4_104 : Cond.fieldLinkNest RX4 104 "MutableCells$Atom" "registers" "[I" RX5 ∈ lw_nest := List.mem_of_getElem? (i := 10) (by rfl)
theorem wd_nfl_RX5_233 : Cond.fieldLinkNest RX5 233 "MutableCells$Strand" "numbe\x72" "I" RX5 ∈ lw_nest := List.mem_of_getElem? (i := 11) (by rfl)
theorem wd_nfl_RX5_163 : Cond.fieldLinkNest RX5 163 "MutableCells$Strand" "kinds" "[I" RX5 ∈ lw_nest := List.mem_of_getElem? (i := 12) (by rfl)
theorem wd_nfl_RX5_167 : Cond.fieldLinkNest RX5 167 "MutableCells$Strand" "xs" "[I" RX5 ∈ lw_nest := List.mem_of_getElem? (i := 13) (by rfl)
theorem wd_nfl_RX5_170 : Cond.fieldLinkNest RX5 170 "MutableCells$Strand" "ys" "[I" RX5 ∈ lw_nest := List.mem_of_getElem? (i := 14) (by rfl)
theorem wd_nfl_RX5_173 : Cond.fieldLinkNest RX5 173 "MutableCells$Strand" "zs" "[I" RX5 ∈ lw_nest := List.mem_of_getElem? (i := 15) (by rfl)
theorem wd_nfl_RX5_47 : Cond.fieldLinkNest RX5 47 "MutableCells$Strand" "acts" "I" RX5 ∈ lw_nest := List.mem_of_getElem? (i := 16) (by rfl)
theorem wd_nfl_RX5_71 : Cond.fieldLinkNest RX5 71 "MutableCells$Strand" "trys" "I" RX5 ∈ lw_nest := List.mem_of_getElem? (i := 17) (by rfl)
theorem wd_nfl_RX5_74 : Cond.fieldLinkNest RX5 74 "MutableCells$Strand" "atom" "LMutableCells$Atom;" RX5 ∈ lw_nest := List.mem_of_getElem? (i := 18) (by rfl)
theorem wd_nfl_RX5_65 : Cond.fieldLinkNest RX5 65 "MutableCells$Strand" "place" "I" RX5 ∈ lw_nest := List.mem_of_getElem? (i := 19) (by rfl)
theorem wd_nfl_RX5_153 : Cond.fieldLinkNest RX5 153 "MutableCells$Strand" "next" "I" RX5 ∈ lw_nest := List.mem_of_getElem? (i := 20) (by rfl)
theorem wd_nfl_RX5_68 : Cond.fieldLinkNest RX5 68 "MutableCells$Strand" "failure" "I" RX5 ∈ lw_nest := List.mem_of_getElem? (i := 21) (by rfl)
theorem wd_nfl_RX5_40 : Cond.fieldLinkNest RX5 40 "MutableCells$Strand" "turns" "I" RX5 ∈ lw_nest := List.mem_of_getElem? (i := 22) (by rfl)
theorem wd_nfl_RX5_84 : Cond.fieldLinkNest RX5 84 "MutableCells$Strand" "anews" "I" RX5 ∈ lw_nest := List.mem_of_getElem? (i := 23) (by rfl)
theorem wd_nml_RX1_41 : Cond.methodLinkNest RX1 41 yX5_isCell RX5 ∈ lw_nest := List.mem_of_getElem? (i := 24) (by rfl)
theorem wd_nml_RX0_28 : Cond.methodLinkNest RX0 28 yX5_isCell RX5 ∈ lw_nest := List.mem_of_getElem? (i := 25) (by rfl)
theorem wd_nml_RX4_69 : Cond.methodLinkNest RX4 69 yX5_isRegister RX5 ∈ lw_nest := List.mem_of_getElem? (i := 26) (by rfl)
theorem wd_nml_RX3_25 : Cond.methodLinkNest RX3 25 yX5_isRow RX5 ∈ lw_nest := List.mem_of_getElem? (i := 27) (by rfl)
