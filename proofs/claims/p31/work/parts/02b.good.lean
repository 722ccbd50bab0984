set_option maxRecDepth 20000 in
theorem ggX1_init_X1_clearStep : GoodIn wsX1_init wsX1_clearStep := goodIn_r _ [19, 20, 21, 22, 18, 23, 11, 24, 25, 26, 27, 28, 29, 30, 31, 32, 33, 34, 35, 36] (by decide +kernel) (by decide +kernel)
set_option maxRecDepth 20000 in
theorem gX1_init_X1_clearStep : GoodIn wsX1_init (wsV RX1 44 RX1 yX1_clearStep wsX1_clearStep) := goodIn_app (goodIn_of _ (by decide +kernel)) ggX1_init_X1_clearStep
set_option maxRecDepth 20000 in
theorem ggX1_cell_X2_read : GoodIn wsX1_cell wsX2_read := goodIn_r _ [4] (by decide +kernel) (by decide +kernel)
set_option maxRecDepth 20000 in
theorem gX1_cell_X2_read_n48 : GoodIn wsX1_cell (wsX2_read) := ggX1_cell_X2_read
set_option maxRecDepth 20000 in
theorem ggX1_putCell_X2_write : GoodIn wsX1_putCell wsX2_write := goodIn_r _ [4] (by decide +kernel) (by decide +kernel)
set_option maxRecDepth 20000 in
theorem gX1_putCell_X2_write_n52 : GoodIn wsX1_putCell (wsX2_write) := ggX1_putCell_X2_write
set_option maxRecDepth 20000 in
theorem ggX1_clearStep_X1_putCell : GoodIn wsX1_clearStep wsX1_putCell := goodIn_r _ [5, 6, 7, 8, 9, 10, 11, 12, 13, 14, 15, 16, 17, 18, 19] (by decide +kernel) (by decide +kernel)
set_option maxRecDepth 20000 in
theorem gX1_clearStep_X1_putCell : GoodIn wsX1_clearStep (wsV RX1 56 RX1 yX1_putCell wsX1_putCell) := goodIn_app (goodIn_of _ (by decide +kernel)) ggX1_clearStep_X1_putCell
set_option maxRecDepth 20000 in
theorem ggX1_moveSteps_X2_rest : GoodIn wsX1_moveSteps wsX2_rest := goodIn_r _ [10] (by decide +kernel) (by decide +kernel)
set_option maxRecDepth 20000 in
theorem gX1_moveSteps_X2_rest_n60 : GoodIn wsX1_moveSteps (wsX2_rest) := ggX1_moveSteps_X2_rest
set_option maxRecDepth 20000 in
theorem ggX1_moveSteps_X1_copyStep : GoodIn wsX1_moveSteps wsX1_copyStep := goodIn_r _ [15, 16, 9, 17, 18, 19, 20, 14, 21, 1, 22, 23, 24, 25, 26, 27, 28, 29, 30, 31, 32, 33] (by decide +kernel) (by decide +kernel)
set_option maxRecDepth 20000 in
theorem gX1_moveSteps_X1_copyStep : GoodIn wsX1_moveSteps (wsV RX1 70 RX1 yX1_copyStep wsX1_copyStep) := goodIn_app (goodIn_of _ (by decide +kernel)) ggX1_moveSteps_X1_copyStep
set_option maxRecDepth 20000 in
theorem ggX1_copyStep_X2_read : GoodIn wsX1_copyStep wsX2_read := goodIn_r _ [3] (by decide +kernel) (by decide +kernel)
set_option maxRecDepth 20000 in
theorem gX1_copyStep_X2_read_n48 : GoodIn wsX1_copyStep (wsX2_read) := ggX1_copyStep_X2_read
set_option maxRecDepth 20000 in
theorem ggX1_copyStep_X1_putCell : GoodIn wsX1_copyStep wsX1_putCell := goodIn_r _ [8, 9, 10, 2, 11, 12, 13, 14, 15, 16, 17, 18, 19, 20, 21] (by decide +kernel) (by decide +kernel)
set_option maxRecDepth 20000 in
theorem gX1_copyStep_X1_putCell : GoodIn wsX1_copyStep (wsV RX1 56 RX1 yX1_putCell wsX1_putCell) := goodIn_app (goodIn_of _ (by decide +kernel)) ggX1_copyStep_X1_putCell
set_option maxRecDepth 20000 in
theorem ggX1_stepsWithForce_X1_cell : GoodIn wsX1_stepsWithForce wsX1_cell := goodIn_r _ [6, 7, 8, 9, 10, 11, 12, 13, 14, 15, 16, 17, 18, 19, 20] (by decide +kernel) (by decide +kernel)
set_option maxRecDepth 20000 in
theorem gX1_stepsWithForce_X1_cell : GoodIn wsX1_stepsWithForce (wsV RX1 73 RX1 yX1_cell wsX1_cell) := goodIn_app (goodIn_of _ (by decide +kernel)) ggX1_stepsWithForce_X1_cell
set_option maxRecDepth 20000 in
theorem ggX1_forceAt_X1_roundTicks : GoodIn wsX1_forceAt wsX1_roundTicks := goodIn_r _ [6, 7, 1, 28, 29, 30, 31, 32, 33, 34, 35, 36, 37] (by decide +kernel) (by decide +kernel)
set_option maxRecDepth 20000 in
theorem gX1_forceAt_X1_roundTicks : GoodIn wsX1_forceAt (wsV RX1 76 RX1 yX1_roundTicks wsX1_roundTicks) := goodIn_app (goodIn_of _ (by decide +kernel)) ggX1_forceAt_X1_roundTicks
set_option maxRecDepth 20000 in
theorem ggX1_forceAt_X2_quotient : GoodIn wsX1_forceAt wsX2_quotient := goodIn_r _ [10] (by decide +kernel) (by decide +kernel)
set_option maxRecDepth 20000 in
theorem gX1_forceAt_X2_quotient_n92 : GoodIn wsX1_forceAt (wsX2_quotient) := ggX1_forceAt_X2_quotient
set_option maxRecDepth 20000 in
theorem ggX1_forceAt_X2_rest : GoodIn wsX1_forceAt wsX2_rest := goodIn_r _ [12] (by decide +kernel) (by decide +kernel)
set_option maxRecDepth 20000 in
theorem gX1_forceAt_X2_rest_n60 : GoodIn wsX1_forceAt (wsX2_rest) := ggX1_forceAt_X2_rest
set_option maxRecDepth 20000 in
theorem ggX1_forceAt_X1_cell : GoodIn wsX1_forceAt wsX1_cell := goodIn_r _ [16, 17, 18, 9, 19, 28, 29, 30, 31, 32, 33, 34, 35, 36, 37] (by decide +kernel) (by decide +kernel)
set_option maxRecDepth 20000 in
theorem gX1_forceAt_X1_cell : GoodIn wsX1_forceAt (wsV RX1 73 RX1 yX1_cell wsX1_cell) := goodIn_app (goodIn_of _ (by decide +kernel)) ggX1_forceAt_X1_cell
set_option maxRecDepth 20000 in
theorem ggX1_forceAt_X1_delay : GoodIn wsX1_forceAt wsX1_delay := goodIn_r _ [23, 24, 28, 29, 30, 31, 32, 33, 34, 35, 36, 37] (by decide +kernel) (by decide +kernel)
set_option maxRecDepth 20000 in
theorem gX1_forceAt_X1_delay : GoodIn wsX1_forceAt (wsV RX1 85 RX1 yX1_delay wsX1_delay) := goodIn_app (goodIn_of _ (by decide +kernel)) ggX1_forceAt_X1_delay
set_option maxRecDepth 20000 in
theorem ggX1_forceAt_X1_isStroke : GoodIn wsX1_forceAt wsX1_isStroke := goodIn_r _ [27, 8, 9, 10] (by decide +kernel) (by decide +kernel)
set_option maxRecDepth 20000 in
theorem gX1_forceAt_X1_isStroke : GoodIn wsX1_forceAt (va_wsS RX1 95 yX1_isStroke wsX1_isStroke) := goodIn_app (goodIn_of _ (by decide +kernel)) ggX1_forceAt_X1_isStroke
set_option maxRecDepth 20000 in
theorem ggX1_isStroke_X2_quotient : GoodIn wsX1_isStroke wsX2_quotient := goodIn_r _ [3] (by decide +kernel) (by decide +kernel)
set_option maxRecDepth 20000 in
theorem gX1_isStroke_X2_quotient_n92 : GoodIn wsX1_isStroke (wsX2_quotient) := ggX1_isStroke_X2_quotient
set_option maxRecDepth 20000 in
theorem ggX1_mixInto_X1_setting : GoodIn wsX1_mixInto wsX1_setting := goodIn_r _ [6, 1, 7, 8, 9, 10, 11, 12, 13, 25, 26, 27, 28, 29, 30, 31, 32, 33, 34] (by decide +kernel) (by decide +kernel)
set_option maxRecDepth 20000 in
theorem gX1_mixInto_X1_setting : GoodIn wsX1_mixInto (wsV RX1 103 RX1 yX1_setting wsX1_setting) := goodIn_app (goodIn_of _ (by decide +kernel)) ggX1_mixInto_X1_setting
set_option maxRecDepth 20000 in
theorem ggX1_mixInto_X2_mix : GoodIn wsX1_mixInto wsX2_mix := goodIn_r _ [16, 17] (by decide +kernel) (by decide +kernel)
set_option maxRecDepth 20000 in
theorem gX1_mixInto_X2_mix_n106 : GoodIn wsX1_mixInto (wsX2_mix) := ggX1_mixInto_X2_mix
set_option maxRecDepth 20000 in
theorem ggX1_mixInto_X1_cell : GoodIn wsX1_mixInto wsX1_cell := goodIn_r _ [21, 22, 23, 15, 24, 25, 26, 27, 28, 29, 30, 31, 32, 33, 34] (by decide +kernel) (by decide +kernel)
set_option maxRecDepth 20000 in
theorem gX1_mixInto_X1_cell : GoodIn wsX1_mixInto (wsV RX1 73 RX1 yX1_cell wsX1_cell) := goodIn_app (goodIn_of _ (by decide +kernel)) ggX1_mixInto_X1_cell
set_option maxRecDepth 20000 in
theorem ggX2_addTrack_X2_isWithin : GoodIn wsX2_addTrack wsX2_isWithin := goodIn_r _ [11] (by decide +kernel) (by decide +kernel)
set_option maxRecDepth 20000 in
theorem gX2_addTrack_X2_isWithin : GoodIn wsX2_addTrack (va_wsS RX2 31 yX2_isWithin wsX2_isWithin) := goodIn_app (goodIn_of _ (by decide +kernel)) ggX2_addTrack_X2_isWithin
set_option maxRecDepth 20000 in
theorem ggX2_addTrack_X2_checkArgument : GoodIn wsX2_addTrack wsX2_checkArgument := goodIn_ca (goodIn_r _ [14, 15, 16] (by decide +kernel) (by decide +kernel)) (goodIn_sub (fun _ h => List.mem_cons_of_mem _ (List.mem_append_right _ h)) (by decide +kernel))
set_option maxRecDepth 20000 in
theorem gX2_addTrack_X2_checkArgument : GoodIn wsX2_addTrack (va_wsS RX2 35 yX2_checkArgument wsX2_checkArgument) := goodIn_app (goodIn_of _ (by decide +kernel)) ggX2_addTrack_X2_checkArgument
set_option maxRecDepth 20000 in
theorem ggX2_addTrack_X1_init : GoodIn wsX2_addTrack wsX1_init := goodIn_r _ [18, 19, 20, 21, 22, 23, 24, 25, 26, 27, 28, 29, 30, 31, 32, 33, 34, 35, 7, 36, 37, 38, 39, 40, 41, 10, 42, 48, 49, 50, 51, 52, 53, 54, 55, 56, 57] (by decide +kernel) (by decide +kernel)
set_option maxRecDepth 20000 in
theorem gX2_addTrack_X1_init_n46 : GoodIn wsX2_addTrack (wsX1_init) := ggX2_addTrack_X1_init
set_option maxRecDepth 20000 in
theorem ggX2_set_X2_trackWithStep : GoodIn wsX2_set wsX2_trackWithStep := goodIn_ca (goodIn_r _ [5, 6, 7, 8, 4, 9, 10, 11, 12, 13, 14, 15, 16, 17, 18, 19, 20, 21, 22, 40, 41, 42, 43, 44, 45, 46, 47, 48, 49, 50, 51, 52, 53, 54] (by decide +kernel) (by decide +kernel)) (goodIn_sub (fun _ h => List.mem_cons_of_mem _ (List.mem_append_left _ (List.mem_append_right _ h))) (by decide +kernel))
set_option maxRecDepth 20000 in
theorem gX2_set_X2_trackWithStep : GoodIn wsX2_set (wsV RX2 49 RX2 yX2_trackWithStep wsX2_trackWithStep) := goodIn_app (goodIn_of _ (by decide +kernel)) ggX2_set_X2_trackWithStep
set_option maxRecDepth 20000 in
theorem ggX2_set_X2_isWithin : GoodIn wsX2_set wsX2_isWithin := goodIn_r _ [19] (by decide +kernel) (by decide +kernel)
set_option maxRecDepth 20000 in
theorem gX2_set_X2_isWithin : GoodIn wsX2_set (va_wsS RX2 31 yX2_isWithin wsX2_isWithin) := goodIn_app (goodIn_of _ (by decide +kernel)) ggX2_set_X2_isWithin
set_option maxRecDepth 20000 in
theorem ggX2_set_X2_checkArgument : GoodIn wsX2_set wsX2_checkArgument := goodIn_ca (goodIn_r _ [25, 26, 27] (by decide +kernel) (by decide +kernel)) (goodIn_sub (fun _ h => List.mem_cons_of_mem _ (List.mem_append_right _ h)) (by decide +kernel))
set_option maxRecDepth 20000 in
theorem gX2_set_X2_checkArgument : GoodIn wsX2_set (va_wsS RX2 35 yX2_checkArgument wsX2_checkArgument) := goodIn_app (goodIn_of _ (by decide +kernel)) ggX2_set_X2_checkArgument
set_option maxRecDepth 20000 in
theorem ggX2_set_X1_cell : GoodIn wsX2_set wsX1_cell := goodIn_r _ [31, 32, 33, 4, 34, 40, 41, 42, 43, 44, 45, 46, 47, 48, 49] (by decide +kernel) (by decide +kernel)
set_option maxRecDepth 20000 in
theorem gX2_set_X1_cell_n53 : GoodIn wsX2_set (wsX1_cell) := ggX2_set_X1_cell
set_option maxRecDepth 20000 in
theorem ggX2_set_X1_putCell : GoodIn wsX2_set wsX1_putCell := goodIn_r _ [37, 32, 38, 4, 39, 40, 41, 42, 43, 44, 45, 46, 47, 48, 49] (by decide +kernel) (by decide +kernel)
set_option maxRecDepth 20000 in
theorem gX2_set_X1_putCell_n57 : GoodIn wsX2_set (wsX1_putCell) := ggX2_set_X1_putCell
set_option maxRecDepth 20000 in
theorem ggX2_setTurn_X2_trackWithStep : GoodIn wsX2_setTurn wsX2_trackWithStep := goodIn_ca (goodIn_r _ [5, 6, 7, 8, 4, 9, 10, 11, 12, 13, 14, 15, 16, 17, 18, 19, 20, 21, 22, 40, 41, 42, 43, 44, 45, 46, 47, 48, 49, 50, 51, 52, 53, 54] (by decide +kernel) (by decide +kernel)) (goodIn_sub (fun _ h => List.mem_cons_of_mem _ (List.mem_append_left _ (List.mem_append_right _ h))) (by decide +kernel))
set_option maxRecDepth 20000 in
theorem gX2_setTurn_X2_trackWithStep : GoodIn wsX2_setTurn (wsV RX2 49 RX2 yX2_trackWithStep wsX2_trackWithStep) := goodIn_app (goodIn_of _ (by decide +kernel)) ggX2_setTurn_X2_trackWithStep
set_option maxRecDepth 20000 in
theorem ggX2_setTurn_X2_isWithin : GoodIn wsX2_setTurn wsX2_isWithin := goodIn_r _ [19] (by decide +kernel) (by decide +kernel)
set_option maxRecDepth 20000 in
theorem gX2_setTurn_X2_isWithin : GoodIn wsX2_setTurn (va_wsS RX2 31 yX2_isWithin wsX2_isWithin) := goodIn_app (goodIn_of _ (by decide +kernel)) ggX2_setTurn_X2_isWithin
set_option maxRecDepth 20000 in
theorem ggX2_setTurn_X2_checkArgument : GoodIn wsX2_setTurn wsX2_checkArgument := goodIn_ca (goodIn_r _ [25, 26, 27] (by decide +kernel) (by decide +kernel)) (goodIn_sub (fun _ h => List.mem_cons_of_mem _ (List.mem_append_right _ h)) (by decide +kernel))
set_option maxRecDepth 20000 in
theorem gX2_setTurn_X2_checkArgument : GoodIn wsX2_setTurn (va_wsS RX2 35 yX2_checkArgument wsX2_checkArgument) := goodIn_app (goodIn_of _ (by decide +kernel)) ggX2_setTurn_X2_checkArgument
set_option maxRecDepth 20000 in
theorem ggX2_setTurn_X1_cell : GoodIn wsX2_setTurn wsX1_cell := goodIn_r _ [31, 32, 33, 4, 34, 40, 41, 42, 43, 44, 45, 46, 47, 48, 49] (by decide +kernel) (by decide +kernel)
set_option maxRecDepth 20000 in
theorem gX2_setTurn_X1_cell_n53 : GoodIn wsX2_setTurn (wsX1_cell) := ggX2_setTurn_X1_cell
set_option maxRecDepth 20000 in
theorem ggX2_setTurn_X1_putCell : GoodIn wsX2_setTurn wsX1_putCell := goodIn_r _ [37, 32, 38, 4, 39, 40, 41, 42, 43, 44, 45, 46, 47, 48, 49] (by decide +kernel) (by decide +kernel)
set_option maxRecDepth 20000 in
theorem gX2_setTurn_X1_putCell_n57 : GoodIn wsX2_setTurn (wsX1_putCell) := ggX2_setTurn_X1_putCell
set_option maxRecDepth 20000 in
theorem ggX2_track_X2_existingTrack : GoodIn wsX2_track wsX2_existingTrack := goodIn_ca (goodIn_r _ [5, 6, 7, 8, 9, 10, 4, 11, 12, 31, 32, 33, 34, 35] (by decide +kernel) (by decide +kernel)) (goodIn_sub (fun _ h => List.mem_cons_of_mem _ (List.mem_append_right _ h)) (by decide +kernel))
set_option maxRecDepth 20000 in
theorem gX2_track_X2_existingTrack : GoodIn wsX2_track (wsV RX2 68 RX2 yX2_existingTrack wsX2_existingTrack) := goodIn_app (goodIn_of _ (by decide +kernel)) ggX2_track_X2_existingTrack
set_option maxRecDepth 20000 in
theorem ggX2_track_X2_isWithin : GoodIn wsX2_track wsX2_isWithin := goodIn_r _ [15] (by decide +kernel) (by decide +kernel)
set_option maxRecDepth 20000 in
theorem gX2_track_X2_isWithin : GoodIn wsX2_track (va_wsS RX2 31 yX2_isWithin wsX2_isWithin) := goodIn_app (goodIn_of _ (by decide +kernel)) ggX2_track_X2_isWithin
set_option maxRecDepth 20000 in
theorem ggX2_track_X2_checkIndex : GoodIn wsX2_track wsX2_checkIndex := goodIn_ca (goodIn_r _ [18, 6, 7] (by decide +kernel) (by decide +kernel)) (goodIn_sub (fun _ h => List.mem_cons_of_mem _ (List.mem_append_right _ h)) (by decide +kernel))
set_option maxRecDepth 20000 in
theorem gX2_track_X2_checkIndex : GoodIn wsX2_track (va_wsS RX2 61 yX2_checkIndex wsX2_checkIndex) := goodIn_app (goodIn_of _ (by decide +kernel)) ggX2_track_X2_checkIndex
set_option maxRecDepth 20000 in
theorem ggX2_track_X1_setting : GoodIn wsX2_track wsX1_setting := goodIn_r _ [22, 23, 24, 25, 26, 27, 28, 29, 30, 36, 37, 38, 39, 40, 41, 42, 43, 44, 45] (by decide +kernel) (by decide +kernel)
set_option maxRecDepth 20000 in
theorem gX2_track_X1_setting_n72 : GoodIn wsX2_track (wsX1_setting) := ggX2_track_X1_setting
set_option maxRecDepth 20000 in
theorem ggX2_tune_X2_existingTrack : GoodIn wsX2_tune wsX2_existingTrack := goodIn_ca (goodIn_r _ [5, 6, 7, 8, 9, 10, 4, 11, 12, 31, 32, 33, 34, 35] (by decide +kernel) (by decide +kernel)) (goodIn_sub (fun _ h => List.mem_cons_of_mem _ (List.mem_append_left _ (List.mem_append_right _ h))) (by decide +kernel))
set_option maxRecDepth 20000 in
theorem gX2_tune_X2_existingTrack : GoodIn wsX2_tune (wsV RX2 68 RX2 yX2_existingTrack wsX2_existingTrack) := goodIn_app (goodIn_of _ (by decide +kernel)) ggX2_tune_X2_existingTrack
set_option maxRecDepth 20000 in
theorem ggX2_tune_X2_isWithin : GoodIn wsX2_tune wsX2_isWithin := goodIn_r _ [15] (by decide +kernel) (by decide +kernel)
set_option maxRecDepth 20000 in
theorem gX2_tune_X2_isWithin : GoodIn wsX2_tune (va_wsS RX2 31 yX2_isWithin wsX2_isWithin) := goodIn_app (goodIn_of _ (by decide +kernel)) ggX2_tune_X2_isWithin
set_option maxRecDepth 20000 in
theorem ggX2_tune_X2_checkArgument : GoodIn wsX2_tune wsX2_checkArgument := goodIn_ca (goodIn_r _ [18, 19, 20] (by decide +kernel) (by decide +kernel)) (goodIn_sub (fun _ h => List.mem_cons_of_mem _ (List.mem_append_right _ h)) (by decide +kernel))
set_option maxRecDepth 20000 in
theorem gX2_tune_X2_checkArgument : GoodIn wsX2_tune (va_wsS RX2 35 yX2_checkArgument wsX2_checkArgument) := goodIn_app (goodIn_of _ (by decide +kernel)) ggX2_tune_X2_checkArgument
set_option maxRecDepth 20000 in
theorem ggX2_turn_X2_existingTrack : GoodIn wsX2_turn wsX2_existingTrack := goodIn_ca (goodIn_r _ [5, 6, 7, 8, 9, 10, 4, 11, 12, 34, 35, 36, 37, 38] (by decide +kernel) (by decide +kernel)) (goodIn_sub (fun _ h => List.mem_cons_of_mem _ (List.mem_append_right _ h)) (by decide +kernel))
set_option maxRecDepth 20000 in
theorem gX2_turn_X2_existingTrack : GoodIn wsX2_turn (wsV RX2 68 RX2 yX2_existingTrack wsX2_existingTrack) := goodIn_app (goodIn_of _ (by decide +kernel)) ggX2_turn_X2_existingTrack
set_option maxRecDepth 20000 in
theorem ggX2_turn_X2_isWithin : GoodIn wsX2_turn wsX2_isWithin := goodIn_r _ [15] (by decide +kernel) (by decide +kernel)
set_option maxRecDepth 20000 in
theorem gX2_turn_X2_isWithin : GoodIn wsX2_turn (va_wsS RX2 31 yX2_isWithin wsX2_isWithin) := goodIn_app (goodIn_of _ (by decide +kernel)) ggX2_turn_X2_isWithin
set_option maxRecDepth 20000 in
theorem ggX2_turn_X2_checkIndex : GoodIn wsX2_turn wsX2_checkIndex := goodIn_ca (goodIn_r _ [18, 6, 7] (by decide +kernel) (by decide +kernel)) (goodIn_sub (fun _ h => List.mem_cons_of_mem _ (List.mem_append_right _ h)) (by decide +kernel))
set_option maxRecDepth 20000 in
theorem gX2_turn_X2_checkIndex : GoodIn wsX2_turn (va_wsS RX2 61 yX2_checkIndex wsX2_checkIndex) := goodIn_app (goodIn_of _ (by decide +kernel)) ggX2_turn_X2_checkIndex
set_option maxRecDepth 20000 in
theorem ggX2_turn_X1_setting : GoodIn wsX2_turn wsX1_setting := goodIn_r _ [22, 23, 24, 25, 26, 27, 28, 29, 30, 39, 40, 41, 42, 43, 44, 45, 46, 47, 48] (by decide +kernel) (by decide +kernel)
set_option maxRecDepth 20000 in
theorem gX2_turn_X1_setting_n72 : GoodIn wsX2_turn (wsX1_setting) := ggX2_turn_X1_setting
set_option maxRecDepth 20000 in
theorem ggX2_turn_X1_switchTo : GoodIn wsX2_turn wsX1_switchTo := goodIn_r _ [33, 28, 29, 30, 39, 40, 41, 42, 43, 44, 45, 46, 47, 48] (by decide +kernel) (by decide +kernel)
set_option maxRecDepth 20000 in
theorem gX2_turn_X1_switchTo_n87 : GoodIn wsX2_turn (wsX1_switchTo) := ggX2_turn_X1_switchTo
set_option maxRecDepth 20000 in
theorem ggX2_rotate_X2_existingTrack : GoodIn wsX2_rotate wsX2_existingTrack := goodIn_ca (goodIn_r _ [5, 6, 7, 8, 9, 10, 4, 11, 12, 53, 54, 55, 56, 57] (by decide +kernel) (by decide +kernel)) (goodIn_sub (fun _ h => List.mem_cons_of_mem _ (List.mem_append_left _ (List.mem_append_right _ h))) (by decide +kernel))
set_option maxRecDepth 20000 in
theorem gX2_rotate_X2_existingTrack : GoodIn wsX2_rotate (wsV RX2 68 RX2 yX2_existingTrack wsX2_existingTrack) := goodIn_app (goodIn_of _ (by decide +kernel)) ggX2_rotate_X2_existingTrack
set_option maxRecDepth 20000 in
theorem ggX2_rotate_X2_isWithin : GoodIn wsX2_rotate wsX2_isWithin := goodIn_r _ [15] (by decide +kernel) (by decide +kernel)
set_option maxRecDepth 20000 in
theorem gX2_rotate_X2_isWithin : GoodIn wsX2_rotate (va_wsS RX2 31 yX2_isWithin wsX2_isWithin) := goodIn_app (goodIn_of _ (by decide +kernel)) ggX2_rotate_X2_isWithin
set_option maxRecDepth 20000 in
theorem ggX2_rotate_X2_checkArgument : GoodIn wsX2_rotate wsX2_checkArgument := goodIn_ca (goodIn_r _ [18, 19, 20] (by decide +kernel) (by decide +kernel)) (goodIn_sub (fun _ h => List.mem_cons_of_mem _ (List.mem_append_right _ h)) (by decide +kernel))
set_option maxRecDepth 20000 in
theorem gX2_rotate_X2_checkArgument : GoodIn wsX2_rotate (va_wsS RX2 35 yX2_checkArgument wsX2_checkArgument) := goodIn_app (goodIn_of _ (by decide +kernel)) ggX2_rotate_X2_checkArgument
set_option maxRecDepth 20000 in
theorem ggX2_rotate_X1_moveSteps : GoodIn wsX2_rotate wsX1_moveSteps := goodIn_r _ [24, 25, 26, 27, 28, 29, 30, 31, 32, 4, 33, 34, 35, 36, 22, 37, 38, 39, 40, 41, 42, 43, 44, 45, 58, 59, 60, 61, 62, 63, 64, 65, 66, 67] (by decide +kernel) (by decide +kernel)
set_option maxRecDepth 20000 in
theorem gX2_rotate_X1_moveSteps_n97 : GoodIn wsX2_rotate (wsX1_moveSteps) := ggX2_rotate_X1_moveSteps
set_option maxRecDepth 20000 in
theorem ggX2_rotate_X1_stepsWithForce : GoodIn wsX2_rotate wsX1_stepsWithForce := goodIn_r _ [48, 31, 49, 50, 51, 22, 52, 25, 38, 4, 39, 58, 59, 60, 61, 62, 63, 64, 65, 66, 67] (by decide +kernel) (by decide +kernel)
set_option maxRecDepth 20000 in
theorem gX2_rotate_X1_stepsWithForce_n101 : GoodIn wsX2_rotate (wsX1_stepsWithForce) := ggX2_rotate_X1_stepsWithForce
set_option maxRecDepth 20000 in
theorem ggX2_addSection_X2_isWithin : GoodIn wsX2_addSection wsX2_isWithin := goodIn_r _ [11] (by decide +kernel) (by decide +kernel)
set_option maxRecDepth 20000 in
theorem gX2_addSection_X2_isWithin : GoodIn wsX2_addSection (va_wsS RX2 31 yX2_isWithin wsX2_isWithin) := goodIn_app (goodIn_of _ (by decide +kernel)) ggX2_addSection_X2_isWithin
set_option maxRecDepth 20000 in
theorem ggX2_addSection_X2_checkArgument : GoodIn wsX2_addSection wsX2_checkArgument := goodIn_ca (goodIn_r _ [14, 15, 16] (by decide +kernel) (by decide +kernel)) (goodIn_sub (fun _ h => List.mem_cons_of_mem _ (List.mem_append_right _ h)) (by decide +kernel))
set_option maxRecDepth 20000 in
theorem gX2_addSection_X2_checkArgument : GoodIn wsX2_addSection (va_wsS RX2 35 yX2_checkArgument wsX2_checkArgument) := goodIn_app (goodIn_of _ (by decide +kernel)) ggX2_addSection_X2_checkArgument
set_option maxRecDepth 20000 in
theorem ggX2_addSection_X2_songTicks : GoodIn wsX2_addSection wsX2_songTicks := goodIn_r _ [20, 3, 21, 22, 23, 10, 24, 4, 34, 35, 36, 37, 38, 39, 40, 41, 42] (by decide +kernel) (by decide +kernel)
set_option maxRecDepth 20000 in
theorem gX2_addSection_X2_songTicks : GoodIn wsX2_addSection (wsV RX2 117 RX2 yX2_songTicks wsX2_songTicks) := goodIn_app (goodIn_of _ (by decide +kernel)) ggX2_addSection_X2_songTicks
set_option maxRecDepth 20000 in
theorem ggX2_addSection_X0_init : GoodIn wsX2_addSection wsX0_init := goodIn_r _ [26, 27, 28, 29, 30, 31, 32, 33, 39, 40, 41, 42] (by decide +kernel) (by decide +kernel)
set_option maxRecDepth 20000 in
theorem gX2_addSection_X0_init_n120 : GoodIn wsX2_addSection (wsX0_init) := ggX2_addSection_X0_init
set_option maxRecDepth 20000 in
theorem ggX2_loudness_X2_existingTrack : GoodIn wsX2_loudness wsX2_existingTrack := goodIn_ca (goodIn_r _ [9, 10, 11, 12, 13, 14, 8, 15, 16, 96, 97, 98, 99, 100] (by decide +kernel) (by decide +kernel)) (goodIn_sub (fun _ h => List.mem_cons_of_mem _ (List.mem_append_left _ (List.mem_append_right _ h))) (by decide +kernel))
set_option maxRecDepth 20000 in
theorem gX2_loudness_X2_existingTrack : GoodIn wsX2_loudness (wsV RX2 68 RX2 yX2_existingTrack wsX2_existingTrack) := goodIn_app (goodIn_of _ (by decide +kernel)) ggX2_loudness_X2_existingTrack
set_option maxRecDepth 20000 in
theorem ggX2_loudness_X2_isTick : GoodIn wsX2_loudness wsX2_isTick := goodIn_r _ [19, 20, 21, 22, 8, 23] (by decide +kernel) (by decide +kernel)
set_option maxRecDepth 20000 in
theorem gX2_loudness_X2_isTick : GoodIn wsX2_loudness (va_wsS RX2 108 yX2_isTick wsX2_isTick) := goodIn_app (goodIn_of _ (by decide +kernel)) ggX2_loudness_X2_isTick
set_option maxRecDepth 20000 in
theorem ggX2_loudness_X2_checkArgument : GoodIn wsX2_loudness wsX2_checkArgument := goodIn_ca (goodIn_r _ [26, 27, 28] (by decide +kernel) (by decide +kernel)) (goodIn_sub (fun _ h => List.mem_cons_of_mem _ (List.mem_append_right _ h)) (by decide +kernel))
set_option maxRecDepth 20000 in
theorem gX2_loudness_X2_checkArgument : GoodIn wsX2_loudness (va_wsS RX2 35 yX2_checkArgument wsX2_checkArgument) := goodIn_app (goodIn_of _ (by decide +kernel)) ggX2_loudness_X2_checkArgument
set_option maxRecDepth 20000 in
theorem ggX2_loudness_X2_makesHit : GoodIn wsX2_loudness wsX2_makesHit := goodIn_r _ [32, 12, 13, 14, 8, 15, 16, 33, 34, 35, 36, 37, 38, 39, 40, 41, 42, 43, 44, 45, 46, 47, 48, 49, 50, 51, 52, 53, 54, 55, 56, 57, 58, 59, 60, 61, 62, 63, 64, 65, 66, 67, 68, 69, 70, 71, 72, 73, 74, 75, 76, 77, 78, 79, 80, 81, 82, 83, 84, 85, 86, 87, 88, 89, 90, 91, 101, 102, 103, 104, 105, 106, 107, 108, 109, 110, 96, 97, 98, 99, 100, 111, 112, 113, 114] (by decide +kernel) (by decide +kernel)
set_option maxRecDepth 20000 in
theorem gX2_loudness_X2_makesHit : GoodIn wsX2_loudness (wsV RX2 128 RX2 yX2_makesHit wsX2_makesHit) := goodIn_app (goodIn_of _ (by decide +kernel)) ggX2_loudness_X2_makesHit
set_option maxRecDepth 20000 in
theorem ggX2_loudness_X2_struckForce : GoodIn wsX2_loudness wsX2_struckForce := goodIn_r _ [36, 12, 13, 14, 8, 15, 16, 37, 38, 39, 40, 41, 42, 43, 44, 45, 46, 47, 48, 49, 50, 51, 52, 53, 54, 55, 56, 57, 58, 59, 60, 61, 62, 63, 64, 65, 66, 67, 68, 69, 70, 71, 72, 73, 74, 75, 76, 77, 78, 79, 80, 81, 82, 83, 84, 85, 86, 87, 88, 89, 90, 91, 96, 97, 98, 99, 100, 101, 102, 103, 104, 105, 106, 107, 108, 109, 110, 111, 112, 113, 114] (by decide +kernel) (by decide +kernel)
set_option maxRecDepth 20000 in
theorem gX2_loudness_X2_struckForce : GoodIn wsX2_loudness (wsV RX2 132 RX2 yX2_struckForce wsX2_struckForce) := goodIn_app (goodIn_of _ (by decide +kernel)) ggX2_loudness_X2_struckForce
set_option maxRecDepth 20000 in
theorem ggX2_loudness_X2_accentForce : GoodIn wsX2_loudness wsX2_accentForce := goodIn_r _ [95, 45, 12, 13, 14, 8, 15, 16, 33, 34, 35, 36, 37, 38, 39, 40, 41, 42, 43, 44, 46, 47, 48, 49, 50, 51, 52, 53, 54, 55, 56, 57, 58, 59, 60, 61, 62, 63, 64, 65, 66, 67, 68, 69, 70, 71, 72, 73, 74, 75, 76, 77, 78, 79, 80, 81, 82, 83, 84, 85, 86, 87, 88, 89, 90, 91, 96, 97, 98, 99, 100, 101, 102, 103, 104, 105, 106, 107, 108, 109, 110, 111, 112, 113, 114] (by decide +kernel) (by decide +kernel)
set_option maxRecDepth 20000 in
theorem gX2_loudness_X2_accentForce : GoodIn wsX2_loudness (wsV RX2 135 RX2 yX2_accentForce wsX2_accentForce) := goodIn_app (goodIn_of _ (by decide +kernel)) ggX2_loudness_X2_accentForce
set_option maxRecDepth 20000 in
theorem ggX2_hits_X2_isTick : GoodIn wsX2_hits wsX2_isTick := goodIn_r _ [4, 5, 6, 7, 3, 8] (by decide +kernel) (by decide +kernel)
set_option maxRecDepth 20000 in
theorem gX2_hits_X2_isTick : GoodIn wsX2_hits (va_wsS RX2 108 yX2_isTick wsX2_isTick) := goodIn_app (goodIn_of _ (by decide +kernel)) ggX2_hits_X2_isTick
set_option maxRecDepth 20000 in
theorem ggX2_hits_X2_checkArgument : GoodIn wsX2_hits wsX2_checkArgument := goodIn_ca (goodIn_r _ [11, 12, 13] (by decide +kernel) (by decide +kernel)) (goodIn_sub (fun _ h => List.mem_cons_of_mem _ (List.mem_append_right _ h)) (by decide +kernel))
set_option maxRecDepth 20000 in
theorem gX2_hits_X2_checkArgument : GoodIn wsX2_hits (va_wsS RX2 35 yX2_checkArgument wsX2_checkArgument) := goodIn_app (goodIn_of _ (by decide +kernel)) ggX2_hits_X2_checkArgument
set_option maxRecDepth 20000 in
theorem ggX2_hits_X2_hitSet : GoodIn wsX2_hits wsX2_hitSet := goodIn_r _ [17, 18, 19, 20, 21, 3, 22, 23, 24, 25, 26, 27, 28, 29, 30, 31, 32, 33, 34, 35, 36, 37, 38, 39, 40, 41, 42, 43, 44, 45, 46, 47, 48, 49, 50, 51, 52, 53, 54, 55, 56, 57, 58, 59, 60, 61, 62, 63, 64, 65, 66, 67, 68, 69, 70, 71, 72, 73, 74, 75, 76, 77, 78, 79, 80, 81, 82, 83, 84, 85, 86, 87, 88, 89, 90, 91, 92, 93, 94, 95, 96, 97, 98, 99, 100, 101, 102, 103, 104] (by decide +kernel) (by decide +kernel)
set_option maxRecDepth 20000 in
theorem gX2_hits_X2_hitSet : GoodIn wsX2_hits (wsV RX2 143 RX2 yX2_hitSet wsX2_hitSet) := goodIn_app (goodIn_of _ (by decide +kernel)) ggX2_hits_X2_hitSet
set_option maxRecDepth 20000 in
theorem ggX2_sounding_X2_isTick : GoodIn wsX2_sounding wsX2_isTick := goodIn_r _ [5, 6, 7, 8, 4, 9] (by decide +kernel) (by decide +kernel)
set_option maxRecDepth 20000 in
theorem gX2_sounding_X2_isTick : GoodIn wsX2_sounding (va_wsS RX2 108 yX2_isTick wsX2_isTick) := goodIn_app (goodIn_of _ (by decide +kernel)) ggX2_sounding_X2_isTick
set_option maxRecDepth 20000 in
theorem ggX2_sounding_X2_checkArgument : GoodIn wsX2_sounding wsX2_checkArgument := goodIn_ca (goodIn_r _ [12, 13, 14] (by decide +kernel) (by decide +kernel)) (goodIn_sub (fun _ h => List.mem_cons_of_mem _ (List.mem_append_right _ h)) (by decide +kernel))
set_option maxRecDepth 20000 in
theorem gX2_sounding_X2_checkArgument : GoodIn wsX2_sounding (va_wsS RX2 35 yX2_checkArgument wsX2_checkArgument) := goodIn_app (goodIn_of _ (by decide +kernel)) ggX2_sounding_X2_checkArgument
set_option maxRecDepth 20000 in
theorem ggX2_sounding_X2_hitSet : GoodIn wsX2_sounding wsX2_hitSet := goodIn_r _ [18, 1, 19, 20, 21, 4, 22, 23, 24, 25, 26, 27, 28, 29, 30, 31, 32, 33, 34, 35, 36, 37, 38, 39, 40, 41, 42, 43, 44, 45, 46, 47, 48, 49, 50, 51, 52, 53, 54, 55, 56, 57, 58, 59, 60, 61, 62, 63, 64, 65, 66, 67, 68, 69, 70, 71, 72, 73, 74, 75, 76, 77, 78, 79, 80, 81, 82, 83, 84, 85, 90, 91, 92, 93, 94, 95, 96, 97, 98, 99, 100, 101, 102, 103, 104, 105, 106, 107, 108] (by decide +kernel) (by decide +kernel)
set_option maxRecDepth 20000 in
theorem gX2_sounding_X2_hitSet : GoodIn wsX2_sounding (wsV RX2 143 RX2 yX2_hitSet wsX2_hitSet) := goodIn_app (goodIn_of _ (by decide +kernel)) ggX2_sounding_X2_hitSet
set_option maxRecDepth 20000 in
theorem ggX2_sounding_X2_trackOrNull : GoodIn wsX2_sounding wsX2_trackOrNull := goodIn_r _ [26, 27, 90, 91, 92, 93, 94] (by decide +kernel) (by decide +kernel)
set_option maxRecDepth 20000 in
theorem gX2_sounding_X2_trackOrNull : GoodIn wsX2_sounding (wsV RX2 146 RX2 yX2_trackOrNull wsX2_trackOrNull) := goodIn_app (goodIn_of _ (by decide +kernel)) ggX2_sounding_X2_trackOrNull
set_option maxRecDepth 20000 in
theorem ggX2_sounding_X2_isInSet : GoodIn wsX2_sounding wsX2_isInSet := goodIn_r _ [56] (by decide +kernel) (by decide +kernel)
set_option maxRecDepth 20000 in
theorem gX2_sounding_X2_isInSet : GoodIn wsX2_sounding (va_wsS RX2 149 yX2_isInSet wsX2_isInSet) := goodIn_app (goodIn_of _ (by decide +kernel)) ggX2_sounding_X2_isInSet
set_option maxRecDepth 20000 in
theorem ggX2_sounding_X2_groupSet : GoodIn wsX2_sounding wsX2_groupSet := goodIn_r _ [89, 1, 23, 24, 25, 4, 26, 27, 90, 91, 92, 93, 94, 95, 96, 97, 98, 99, 100, 101, 102, 103, 104] (by decide +kernel) (by decide +kernel)
set_option maxRecDepth 20000 in
theorem gX2_sounding_X2_groupSet : GoodIn wsX2_sounding (wsV RX2 152 RX2 yX2_groupSet wsX2_groupSet) := goodIn_app (goodIn_of _ (by decide +kernel)) ggX2_sounding_X2_groupSet
set_option maxRecDepth 20000 in
theorem ggX2_next_X2_existingTrack : GoodIn wsX2_next wsX2_existingTrack := goodIn_ca (goodIn_r _ [10, 11, 12, 13, 14, 15, 9, 16, 17, 92, 93, 94, 95, 96] (by decide +kernel) (by decide +kernel)) (goodIn_sub (fun _ h => List.mem_cons_of_mem _ (List.mem_append_left _ (List.mem_append_right _ h))) (by decide +kernel))
set_option maxRecDepth 20000 in
theorem gX2_next_X2_existingTrack : GoodIn wsX2_next (wsV RX2 68 RX2 yX2_existingTrack wsX2_existingTrack) := goodIn_app (goodIn_of _ (by decide +kernel)) ggX2_next_X2_existingTrack
set_option maxRecDepth 20000 in
theorem ggX2_next_X2_isTick : GoodIn wsX2_next wsX2_isTick := goodIn_r _ [20, 1, 21, 22, 9, 23] (by decide +kernel) (by decide +kernel)
set_option maxRecDepth 20000 in
theorem gX2_next_X2_isTick : GoodIn wsX2_next (va_wsS RX2 108 yX2_isTick wsX2_isTick) := goodIn_app (goodIn_of _ (by decide +kernel)) ggX2_next_X2_isTick
set_option maxRecDepth 20000 in
theorem ggX2_next_X2_checkArgument : GoodIn wsX2_next wsX2_checkArgument := goodIn_ca (goodIn_r _ [26, 27, 28] (by decide +kernel) (by decide +kernel)) (goodIn_sub (fun _ h => List.mem_cons_of_mem _ (List.mem_append_right _ h)) (by decide +kernel))
set_option maxRecDepth 20000 in
theorem gX2_next_X2_checkArgument : GoodIn wsX2_next (va_wsS RX2 35 yX2_checkArgument wsX2_checkArgument) := goodIn_app (goodIn_of _ (by decide +kernel)) ggX2_next_X2_checkArgument
set_option maxRecDepth 20000 in
theorem ggX2_next_X2_makesHit : GoodIn wsX2_next wsX2_makesHit := goodIn_r _ [32, 13, 14, 15, 9, 16, 17, 33, 34, 35, 36, 37, 38, 39, 40, 41, 42, 43, 44, 45, 46, 47, 48, 49, 50, 51, 52, 53, 54, 55, 56, 57, 58, 59, 60, 61, 62, 63, 64, 65, 66, 67, 68, 69, 70, 71, 72, 73, 74, 75, 76, 77, 78, 79, 80, 81, 82, 83, 84, 85, 86, 87, 88, 89, 90, 91, 97, 98, 99, 100, 101, 102, 103, 104, 105, 106, 92, 93, 94, 95, 96, 107, 108, 109, 110] (by decide +kernel) (by decide +kernel)
set_option maxRecDepth 20000 in
theorem gX2_next_X2_makesHit : GoodIn wsX2_next (wsV RX2 128 RX2 yX2_makesHit wsX2_makesHit) := goodIn_app (goodIn_of _ (by decide +kernel)) ggX2_next_X2_makesHit
set_option maxRecDepth 20000 in
theorem ggX2_count_X2_existingTrack : GoodIn wsX2_count wsX2_existingTrack := goodIn_ca (goodIn_r _ [5, 6, 7, 8, 9, 10, 4, 11, 12, 95, 96, 97, 98, 99] (by decide +kernel) (by decide +kernel)) (goodIn_sub (fun _ h => List.mem_cons_of_mem _ (List.mem_append_left _ (List.mem_append_right _ h))) (by decide +kernel))
set_option maxRecDepth 20000 in
theorem gX2_count_X2_existingTrack : GoodIn wsX2_count (wsV RX2 68 RX2 yX2_existingTrack wsX2_existingTrack) := goodIn_app (goodIn_of _ (by decide +kernel)) ggX2_count_X2_existingTrack
set_option maxRecDepth 20000 in
theorem ggX2_count_X2_isSpan : GoodIn wsX2_count wsX2_isSpan := goodIn_r _ [15, 16, 17, 4, 18, 19, 20, 21, 22] (by decide +kernel) (by decide +kernel)
set_option maxRecDepth 20000 in
theorem gX2_count_X2_isSpan : GoodIn wsX2_count (va_wsS RX2 156 yX2_isSpan wsX2_isSpan) := goodIn_app (goodIn_of _ (by decide +kernel)) ggX2_count_X2_isSpan
set_option maxRecDepth 20000 in
theorem ggX2_count_X2_checkArgument : GoodIn wsX2_count wsX2_checkArgument := goodIn_ca (goodIn_r _ [25, 26, 27] (by decide +kernel) (by decide +kernel)) (goodIn_sub (fun _ h => List.mem_cons_of_mem _ (List.mem_append_right _ h)) (by decide +kernel))
set_option maxRecDepth 20000 in
theorem gX2_count_X2_checkArgument : GoodIn wsX2_count (va_wsS RX2 35 yX2_checkArgument wsX2_checkArgument) := goodIn_app (goodIn_of _ (by decide +kernel)) ggX2_count_X2_checkArgument
set_option maxRecDepth 20000 in
theorem ggX2_count_X2_commonHits : GoodIn wsX2_count wsX2_commonHits := goodIn_r _ [31, 32, 33, 34, 4, 35, 8, 9, 10, 11, 12, 36, 37, 38, 39, 40, 41, 42, 43, 44, 45, 46, 47, 48, 49, 50, 51, 52, 53, 54, 55, 56, 57, 58, 59, 60, 61, 62, 63, 64, 65, 66, 67, 68, 69, 70, 71, 72, 73, 74, 75, 76, 77, 78, 79, 80, 81, 82, 83, 84, 85, 86, 87, 88, 89, 90, 91, 92, 93, 94, 100, 101, 102, 103, 104, 105, 106, 107, 108, 109, 95, 96, 97, 98, 99, 110, 111, 112, 113] (by decide +kernel) (by decide +kernel)
set_option maxRecDepth 20000 in
theorem gX2_count_X2_commonHits : GoodIn wsX2_count (wsV RX2 159 RX2 yX2_commonHits wsX2_commonHits) := goodIn_app (goodIn_of _ (by decide +kernel)) ggX2_count_X2_commonHits
set_option maxRecDepth 20000 in
theorem ggX2_seconds_X2_isTick : GoodIn wsX2_seconds wsX2_isTick := goodIn_r _ [7, 8, 9, 10, 6, 11] (by decide +kernel) (by decide +kernel)
set_option maxRecDepth 20000 in
theorem gX2_seconds_X2_isTick : GoodIn wsX2_seconds (va_wsS RX2 108 yX2_isTick wsX2_isTick) := goodIn_app (goodIn_of _ (by decide +kernel)) ggX2_seconds_X2_isTick
set_option maxRecDepth 20000 in
theorem ggX2_seconds_X2_checkArgument : GoodIn wsX2_seconds wsX2_checkArgument := goodIn_ca (goodIn_r _ [14, 15, 16] (by decide +kernel) (by decide +kernel)) (goodIn_sub (fun _ h => List.mem_cons_of_mem _ (List.mem_append_right _ h)) (by decide +kernel))
set_option maxRecDepth 20000 in
theorem gX2_seconds_X2_checkArgument : GoodIn wsX2_seconds (va_wsS RX2 35 yX2_checkArgument wsX2_checkArgument) := goodIn_app (goodIn_of _ (by decide +kernel)) ggX2_seconds_X2_checkArgument
set_option maxRecDepth 20000 in
theorem ggX2_digest_X2_mix : GoodIn wsX2_digest wsX2_mix := goodIn_r _ [8, 9] (by decide +kernel) (by decide +kernel)
set_option maxRecDepth 20000 in
theorem gX2_digest_X2_mix : GoodIn wsX2_digest (va_wsS RX2 187 yX2_mix wsX2_mix) := goodIn_app (goodIn_of _ (by decide +kernel)) ggX2_digest_X2_mix
set_option maxRecDepth 20000 in
theorem ggX2_digest_X2_trackOrNull : GoodIn wsX2_digest wsX2_trackOrNull := goodIn_r _ [13, 14, 43, 44, 45, 46, 47] (by decide +kernel) (by decide +kernel)
set_option maxRecDepth 20000 in
theorem gX2_digest_X2_trackOrNull : GoodIn wsX2_digest (wsV RX2 146 RX2 yX2_trackOrNull wsX2_trackOrNull) := goodIn_app (goodIn_of _ (by decide +kernel)) ggX2_digest_X2_trackOrNull
set_option maxRecDepth 20000 in
theorem ggX2_digest_X1_mixInto : GoodIn wsX2_digest wsX1_mixInto := goodIn_r _ [18, 19, 20, 21, 22, 16, 23, 24, 25, 26, 27, 28, 29, 30, 6, 7, 8, 9, 31, 32, 33, 34, 35, 36, 37, 52, 53, 54, 55, 56, 57, 58, 59, 60, 61] (by decide +kernel) (by decide +kernel)
set_option maxRecDepth 20000 in
theorem gX2_digest_X1_mixInto_n190 : GoodIn wsX2_digest (wsX1_mixInto) := ggX2_digest_X1_mixInto
set_option maxRecDepth 20000 in
theorem ggX2_digest_X2_sectionOrNull : GoodIn wsX2_digest wsX2_sectionOrNull := goodIn_r _ [41, 42, 43, 44, 45, 46, 47] (by decide +kernel) (by decide +kernel)
set_option maxRecDepth 20000 in
theorem gX2_digest_X2_sectionOrNull : GoodIn wsX2_digest (wsV RX2 194 RX2 yX2_sectionOrNull wsX2_sectionOrNull) := goodIn_app (goodIn_of _ (by decide +kernel)) ggX2_digest_X2_sectionOrNull
set_option maxRecDepth 20000 in
theorem ggX2_isTick_X2_isWithin : GoodIn wsX2_isTick wsX2_isWithin := goodIn_r _ [5] (by decide +kernel) (by decide +kernel)
set_option maxRecDepth 20000 in
theorem gX2_isTick_X2_isWithin : GoodIn wsX2_isTick (va_wsS RX2 31 yX2_isWithin wsX2_isWithin) := goodIn_app (goodIn_of _ (by decide +kernel)) ggX2_isTick_X2_isWithin
set_option maxRecDepth 20000 in
theorem ggX2_isSpan_X2_isTick : GoodIn wsX2_isSpan wsX2_isTick := goodIn_r _ [4, 5, 6, 7, 3, 8] (by decide +kernel) (by decide +kernel)
set_option maxRecDepth 20000 in
theorem gX2_isSpan_X2_isTick : GoodIn wsX2_isSpan (va_wsS RX2 108 yX2_isTick wsX2_isTick) := goodIn_app (goodIn_of _ (by decide +kernel)) ggX2_isSpan_X2_isTick
set_option maxRecDepth 20000 in
theorem ggX2_existingTrack_X2_trackOrNull : GoodIn wsX2_existingTrack wsX2_trackOrNull := goodIn_r _ [7, 8, 9, 10, 11, 12, 13] (by decide +kernel) (by decide +kernel)
set_option maxRecDepth 20000 in
theorem gX2_existingTrack_X2_trackOrNull : GoodIn wsX2_existingTrack (wsV RX2 146 RX2 yX2_trackOrNull wsX2_trackOrNull) := goodIn_app (goodIn_of _ (by decide +kernel)) ggX2_existingTrack_X2_trackOrNull
set_option maxRecDepth 20000 in
theorem ggX2_trackWithStep_X2_existingTrack : GoodIn wsX2_trackWithStep wsX2_existingTrack := goodIn_ca (goodIn_r _ [5, 6, 7, 8, 9, 10, 4, 11, 12, 29, 30, 31, 32, 33] (by decide +kernel) (by decide +kernel)) (goodIn_sub (fun _ h => List.mem_cons_of_mem _ (List.mem_append_right _ h)) (by decide +kernel))
set_option maxRecDepth 20000 in
theorem gX2_trackWithStep_X2_existingTrack : GoodIn wsX2_trackWithStep (wsV RX2 68 RX2 yX2_existingTrack wsX2_existingTrack) := goodIn_app (goodIn_of _ (by decide +kernel)) ggX2_trackWithStep_X2_existingTrack
set_option maxRecDepth 20000 in
theorem ggX2_trackWithStep_X2_isWithin : GoodIn wsX2_trackWithStep wsX2_isWithin := goodIn_r _ [15] (by decide +kernel) (by decide +kernel)
set_option maxRecDepth 20000 in
theorem gX2_trackWithStep_X2_isWithin : GoodIn wsX2_trackWithStep (va_wsS RX2 31 yX2_isWithin wsX2_isWithin) := goodIn_app (goodIn_of _ (by decide +kernel)) ggX2_trackWithStep_X2_isWithin
set_option maxRecDepth 20000 in
theorem ggX2_trackWithStep_X2_checkIndex : GoodIn wsX2_trackWithStep wsX2_checkIndex := goodIn_ca (goodIn_r _ [18, 6, 7] (by decide +kernel) (by decide +kernel)) (goodIn_sub (fun _ h => List.mem_cons_of_mem _ (List.mem_append_right _ h)) (by decide +kernel))
set_option maxRecDepth 20000 in
theorem gX2_trackWithStep_X2_checkIndex : GoodIn wsX2_trackWithStep (va_wsS RX2 61 yX2_checkIndex wsX2_checkIndex) := goodIn_app (goodIn_of _ (by decide +kernel)) ggX2_trackWithStep_X2_checkIndex
set_option maxRecDepth 20000 in
theorem ggX2_songTicks_X2_sectionOrNull : GoodIn wsX2_songTicks wsX2_sectionOrNull := goodIn_r _ [6, 7, 8, 9, 10, 11, 12] (by decide +kernel) (by decide +kernel)
set_option maxRecDepth 20000 in
theorem gX2_songTicks_X2_sectionOrNull : GoodIn wsX2_songTicks (wsV RX2 194 RX2 yX2_sectionOrNull wsX2_sectionOrNull) := goodIn_app (goodIn_of _ (by decide +kernel)) ggX2_songTicks_X2_sectionOrNull
set_option maxRecDepth 20000 in
theorem ggX2_sectionNumber_X2_sectionOrNull : GoodIn wsX2_sectionNumber wsX2_sectionOrNull := goodIn_r _ [6, 7, 8, 9, 10, 11, 12] (by decide +kernel) (by decide +kernel)
set_option maxRecDepth 20000 in
theorem gX2_sectionNumber_X2_sectionOrNull : GoodIn wsX2_sectionNumber (wsV RX2 194 RX2 yX2_sectionOrNull wsX2_sectionOrNull) := goodIn_app (goodIn_of _ (by decide +kernel)) ggX2_sectionNumber_X2_sectionOrNull
set_option maxRecDepth 20000 in
theorem ggX2_localTime_X2_sectionNumber : GoodIn wsX2_localTime wsX2_sectionNumber := goodIn_r _ [6, 1, 7, 8, 9, 5, 10, 11, 15, 16, 17, 18, 19, 20, 21, 22, 23] (by decide +kernel) (by decide +kernel)
set_option maxRecDepth 20000 in
theorem gX2_localTime_X2_sectionNumber : GoodIn wsX2_localTime (wsV RX2 125 RX2 yX2_sectionNumber wsX2_sectionNumber) := goodIn_app (goodIn_of _ (by decide +kernel)) ggX2_localTime_X2_sectionNumber
set_option maxRecDepth 20000 in
theorem ggX2_localTime_X2_sectionOrNull : GoodIn wsX2_localTime wsX2_sectionOrNull := goodIn_r _ [10, 11, 15, 16, 17, 18, 19] (by decide +kernel) (by decide +kernel)
set_option maxRecDepth 20000 in
theorem gX2_localTime_X2_sectionOrNull : GoodIn wsX2_localTime (wsV RX2 194 RX2 yX2_sectionOrNull wsX2_sectionOrNull) := goodIn_app (goodIn_of _ (by decide +kernel)) ggX2_localTime_X2_sectionOrNull
set_option maxRecDepth 20000 in
theorem ggX2_localTime_X2_isInSet : GoodIn wsX2_localTime wsX2_isInSet := goodIn_r _ [14] (by decide +kernel) (by decide +kernel)
set_option maxRecDepth 20000 in
theorem gX2_localTime_X2_isInSet : GoodIn wsX2_localTime (va_wsS RX2 149 yX2_isInSet wsX2_isInSet) := goodIn_app (goodIn_of _ (by decide +kernel)) ggX2_localTime_X2_isInSet
set_option maxRecDepth 20000 in
theorem ggX2_isAnySolo_X2_trackOrNull : GoodIn wsX2_isAnySolo wsX2_trackOrNull := goodIn_r _ [6, 7, 8, 9, 10, 11, 12] (by decide +kernel) (by decide +kernel)
set_option maxRecDepth 20000 in
theorem gX2_isAnySolo_X2_trackOrNull : GoodIn wsX2_isAnySolo (wsV RX2 146 RX2 yX2_trackOrNull wsX2_trackOrNull) := goodIn_app (goodIn_of _ (by decide +kernel)) ggX2_isAnySolo_X2_trackOrNull
set_option maxRecDepth 20000 in
theorem ggX2_isSilenced_X2_isAnySolo : GoodIn wsX2_isSilenced wsX2_isAnySolo := goodIn_r _ [5, 6, 7, 8, 9, 4, 10, 11, 22, 23, 24, 25, 26, 12, 13, 14, 15, 16, 17, 18, 19, 20, 21] (by decide +kernel) (by decide +kernel)
set_option maxRecDepth 20000 in
theorem gX2_isSilenced_X2_isAnySolo : GoodIn wsX2_isSilenced (wsV RX2 229 RX2 yX2_isAnySolo wsX2_isAnySolo) := goodIn_app (goodIn_of _ (by decide +kernel)) ggX2_isSilenced_X2_isAnySolo
set_option maxRecDepth 20000 in
theorem ggX2_struckForce_X2_trackOrNull : GoodIn wsX2_struckForce wsX2_trackOrNull := goodIn_r _ [5, 6, 62, 63, 64, 65, 66] (by decide +kernel) (by decide +kernel)
set_option maxRecDepth 20000 in
theorem gX2_struckForce_X2_trackOrNull : GoodIn wsX2_struckForce (wsV RX2 146 RX2 yX2_trackOrNull wsX2_trackOrNull) := goodIn_app (goodIn_of _ (by decide +kernel)) ggX2_struckForce_X2_trackOrNull
set_option maxRecDepth 20000 in
theorem ggX2_struckForce_X2_isSilenced : GoodIn wsX2_struckForce wsX2_isSilenced := goodIn_r _ [10, 11, 12, 13, 4, 14, 15, 1, 2, 3, 5, 6, 67, 68, 69, 70, 71, 72, 73, 74, 75, 76, 62, 63, 64, 65, 66] (by decide +kernel) (by decide +kernel)
set_option maxRecDepth 20000 in
theorem gX2_struckForce_X2_isSilenced : GoodIn wsX2_struckForce (wsV RX2 233 RX2 yX2_isSilenced wsX2_isSilenced) := goodIn_app (goodIn_of _ (by decide +kernel)) ggX2_struckForce_X2_isSilenced
set_option maxRecDepth 20000 in
theorem ggX2_struckForce_X2_localTime : GoodIn wsX2_struckForce wsX2_localTime := goodIn_r _ [19, 20, 21, 22, 23, 4, 24, 25, 26, 27, 28, 29, 30, 31, 32, 62, 63, 64, 65, 66, 77, 78, 79, 80] (by decide +kernel) (by decide +kernel)
set_option maxRecDepth 20000 in
theorem gX2_struckForce_X2_localTime : GoodIn wsX2_struckForce (wsV RX2 237 RX2 yX2_localTime wsX2_localTime) := goodIn_app (goodIn_of _ (by decide +kernel)) ggX2_struckForce_X2_localTime
set_option maxRecDepth 20000 in
theorem ggX2_struckForce_X1_forceAt : GoodIn wsX2_struckForce wsX1_forceAt := goodIn_r _ [36, 37, 38, 39, 40, 34, 41, 42, 43, 4, 44, 45, 46, 47, 48, 49, 50, 51, 52, 53, 54, 55, 56, 57, 58, 59, 60, 61, 67, 68, 69, 70, 71, 72, 73, 74, 75, 76] (by decide +kernel) (by decide +kernel)
set_option maxRecDepth 20000 in
theorem gX2_struckForce_X1_forceAt_n240 : GoodIn wsX2_struckForce (wsX1_forceAt) := ggX2_struckForce_X1_forceAt
set_option maxRecDepth 20000 in
theorem ggX2_makesHit_X2_trackOrNull : GoodIn wsX2_makesHit wsX2_trackOrNull := goodIn_r _ [5, 6, 76, 77, 78, 79, 80] (by decide +kernel) (by decide +kernel)
set_option maxRecDepth 20000 in
theorem gX2_makesHit_X2_trackOrNull : GoodIn wsX2_makesHit (wsV RX2 146 RX2 yX2_trackOrNull wsX2_trackOrNull) := goodIn_app (goodIn_of _ (by decide +kernel)) ggX2_makesHit_X2_trackOrNull
set_option maxRecDepth 20000 in
theorem ggX2_makesHit_X2_struckForce : GoodIn wsX2_makesHit wsX2_struckForce := goodIn_r _ [10, 1, 2, 3, 4, 5, 6, 11, 12, 13, 14, 15, 16, 17, 18, 19, 20, 21, 22, 23, 24, 25, 26, 27, 28, 29, 30, 31, 32, 33, 34, 35, 36, 37, 38, 39, 40, 41, 42, 43, 44, 45, 46, 47, 48, 49, 50, 51, 52, 53, 54, 55, 56, 57, 58, 59, 60, 61, 62, 63, 64, 65, 76, 77, 78, 79, 80, 66, 67, 68, 69, 70, 71, 72, 73, 74, 75, 81, 82, 83, 84] (by decide +kernel) (by decide +kernel)
set_option maxRecDepth 20000 in
theorem gX2_makesHit_X2_struckForce : GoodIn wsX2_makesHit (wsV RX2 132 RX2 yX2_struckForce wsX2_struckForce) := goodIn_app (goodIn_of _ (by decide +kernel)) ggX2_makesHit_X2_struckForce
set_option maxRecDepth 20000 in
theorem ggX2_accentForce_X2_trackOrNull : GoodIn wsX2_accentForce wsX2_trackOrNull := goodIn_r _ [6, 7, 66, 67, 68, 69, 70] (by decide +kernel) (by decide +kernel)
set_option maxRecDepth 20000 in
theorem gX2_accentForce_X2_trackOrNull : GoodIn wsX2_accentForce (wsV RX2 146 RX2 yX2_trackOrNull wsX2_trackOrNull) := goodIn_app (goodIn_of _ (by decide +kernel)) ggX2_accentForce_X2_trackOrNull
set_option maxRecDepth 20000 in
theorem ggX2_accentForce_X2_struckForce : GoodIn wsX2_accentForce wsX2_struckForce := goodIn_r _ [11, 2, 3, 4, 5, 6, 7, 12, 13, 14, 15, 16, 17, 18, 19, 1, 20, 21, 22, 23, 24, 25, 26, 27, 28, 29, 30, 31, 32, 33, 34, 35, 36, 37, 38, 39, 40, 41, 42, 43, 44, 45, 46, 47, 48, 49, 50, 51, 52, 53, 54, 55, 56, 57, 58, 59, 60, 61, 62, 63, 64, 65, 66, 67, 68, 69, 70, 71, 72, 73, 74, 75, 76, 77, 78, 79, 80, 81, 82, 83, 84] (by decide +kernel) (by decide +kernel)
set_option maxRecDepth 20000 in
theorem gX2_accentForce_X2_struckForce : GoodIn wsX2_accentForce (wsV RX2 132 RX2 yX2_struckForce wsX2_struckForce) := goodIn_app (goodIn_of _ (by decide +kernel)) ggX2_accentForce_X2_struckForce
set_option maxRecDepth 20000 in
theorem ggX2_hitSet_X2_makesHit : GoodIn wsX2_hitSet wsX2_makesHit := goodIn_r _ [6, 7, 8, 9, 5, 10, 11, 12, 13, 14, 15, 16, 17, 18, 19, 20, 21, 22, 23, 1, 24, 25, 26, 27, 28, 29, 30, 31, 32, 33, 34, 35, 36, 37, 38, 39, 40, 41, 42, 43, 44, 45, 46, 47, 48, 49, 50, 51, 52, 53, 54, 55, 56, 57, 58, 59, 60, 61, 62, 63, 64, 65, 66, 67, 68, 69, 75, 76, 77, 78, 79, 80, 81, 82, 83, 84, 70, 71, 72, 73, 74, 85, 86, 87, 88] (by decide +kernel) (by decide +kernel)
set_option maxRecDepth 20000 in
theorem gX2_hitSet_X2_makesHit : GoodIn wsX2_hitSet (wsV RX2 128 RX2 yX2_makesHit wsX2_makesHit) := goodIn_app (goodIn_of _ (by decide +kernel)) ggX2_hitSet_X2_makesHit
set_option maxRecDepth 20000 in
theorem ggX2_commonHits_X2_makesHit : GoodIn wsX2_commonHits wsX2_makesHit := goodIn_r _ [5, 6, 7, 8, 4, 9, 10, 11, 12, 13, 14, 15, 16, 17, 18, 19, 20, 21, 22, 23, 24, 25, 26, 27, 28, 29, 30, 31, 32, 33, 34, 35, 36, 37, 38, 39, 40, 41, 42, 43, 44, 45, 46, 47, 48, 49, 50, 51, 52, 53, 54, 55, 56, 57, 58, 59, 60, 61, 62, 63, 64, 65, 66, 67, 68, 69, 70, 71, 72, 73, 74, 75, 76, 77, 78, 79, 80, 81, 82, 83, 84, 85, 86, 87, 88] (by decide +kernel) (by decide +kernel)
set_option maxRecDepth 20000 in
theorem gX2_commonHits_X2_makesHit : GoodIn wsX2_commonHits (wsV RX2 128 RX2 yX2_makesHit wsX2_makesHit) := goodIn_app (goodIn_of _ (by decide +kernel)) ggX2_commonHits_X2_makesHit
set_option maxRecDepth 20000 in
theorem ggX2_groupSet_X2_trackOrNull : GoodIn wsX2_groupSet wsX2_trackOrNull := goodIn_r _ [6, 7, 8, 9, 10, 11, 12] (by decide +kernel) (by decide +kernel)
set_option maxRecDepth 20000 in
theorem gX2_groupSet_X2_trackOrNull : GoodIn wsX2_groupSet (wsV RX2 146 RX2 yX2_trackOrNull wsX2_trackOrNull) := goodIn_app (goodIn_of _ (by decide +kernel)) ggX2_groupSet_X2_trackOrNull
