set_option maxRecDepth 20000 in
theorem ggX3_isTrack_X3_isIn : GoodIn wsX3_isTrack wsX3_isIn := goodIn_r _ [5] (by decide +kernel) (by decide +kernel)
set_option maxRecDepth 20000 in
theorem gX3_isTrack_X3_isIn : GoodIn wsX3_isTrack (va_wsS RX3 51 yX3_isIn wsX3_isIn) := goodIn_app (goodIn_of _ (by decide +kernel)) ggX3_isTrack_X3_isIn
set_option maxRecDepth 20000 in
theorem ggX3_isStep_X3_isTrack : GoodIn wsX3_isStep wsX3_isTrack := goodIn_r _ [6, 7, 8, 9, 5, 10, 11, 12, 13, 14, 15, 16, 17, 18, 19, 20, 21, 22, 23, 24] (by decide +kernel) (by decide +kernel)
set_option maxRecDepth 20000 in
theorem gX3_isStep_X3_isTrack : GoodIn wsX3_isStep (wsV RX3 55 RX3 yX3_isTrack wsX3_isTrack) := goodIn_app (goodIn_of _ (by decide +kernel)) ggX3_isStep_X3_isTrack
set_option maxRecDepth 20000 in
theorem ggX3_isStep_X3_isIn : GoodIn wsX3_isStep wsX3_isIn := goodIn_r _ [10] (by decide +kernel) (by decide +kernel)
set_option maxRecDepth 20000 in
theorem gX3_isStep_X3_isIn : GoodIn wsX3_isStep (va_wsS RX3 51 yX3_isIn wsX3_isIn) := goodIn_app (goodIn_of _ (by decide +kernel)) ggX3_isStep_X3_isIn
set_option maxRecDepth 20000 in
theorem ggX3_isTick_X3_isIn : GoodIn wsX3_isTick wsX3_isIn := goodIn_r _ [5] (by decide +kernel) (by decide +kernel)
set_option maxRecDepth 20000 in
theorem gX3_isTick_X3_isIn : GoodIn wsX3_isTick (va_wsS RX3 51 yX3_isIn wsX3_isIn) := goodIn_app (goodIn_of _ (by decide +kernel)) ggX3_isTick_X3_isIn
set_option maxRecDepth 20000 in
theorem ggX3_plain_X3_at : GoodIn wsX3_plain wsX3_at := goodIn_r _ [5] (by decide +kernel) (by decide +kernel)
set_option maxRecDepth 20000 in
theorem gX3_plain_X3_at : GoodIn wsX3_plain (va_wsS RX3 60 yX3_at wsX3_at) := goodIn_app (goodIn_of _ (by decide +kernel)) ggX3_plain_X3_at
set_option maxRecDepth 20000 in
theorem ggX3_addTrack_X3_isIn : GoodIn wsX3_addTrack wsX3_isIn := goodIn_r _ [9] (by decide +kernel) (by decide +kernel)
set_option maxRecDepth 20000 in
theorem gX3_addTrack_X3_isIn : GoodIn wsX3_addTrack (va_wsS RX3 51 yX3_isIn wsX3_isIn) := goodIn_app (goodIn_of _ (by decide +kernel)) ggX3_addTrack_X3_isIn
set_option maxRecDepth 20000 in
theorem ggX3_addTrack_X3_no : GoodIn wsX3_addTrack wsX3_no := goodIn_r _ [13, 1, 22, 23, 24, 25, 26, 27, 28, 29, 30, 31, 32, 33, 34, 35] (by decide +kernel) (by decide +kernel)
set_option maxRecDepth 20000 in
theorem gX3_addTrack_X3_no : GoodIn wsX3_addTrack (wsV RX3 64 RX3 yX3_no wsX3_no) := goodIn_app (goodIn_of _ (by decide +kernel)) ggX3_addTrack_X3_no
set_option maxRecDepth 20000 in
theorem ggX3_addTrack_X3_plain : GoodIn wsX3_addTrack wsX3_plain := goodIn_r _ [17, 18, 19, 20, 8, 21, 22, 23, 24, 25, 26, 27, 28, 29, 30, 31, 32, 33, 34, 35] (by decide +kernel) (by decide +kernel)
set_option maxRecDepth 20000 in
theorem gX3_addTrack_X3_plain : GoodIn wsX3_addTrack (wsV RX3 68 RX3 yX3_plain wsX3_plain) := goodIn_app (goodIn_of _ (by decide +kernel)) ggX3_addTrack_X3_plain
set_option maxRecDepth 20000 in
theorem ggX3_set_X3_isStep : GoodIn wsX3_set wsX3_isStep := goodIn_r _ [7, 8, 9, 10, 11, 6, 12, 13, 14, 15, 16, 24, 25, 26, 27, 28, 29, 30, 31, 32, 33, 34, 35, 36, 37] (by decide +kernel) (by decide +kernel)
set_option maxRecDepth 20000 in
theorem gX3_set_X3_isStep : GoodIn wsX3_set (wsV RX3 72 RX3 yX3_isStep wsX3_isStep) := goodIn_app (goodIn_of _ (by decide +kernel)) ggX3_set_X3_isStep
set_option maxRecDepth 20000 in
theorem ggX3_set_X3_no : GoodIn wsX3_set wsX3_no := goodIn_r _ [20, 1, 24, 25, 26, 27, 28, 29, 30, 31, 32, 33, 34, 35, 36, 37] (by decide +kernel) (by decide +kernel)
set_option maxRecDepth 20000 in
theorem gX3_set_X3_no : GoodIn wsX3_set (wsV RX3 64 RX3 yX3_no wsX3_no) := goodIn_app (goodIn_of _ (by decide +kernel)) ggX3_set_X3_no
set_option maxRecDepth 20000 in
theorem ggX3_set_X3_isIn : GoodIn wsX3_set wsX3_isIn := goodIn_r _ [16] (by decide +kernel) (by decide +kernel)
set_option maxRecDepth 20000 in
theorem gX3_set_X3_isIn : GoodIn wsX3_set (va_wsS RX3 51 yX3_isIn wsX3_isIn) := goodIn_app (goodIn_of _ (by decide +kernel)) ggX3_set_X3_isIn
set_option maxRecDepth 20000 in
theorem ggX3_set_X3_at : GoodIn wsX3_set wsX3_at := goodIn_r _ [23] (by decide +kernel) (by decide +kernel)
set_option maxRecDepth 20000 in
theorem gX3_set_X3_at : GoodIn wsX3_set (va_wsS RX3 60 yX3_at wsX3_at) := goodIn_app (goodIn_of _ (by decide +kernel)) ggX3_set_X3_at
set_option maxRecDepth 20000 in
theorem ggX3_setTurn_X3_isStep : GoodIn wsX3_setTurn wsX3_isStep := goodIn_r _ [7, 8, 9, 10, 11, 6, 12, 13, 14, 15, 16, 24, 25, 26, 27, 28, 29, 30, 31, 32, 33, 34, 35, 36, 37] (by decide +kernel) (by decide +kernel)
set_option maxRecDepth 20000 in
theorem gX3_setTurn_X3_isStep : GoodIn wsX3_setTurn (wsV RX3 72 RX3 yX3_isStep wsX3_isStep) := goodIn_app (goodIn_of _ (by decide +kernel)) ggX3_setTurn_X3_isStep
set_option maxRecDepth 20000 in
theorem ggX3_setTurn_X3_no : GoodIn wsX3_setTurn wsX3_no := goodIn_r _ [20, 1, 24, 25, 26, 27, 28, 29, 30, 31, 32, 33, 34, 35, 36, 37] (by decide +kernel) (by decide +kernel)
set_option maxRecDepth 20000 in
theorem gX3_setTurn_X3_no : GoodIn wsX3_setTurn (wsV RX3 64 RX3 yX3_no wsX3_no) := goodIn_app (goodIn_of _ (by decide +kernel)) ggX3_setTurn_X3_no
set_option maxRecDepth 20000 in
theorem ggX3_setTurn_X3_isIn : GoodIn wsX3_setTurn wsX3_isIn := goodIn_r _ [16] (by decide +kernel) (by decide +kernel)
set_option maxRecDepth 20000 in
theorem gX3_setTurn_X3_isIn : GoodIn wsX3_setTurn (va_wsS RX3 51 yX3_isIn wsX3_isIn) := goodIn_app (goodIn_of _ (by decide +kernel)) ggX3_setTurn_X3_isIn
set_option maxRecDepth 20000 in
theorem ggX3_setTurn_X3_at : GoodIn wsX3_setTurn wsX3_at := goodIn_r _ [23] (by decide +kernel) (by decide +kernel)
set_option maxRecDepth 20000 in
theorem gX3_setTurn_X3_at : GoodIn wsX3_setTurn (va_wsS RX3 60 yX3_at wsX3_at) := goodIn_app (goodIn_of _ (by decide +kernel)) ggX3_setTurn_X3_at
set_option maxRecDepth 20000 in
theorem ggX3_step_X3_isStep : GoodIn wsX3_step wsX3_isStep := goodIn_r _ [7, 8, 9, 10, 11, 6, 12, 13, 14, 15, 16, 29, 30, 31, 32, 33, 34, 35, 36, 37, 38, 39, 40, 41, 42] (by decide +kernel) (by decide +kernel)
set_option maxRecDepth 20000 in
theorem gX3_step_X3_isStep : GoodIn wsX3_step (wsV RX3 72 RX3 yX3_isStep wsX3_isStep) := goodIn_app (goodIn_of _ (by decide +kernel)) ggX3_step_X3_isStep
set_option maxRecDepth 20000 in
theorem ggX3_step_X3_isIn : GoodIn wsX3_step wsX3_isIn := goodIn_r _ [16] (by decide +kernel) (by decide +kernel)
set_option maxRecDepth 20000 in
theorem gX3_step_X3_isIn : GoodIn wsX3_step (va_wsS RX3 51 yX3_isIn wsX3_isIn) := goodIn_app (goodIn_of _ (by decide +kernel)) ggX3_step_X3_isIn
set_option maxRecDepth 20000 in
theorem ggX3_step_X3_no : GoodIn wsX3_step wsX3_no := goodIn_r _ [20, 1, 29, 30, 31, 32, 33, 34, 35, 36, 37, 38, 39, 40, 41, 42] (by decide +kernel) (by decide +kernel)
set_option maxRecDepth 20000 in
theorem gX3_step_X3_no : GoodIn wsX3_step (wsV RX3 64 RX3 yX3_no wsX3_no) := goodIn_app (goodIn_of _ (by decide +kernel)) ggX3_step_X3_no
set_option maxRecDepth 20000 in
theorem ggX3_step_X3_delay : GoodIn wsX3_step wsX3_delay := goodIn_r _ [24, 25, 29, 30, 31, 32, 33, 34, 35, 36, 37, 38, 39, 40, 41, 42] (by decide +kernel) (by decide +kernel)
set_option maxRecDepth 20000 in
theorem gX3_step_X3_delay : GoodIn wsX3_step (wsV RX3 76 RX3 yX3_delay wsX3_delay) := goodIn_app (goodIn_of _ (by decide +kernel)) ggX3_step_X3_delay
set_option maxRecDepth 20000 in
theorem ggX3_step_X3_at : GoodIn wsX3_step wsX3_at := goodIn_r _ [28] (by decide +kernel) (by decide +kernel)
set_option maxRecDepth 20000 in
theorem gX3_step_X3_at : GoodIn wsX3_step (va_wsS RX3 60 yX3_at wsX3_at) := goodIn_app (goodIn_of _ (by decide +kernel)) ggX3_step_X3_at
set_option maxRecDepth 20000 in
theorem ggX3_track_X3_isTrack : GoodIn wsX3_track wsX3_isTrack := goodIn_r _ [6, 7, 8, 9, 5, 10, 25, 26, 27, 28, 29, 30, 31, 32, 33, 34, 35, 36, 37, 38] (by decide +kernel) (by decide +kernel)
set_option maxRecDepth 20000 in
theorem gX3_track_X3_isTrack : GoodIn wsX3_track (wsV RX3 55 RX3 yX3_isTrack wsX3_isTrack) := goodIn_app (goodIn_of _ (by decide +kernel)) ggX3_track_X3_isTrack
set_option maxRecDepth 20000 in
theorem ggX3_track_X3_isIn : GoodIn wsX3_track wsX3_isIn := goodIn_r _ [10] (by decide +kernel) (by decide +kernel)
set_option maxRecDepth 20000 in
theorem gX3_track_X3_isIn : GoodIn wsX3_track (va_wsS RX3 51 yX3_isIn wsX3_isIn) := goodIn_app (goodIn_of _ (by decide +kernel)) ggX3_track_X3_isIn
set_option maxRecDepth 20000 in
theorem ggX3_track_X3_told : GoodIn wsX3_track wsX3_told := goodIn_r _ [14, 15, 16, 17, 18, 19, 20, 25, 26, 27, 28, 29, 30, 31, 32, 33, 34, 35, 36, 37, 38] (by decide +kernel) (by decide +kernel)
set_option maxRecDepth 20000 in
theorem gX3_track_X3_told : GoodIn wsX3_track (wsV RX3 79 RX3 yX3_told wsX3_told) := goodIn_app (goodIn_of _ (by decide +kernel)) ggX3_track_X3_told
set_option maxRecDepth 20000 in
theorem ggX3_track_X3_no : GoodIn wsX3_track wsX3_no := goodIn_r _ [24, 1, 25, 26, 27, 28, 29, 30, 31, 32, 33, 34, 35, 36, 37, 38] (by decide +kernel) (by decide +kernel)
set_option maxRecDepth 20000 in
theorem gX3_track_X3_no : GoodIn wsX3_track (wsV RX3 64 RX3 yX3_no wsX3_no) := goodIn_app (goodIn_of _ (by decide +kernel)) ggX3_track_X3_no
set_option maxRecDepth 20000 in
theorem ggX3_tune_X3_isTrack : GoodIn wsX3_tune wsX3_isTrack := goodIn_r _ [10, 11, 12, 13, 9, 14, 19, 20, 21, 22, 23, 24, 25, 26, 27, 28, 29, 30, 31, 32] (by decide +kernel) (by decide +kernel)
set_option maxRecDepth 20000 in
theorem gX3_tune_X3_isTrack : GoodIn wsX3_tune (wsV RX3 55 RX3 yX3_isTrack wsX3_isTrack) := goodIn_app (goodIn_of _ (by decide +kernel)) ggX3_tune_X3_isTrack
set_option maxRecDepth 20000 in
theorem ggX3_tune_X3_no : GoodIn wsX3_tune wsX3_no := goodIn_r _ [18, 1, 19, 20, 21, 22, 23, 24, 25, 26, 27, 28, 29, 30, 31, 32] (by decide +kernel) (by decide +kernel)
set_option maxRecDepth 20000 in
theorem gX3_tune_X3_no : GoodIn wsX3_tune (wsV RX3 64 RX3 yX3_no wsX3_no) := goodIn_app (goodIn_of _ (by decide +kernel)) ggX3_tune_X3_no
set_option maxRecDepth 20000 in
theorem ggX3_tune_X3_isIn : GoodIn wsX3_tune wsX3_isIn := goodIn_r _ [14] (by decide +kernel) (by decide +kernel)
set_option maxRecDepth 20000 in
theorem gX3_tune_X3_isIn : GoodIn wsX3_tune (va_wsS RX3 51 yX3_isIn wsX3_isIn) := goodIn_app (goodIn_of _ (by decide +kernel)) ggX3_tune_X3_isIn
set_option maxRecDepth 20000 in
theorem ggX3_turn_X3_isTrack : GoodIn wsX3_turn wsX3_isTrack := goodIn_r _ [7, 8, 9, 10, 6, 11, 12, 13, 14, 15, 16, 17, 18, 19, 20, 21, 22, 23, 24, 25] (by decide +kernel) (by decide +kernel)
set_option maxRecDepth 20000 in
theorem gX3_turn_X3_isTrack : GoodIn wsX3_turn (wsV RX3 55 RX3 yX3_isTrack wsX3_isTrack) := goodIn_app (goodIn_of _ (by decide +kernel)) ggX3_turn_X3_isTrack
set_option maxRecDepth 20000 in
theorem ggX3_turn_X3_isIn : GoodIn wsX3_turn wsX3_isIn := goodIn_r _ [11] (by decide +kernel) (by decide +kernel)
set_option maxRecDepth 20000 in
theorem gX3_turn_X3_isIn : GoodIn wsX3_turn (va_wsS RX3 51 yX3_isIn wsX3_isIn) := goodIn_app (goodIn_of _ (by decide +kernel)) ggX3_turn_X3_isIn
set_option maxRecDepth 20000 in
theorem ggX3_spread_X3_isTrack : GoodIn wsX3_spread wsX3_isTrack := goodIn_r _ [7, 8, 9, 10, 6, 11, 24, 25, 26, 27, 28, 29, 30, 31, 32, 33, 34, 35, 36, 37] (by decide +kernel) (by decide +kernel)
set_option maxRecDepth 20000 in
theorem gX3_spread_X3_isTrack : GoodIn wsX3_spread (wsV RX3 55 RX3 yX3_isTrack wsX3_isTrack) := goodIn_app (goodIn_of _ (by decide +kernel)) ggX3_spread_X3_isTrack
set_option maxRecDepth 20000 in
theorem ggX3_spread_X3_no : GoodIn wsX3_spread wsX3_no := goodIn_r _ [15, 1, 24, 25, 26, 27, 28, 29, 30, 31, 32, 33, 34, 35, 36, 37] (by decide +kernel) (by decide +kernel)
set_option maxRecDepth 20000 in
theorem gX3_spread_X3_no : GoodIn wsX3_spread (wsV RX3 64 RX3 yX3_no wsX3_no) := goodIn_app (goodIn_of _ (by decide +kernel)) ggX3_spread_X3_no
set_option maxRecDepth 20000 in
theorem ggX3_spread_X3_isIn : GoodIn wsX3_spread wsX3_isIn := goodIn_r _ [11] (by decide +kernel) (by decide +kernel)
set_option maxRecDepth 20000 in
theorem gX3_spread_X3_isIn : GoodIn wsX3_spread (va_wsS RX3 51 yX3_isIn wsX3_isIn) := goodIn_app (goodIn_of _ (by decide +kernel)) ggX3_spread_X3_isIn
set_option maxRecDepth 20000 in
theorem ggX3_spread_X3_plain : GoodIn wsX3_spread wsX3_plain := goodIn_r _ [19, 20, 21, 22, 6, 23, 24, 25, 26, 27, 28, 29, 30, 31, 32, 33, 34, 35, 36, 37] (by decide +kernel) (by decide +kernel)
set_option maxRecDepth 20000 in
theorem gX3_spread_X3_plain : GoodIn wsX3_spread (wsV RX3 68 RX3 yX3_plain wsX3_plain) := goodIn_app (goodIn_of _ (by decide +kernel)) ggX3_spread_X3_plain
set_option maxRecDepth 20000 in
theorem ggX3_take_X3_at : GoodIn wsX3_take wsX3_at := goodIn_r _ [10] (by decide +kernel) (by decide +kernel)
set_option maxRecDepth 20000 in
theorem gX3_take_X3_at : GoodIn wsX3_take (va_wsS RX3 60 yX3_at wsX3_at) := goodIn_app (goodIn_of _ (by decide +kernel)) ggX3_take_X3_at
set_option maxRecDepth 20000 in
theorem ggX3_loud_X3_at : GoodIn wsX3_loud wsX3_at := goodIn_r _ [6] (by decide +kernel) (by decide +kernel)
set_option maxRecDepth 20000 in
theorem gX3_loud_X3_at : GoodIn wsX3_loud (va_wsS RX3 60 yX3_at wsX3_at) := goodIn_app (goodIn_of _ (by decide +kernel)) ggX3_loud_X3_at
set_option maxRecDepth 20000 in
theorem ggX3_rotate_X3_isTrack : GoodIn wsX3_rotate wsX3_isTrack := goodIn_r _ [14, 15, 16, 17, 13, 18, 38, 39, 40, 41, 42, 43, 44, 45, 46, 47, 48, 49, 50, 51] (by decide +kernel) (by decide +kernel)
set_option maxRecDepth 20000 in
theorem gX3_rotate_X3_isTrack : GoodIn wsX3_rotate (wsV RX3 55 RX3 yX3_isTrack wsX3_isTrack) := goodIn_app (goodIn_of _ (by decide +kernel)) ggX3_rotate_X3_isTrack
set_option maxRecDepth 20000 in
theorem ggX3_rotate_X3_no : GoodIn wsX3_rotate wsX3_no := goodIn_r _ [22, 1, 38, 39, 40, 41, 42, 43, 44, 45, 46, 47, 48, 49, 50, 51] (by decide +kernel) (by decide +kernel)
set_option maxRecDepth 20000 in
theorem gX3_rotate_X3_no : GoodIn wsX3_rotate (wsV RX3 64 RX3 yX3_no wsX3_no) := goodIn_app (goodIn_of _ (by decide +kernel)) ggX3_rotate_X3_no
set_option maxRecDepth 20000 in
theorem ggX3_rotate_X3_isIn : GoodIn wsX3_rotate wsX3_isIn := goodIn_r _ [18] (by decide +kernel) (by decide +kernel)
set_option maxRecDepth 20000 in
theorem gX3_rotate_X3_isIn : GoodIn wsX3_rotate (va_wsS RX3 51 yX3_isIn wsX3_isIn) := goodIn_app (goodIn_of _ (by decide +kernel)) ggX3_rotate_X3_isIn
set_option maxRecDepth 20000 in
theorem ggX3_rotate_X3_take : GoodIn wsX3_rotate wsX3_take := goodIn_r _ [26, 2, 3, 27, 28, 29, 30, 31, 32, 13, 33, 38, 39, 40, 41, 42, 43, 44, 45, 46, 47, 48, 49, 50, 51] (by decide +kernel) (by decide +kernel)
set_option maxRecDepth 20000 in
theorem gX3_rotate_X3_take : GoodIn wsX3_rotate (wsV RX3 93 RX3 yX3_take wsX3_take) := goodIn_app (goodIn_of _ (by decide +kernel)) ggX3_rotate_X3_take
set_option maxRecDepth 20000 in
theorem ggX3_rotate_X3_loud : GoodIn wsX3_rotate wsX3_loud := goodIn_r _ [37, 2, 3, 31, 32, 13, 33, 38, 39, 40, 41, 42, 43, 44, 45, 46, 47, 48, 49, 50, 51] (by decide +kernel) (by decide +kernel)
set_option maxRecDepth 20000 in
theorem gX3_rotate_X3_loud : GoodIn wsX3_rotate (wsV RX3 97 RX3 yX3_loud wsX3_loud) := goodIn_app (goodIn_of _ (by decide +kernel)) ggX3_rotate_X3_loud
set_option maxRecDepth 20000 in
theorem ggX3_stretch_X3_isTrack : GoodIn wsX3_stretch wsX3_isTrack := goodIn_r _ [14, 15, 16, 17, 13, 18, 34, 35, 36, 37, 38, 39, 40, 41, 42, 43, 44, 45, 46, 47] (by decide +kernel) (by decide +kernel)
set_option maxRecDepth 20000 in
theorem gX3_stretch_X3_isTrack : GoodIn wsX3_stretch (wsV RX3 55 RX3 yX3_isTrack wsX3_isTrack) := goodIn_app (goodIn_of _ (by decide +kernel)) ggX3_stretch_X3_isTrack
set_option maxRecDepth 20000 in
theorem ggX3_stretch_X3_no : GoodIn wsX3_stretch wsX3_no := goodIn_r _ [22, 1, 34, 35, 36, 37, 38, 39, 40, 41, 42, 43, 44, 45, 46, 47] (by decide +kernel) (by decide +kernel)
set_option maxRecDepth 20000 in
theorem gX3_stretch_X3_no : GoodIn wsX3_stretch (wsV RX3 64 RX3 yX3_no wsX3_no) := goodIn_app (goodIn_of _ (by decide +kernel)) ggX3_stretch_X3_no
set_option maxRecDepth 20000 in
theorem ggX3_stretch_X3_isIn : GoodIn wsX3_stretch wsX3_isIn := goodIn_r _ [18] (by decide +kernel) (by decide +kernel)
set_option maxRecDepth 20000 in
theorem gX3_stretch_X3_isIn : GoodIn wsX3_stretch (va_wsS RX3 51 yX3_isIn wsX3_isIn) := goodIn_app (goodIn_of _ (by decide +kernel)) ggX3_stretch_X3_isIn
set_option maxRecDepth 20000 in
theorem ggX3_stretch_X3_take : GoodIn wsX3_stretch wsX3_take := goodIn_r _ [26, 2, 3, 27, 28, 29, 30, 31, 32, 13, 33, 34, 35, 36, 37, 38, 39, 40, 41, 42, 43, 44, 45, 46, 47] (by decide +kernel) (by decide +kernel)
set_option maxRecDepth 20000 in
theorem gX3_stretch_X3_take : GoodIn wsX3_stretch (wsV RX3 93 RX3 yX3_take wsX3_take) := goodIn_app (goodIn_of _ (by decide +kernel)) ggX3_stretch_X3_take
set_option maxRecDepth 20000 in
theorem ggX3_tap_X3_isTrack : GoodIn wsX3_tap wsX3_isTrack := goodIn_r _ [16, 17, 18, 19, 15, 20, 37, 38, 39, 40, 41, 42, 43, 44, 45, 46, 47, 48, 49, 50] (by decide +kernel) (by decide +kernel)
set_option maxRecDepth 20000 in
theorem gX3_tap_X3_isTrack : GoodIn wsX3_tap (wsV RX3 55 RX3 yX3_isTrack wsX3_isTrack) := goodIn_app (goodIn_of _ (by decide +kernel)) ggX3_tap_X3_isTrack
set_option maxRecDepth 20000 in
theorem ggX3_tap_X3_no : GoodIn wsX3_tap wsX3_no := goodIn_r _ [24, 1, 37, 38, 39, 40, 41, 42, 43, 44, 45, 46, 47, 48, 49, 50] (by decide +kernel) (by decide +kernel)
set_option maxRecDepth 20000 in
theorem gX3_tap_X3_no : GoodIn wsX3_tap (wsV RX3 64 RX3 yX3_no wsX3_no) := goodIn_app (goodIn_of _ (by decide +kernel)) ggX3_tap_X3_no
set_option maxRecDepth 20000 in
theorem ggX3_tap_X3_isTick : GoodIn wsX3_tap wsX3_isTick := goodIn_r _ [27, 28, 18, 19, 15, 20] (by decide +kernel) (by decide +kernel)
set_option maxRecDepth 20000 in
theorem gX3_tap_X3_isTick : GoodIn wsX3_tap (va_wsS RX3 100 yX3_isTick wsX3_isTick) := goodIn_app (goodIn_of _ (by decide +kernel)) ggX3_tap_X3_isTick
set_option maxRecDepth 20000 in
theorem ggX3_tap_X3_isIn : GoodIn wsX3_tap wsX3_isIn := goodIn_r _ [20] (by decide +kernel) (by decide +kernel)
set_option maxRecDepth 20000 in
theorem gX3_tap_X3_isIn : GoodIn wsX3_tap (va_wsS RX3 51 yX3_isIn wsX3_isIn) := goodIn_app (goodIn_of _ (by decide +kernel)) ggX3_tap_X3_isIn
set_option maxRecDepth 20000 in
theorem ggX3_tap_X3_delay : GoodIn wsX3_tap wsX3_delay := goodIn_r _ [32, 33, 37, 38, 39, 40, 41, 42, 43, 44, 45, 46, 47, 48, 49, 50] (by decide +kernel) (by decide +kernel)
set_option maxRecDepth 20000 in
theorem gX3_tap_X3_delay : GoodIn wsX3_tap (wsV RX3 76 RX3 yX3_delay wsX3_delay) := goodIn_app (goodIn_of _ (by decide +kernel)) ggX3_tap_X3_delay
set_option maxRecDepth 20000 in
theorem ggX3_tap_X3_at : GoodIn wsX3_tap wsX3_at := goodIn_r _ [36] (by decide +kernel) (by decide +kernel)
set_option maxRecDepth 20000 in
theorem gX3_tap_X3_at : GoodIn wsX3_tap (va_wsS RX3 60 yX3_at wsX3_at) := goodIn_app (goodIn_of _ (by decide +kernel)) ggX3_tap_X3_at
set_option maxRecDepth 20000 in
theorem ggX3_addSection_X3_isIn : GoodIn wsX3_addSection wsX3_isIn := goodIn_r _ [9] (by decide +kernel) (by decide +kernel)
set_option maxRecDepth 20000 in
theorem gX3_addSection_X3_isIn : GoodIn wsX3_addSection (va_wsS RX3 51 yX3_isIn wsX3_isIn) := goodIn_app (goodIn_of _ (by decide +kernel)) ggX3_addSection_X3_isIn
set_option maxRecDepth 20000 in
theorem ggX3_addSection_X3_no : GoodIn wsX3_addSection wsX3_no := goodIn_r _ [13, 1, 14, 15, 16, 17, 18, 19, 20, 21, 22, 23, 24, 25, 26, 27] (by decide +kernel) (by decide +kernel)
set_option maxRecDepth 20000 in
theorem gX3_addSection_X3_no : GoodIn wsX3_addSection (wsV RX3 64 RX3 yX3_no wsX3_no) := goodIn_app (goodIn_of _ (by decide +kernel)) ggX3_addSection_X3_no
set_option maxRecDepth 20000 in
theorem ggX3_dropSection_X3_no : GoodIn wsX3_dropSection wsX3_no := goodIn_r _ [7, 1, 8, 9, 10, 11, 12, 13, 14, 15, 16, 17, 18, 19, 20, 21] (by decide +kernel) (by decide +kernel)
set_option maxRecDepth 20000 in
theorem gX3_dropSection_X3_no : GoodIn wsX3_dropSection (wsV RX3 64 RX3 yX3_no wsX3_no) := goodIn_app (goodIn_of _ (by decide +kernel)) ggX3_dropSection_X3_no
set_option maxRecDepth 20000 in
theorem ggX3_sectionAt_X3_isTick : GoodIn wsX3_sectionAt wsX3_isTick := goodIn_r _ [5, 6, 7, 8, 4, 9] (by decide +kernel) (by decide +kernel)
set_option maxRecDepth 20000 in
theorem gX3_sectionAt_X3_isTick : GoodIn wsX3_sectionAt (va_wsS RX3 100 yX3_isTick wsX3_isTick) := goodIn_app (goodIn_of _ (by decide +kernel)) ggX3_sectionAt_X3_isTick
set_option maxRecDepth 20000 in
theorem ggX3_sectionAt_X3_section : GoodIn wsX3_sectionAt wsX3_section := goodIn_r _ [13, 14, 15, 20, 21, 22, 23, 24, 25, 26, 27, 28, 29, 30, 31, 32, 33] (by decide +kernel) (by decide +kernel)
set_option maxRecDepth 20000 in
theorem gX3_sectionAt_X3_section : GoodIn wsX3_sectionAt (wsV RX3 114 RX3 yX3_section wsX3_section) := goodIn_app (goodIn_of _ (by decide +kernel)) ggX3_sectionAt_X3_section
set_option maxRecDepth 20000 in
theorem ggX3_sectionAt_X3_no : GoodIn wsX3_sectionAt wsX3_no := goodIn_r _ [19, 1, 20, 21, 22, 23, 24, 25, 26, 27, 28, 29, 30, 31, 32, 33] (by decide +kernel) (by decide +kernel)
set_option maxRecDepth 20000 in
theorem gX3_sectionAt_X3_no : GoodIn wsX3_sectionAt (wsV RX3 64 RX3 yX3_no wsX3_no) := goodIn_app (goodIn_of _ (by decide +kernel)) ggX3_sectionAt_X3_no
set_option maxRecDepth 20000 in
theorem ggX3_strike_X3_isSilent : GoodIn wsX3_strike wsX3_isSilent := goodIn_r _ [12, 13, 14, 27, 28, 29, 30, 31, 32, 33, 34, 35, 36, 37, 38, 39, 40] (by decide +kernel) (by decide +kernel)
set_option maxRecDepth 20000 in
theorem gX3_strike_X3_isSilent : GoodIn wsX3_strike (wsV RX3 117 RX3 yX3_isSilent wsX3_isSilent) := goodIn_app (goodIn_of _ (by decide +kernel)) ggX3_strike_X3_isSilent
set_option maxRecDepth 20000 in
theorem ggX3_strike_X3_section : GoodIn wsX3_strike wsX3_section := goodIn_r _ [18, 1, 4, 27, 28, 29, 30, 31, 32, 33, 34, 35, 36, 37, 38, 39, 40] (by decide +kernel) (by decide +kernel)
set_option maxRecDepth 20000 in
theorem gX3_strike_X3_section : GoodIn wsX3_strike (wsV RX3 114 RX3 yX3_section wsX3_section) := goodIn_app (goodIn_of _ (by decide +kernel)) ggX3_strike_X3_section
set_option maxRecDepth 20000 in
theorem ggX3_strike_X3_at : GoodIn wsX3_strike wsX3_at := goodIn_r _ [21] (by decide +kernel) (by decide +kernel)
set_option maxRecDepth 20000 in
theorem gX3_strike_X3_at : GoodIn wsX3_strike (va_wsS RX3 60 yX3_at wsX3_at) := goodIn_app (goodIn_of _ (by decide +kernel)) ggX3_strike_X3_at
set_option maxRecDepth 20000 in
theorem ggX3_strike_X3_delay : GoodIn wsX3_strike wsX3_delay := goodIn_r _ [25, 26, 27, 28, 29, 30, 31, 32, 33, 34, 35, 36, 37, 38, 39, 40] (by decide +kernel) (by decide +kernel)
set_option maxRecDepth 20000 in
theorem gX3_strike_X3_delay : GoodIn wsX3_strike (wsV RX3 76 RX3 yX3_delay wsX3_delay) := goodIn_app (goodIn_of _ (by decide +kernel)) ggX3_strike_X3_delay
set_option maxRecDepth 20000 in
theorem ggX3_loud__X3_strike : GoodIn wsX3_loud_ wsX3_strike := goodIn_r _ [11, 12, 13, 14, 15, 16, 17, 18, 19, 20, 21, 10, 22, 2, 1, 23, 24, 25, 26, 27, 28, 29, 30, 31, 32, 33, 34, 35, 36, 37, 38, 39, 40, 41, 42, 43, 44, 45, 46, 47, 48] (by decide +kernel) (by decide +kernel)
set_option maxRecDepth 20000 in
theorem gX3_loud__X3_strike : GoodIn wsX3_loud_ (wsV RX3 120 RX3 yX3_strike wsX3_strike) := goodIn_app (goodIn_of _ (by decide +kernel)) ggX3_loud__X3_strike
set_option maxRecDepth 20000 in
theorem ggX3_hits_X3_strike : GoodIn wsX3_hits wsX3_strike := goodIn_r _ [6, 7, 8, 9, 10, 11, 12, 13, 14, 15, 16, 5, 17, 18, 1, 19, 20, 21, 22, 23, 24, 25, 26, 27, 28, 29, 30, 31, 32, 33, 34, 35, 36, 37, 38, 39, 40, 41, 42, 43, 44] (by decide +kernel) (by decide +kernel)
set_option maxRecDepth 20000 in
theorem gX3_hits_X3_strike : GoodIn wsX3_hits (wsV RX3 120 RX3 yX3_strike wsX3_strike) := goodIn_app (goodIn_of _ (by decide +kernel)) ggX3_hits_X3_strike
set_option maxRecDepth 20000 in
theorem ggX3_loudness_X3_isTrack : GoodIn wsX3_loudness wsX3_isTrack := goodIn_r _ [6, 7, 8, 9, 5, 10, 55, 56, 57, 58, 59, 60, 61, 62, 63, 64, 65, 66, 67, 68] (by decide +kernel) (by decide +kernel)
set_option maxRecDepth 20000 in
theorem gX3_loudness_X3_isTrack : GoodIn wsX3_loudness (wsV RX3 55 RX3 yX3_isTrack wsX3_isTrack) := goodIn_app (goodIn_of _ (by decide +kernel)) ggX3_loudness_X3_isTrack
set_option maxRecDepth 20000 in
theorem ggX3_loudness_X3_no : GoodIn wsX3_loudness wsX3_no := goodIn_r _ [14, 1, 55, 56, 57, 58, 59, 60, 61, 62, 63, 64, 65, 66, 67, 68] (by decide +kernel) (by decide +kernel)
set_option maxRecDepth 20000 in
theorem gX3_loudness_X3_no : GoodIn wsX3_loudness (wsV RX3 64 RX3 yX3_no wsX3_no) := goodIn_app (goodIn_of _ (by decide +kernel)) ggX3_loudness_X3_no
set_option maxRecDepth 20000 in
theorem ggX3_loudness_X3_isTick : GoodIn wsX3_loudness wsX3_isTick := goodIn_r _ [17, 18, 8, 9, 5, 10] (by decide +kernel) (by decide +kernel)
set_option maxRecDepth 20000 in
theorem gX3_loudness_X3_isTick : GoodIn wsX3_loudness (va_wsS RX3 100 yX3_isTick wsX3_isTick) := goodIn_app (goodIn_of _ (by decide +kernel)) ggX3_loudness_X3_isTick
set_option maxRecDepth 20000 in
theorem ggX3_loudness_X3_loud_ : GoodIn wsX3_loudness wsX3_loud_ := goodIn_r _ [22, 23, 7, 24, 25, 26, 27, 28, 29, 30, 5, 31, 32, 33, 34, 35, 36, 37, 38, 39, 40, 41, 42, 43, 44, 45, 46, 47, 48, 49, 50, 51, 52, 53, 54, 55, 56, 57, 58, 59, 60, 61, 62, 63, 64, 65, 66, 67, 68] (by decide +kernel) (by decide +kernel)
set_option maxRecDepth 20000 in
theorem gX3_loudness_X3_loud_ : GoodIn wsX3_loudness (wsV RX3 123 RX3 yX3_loud_ wsX3_loud_) := goodIn_app (goodIn_of _ (by decide +kernel)) ggX3_loudness_X3_loud_
set_option maxRecDepth 20000 in
theorem ggX3_hits__X3_isTick : GoodIn wsX3_hits_ wsX3_isTick := goodIn_r _ [6, 7, 8, 9, 5, 10] (by decide +kernel) (by decide +kernel)
set_option maxRecDepth 20000 in
theorem gX3_hits__X3_isTick : GoodIn wsX3_hits_ (va_wsS RX3 100 yX3_isTick wsX3_isTick) := goodIn_app (goodIn_of _ (by decide +kernel)) ggX3_hits__X3_isTick
set_option maxRecDepth 20000 in
theorem ggX3_hits__X3_no : GoodIn wsX3_hits_ wsX3_no := goodIn_r _ [14, 1, 47, 48, 49, 50, 51, 52, 53, 54, 55, 56, 57, 58, 59, 60] (by decide +kernel) (by decide +kernel)
set_option maxRecDepth 20000 in
theorem gX3_hits__X3_no : GoodIn wsX3_hits_ (wsV RX3 64 RX3 yX3_no wsX3_no) := goodIn_app (goodIn_of _ (by decide +kernel)) ggX3_hits__X3_no
set_option maxRecDepth 20000 in
theorem ggX3_hits__X3_hits : GoodIn wsX3_hits_ wsX3_hits := goodIn_r _ [18, 19, 20, 21, 22, 5, 23, 24, 25, 26, 27, 28, 29, 30, 31, 32, 33, 34, 2, 35, 36, 37, 38, 39, 40, 41, 42, 43, 44, 45, 46, 47, 48, 49, 50, 51, 52, 53, 54, 55, 56, 57, 58, 59, 60] (by decide +kernel) (by decide +kernel)
set_option maxRecDepth 20000 in
theorem gX3_hits__X3_hits : GoodIn wsX3_hits_ (wsV RX3 125 RX3 yX3_hits wsX3_hits) := goodIn_app (goodIn_of _ (by decide +kernel)) ggX3_hits__X3_hits
set_option maxRecDepth 20000 in
theorem ggX3_sounds_X3_hits : GoodIn wsX3_sounds wsX3_hits := goodIn_r _ [8, 9, 10, 11, 12, 7, 13, 14, 15, 16, 17, 18, 19, 20, 21, 22, 23, 24, 2, 25, 26, 27, 28, 29, 30, 31, 32, 33, 34, 35, 36, 37, 38, 39, 40, 41, 42, 43, 44, 45, 46, 47, 48, 49, 50] (by decide +kernel) (by decide +kernel)
set_option maxRecDepth 20000 in
theorem gX3_sounds_X3_hits : GoodIn wsX3_sounds (wsV RX3 125 RX3 yX3_hits wsX3_hits) := goodIn_app (goodIn_of _ (by decide +kernel)) ggX3_sounds_X3_hits
set_option maxRecDepth 20000 in
theorem ggX3_sounding_X3_isTick : GoodIn wsX3_sounding wsX3_isTick := goodIn_r _ [6, 7, 8, 9, 5, 10] (by decide +kernel) (by decide +kernel)
set_option maxRecDepth 20000 in
theorem gX3_sounding_X3_isTick : GoodIn wsX3_sounding (va_wsS RX3 100 yX3_isTick wsX3_isTick) := goodIn_app (goodIn_of _ (by decide +kernel)) ggX3_sounding_X3_isTick
set_option maxRecDepth 20000 in
theorem ggX3_sounding_X3_no : GoodIn wsX3_sounding wsX3_no := goodIn_r _ [14, 1, 53, 54, 55, 56, 57, 58, 59, 60, 61, 62, 63, 64, 65, 66] (by decide +kernel) (by decide +kernel)
set_option maxRecDepth 20000 in
theorem gX3_sounding_X3_no : GoodIn wsX3_sounding (wsV RX3 64 RX3 yX3_no wsX3_no) := goodIn_app (goodIn_of _ (by decide +kernel)) ggX3_sounding_X3_no
set_option maxRecDepth 20000 in
theorem ggX3_sounding_X3_sounds : GoodIn wsX3_sounding wsX3_sounds := goodIn_r _ [18, 19, 2, 20, 21, 22, 23, 5, 24, 25, 26, 27, 28, 29, 30, 31, 32, 33, 34, 35, 36, 37, 38, 39, 40, 41, 42, 43, 44, 45, 46, 47, 48, 49, 50, 51, 52, 53, 54, 55, 56, 57, 58, 59, 60, 61, 62, 63, 64, 65, 66] (by decide +kernel) (by decide +kernel)
set_option maxRecDepth 20000 in
theorem gX3_sounding_X3_sounds : GoodIn wsX3_sounding (wsV RX3 128 RX3 yX3_sounds wsX3_sounds) := goodIn_app (goodIn_of _ (by decide +kernel)) ggX3_sounding_X3_sounds
set_option maxRecDepth 20000 in
theorem ggX3_next_X3_isTrack : GoodIn wsX3_next wsX3_isTrack := goodIn_r _ [7, 8, 9, 10, 6, 11, 51, 52, 53, 54, 55, 56, 57, 58, 59, 60, 61, 62, 63, 64] (by decide +kernel) (by decide +kernel)
set_option maxRecDepth 20000 in
theorem gX3_next_X3_isTrack : GoodIn wsX3_next (wsV RX3 55 RX3 yX3_isTrack wsX3_isTrack) := goodIn_app (goodIn_of _ (by decide +kernel)) ggX3_next_X3_isTrack
set_option maxRecDepth 20000 in
theorem ggX3_next_X3_no : GoodIn wsX3_next wsX3_no := goodIn_r _ [15, 1, 51, 52, 53, 54, 55, 56, 57, 58, 59, 60, 61, 62, 63, 64] (by decide +kernel) (by decide +kernel)
set_option maxRecDepth 20000 in
theorem gX3_next_X3_no : GoodIn wsX3_next (wsV RX3 64 RX3 yX3_no wsX3_no) := goodIn_app (goodIn_of _ (by decide +kernel)) ggX3_next_X3_no
set_option maxRecDepth 20000 in
theorem ggX3_next_X3_isTick : GoodIn wsX3_next wsX3_isTick := goodIn_r _ [18, 2, 9, 10, 6, 11] (by decide +kernel) (by decide +kernel)
set_option maxRecDepth 20000 in
theorem gX3_next_X3_isTick : GoodIn wsX3_next (va_wsS RX3 100 yX3_isTick wsX3_isTick) := goodIn_app (goodIn_of _ (by decide +kernel)) ggX3_next_X3_isTick
set_option maxRecDepth 20000 in
theorem ggX3_next_X3_hits : GoodIn wsX3_next wsX3_hits := goodIn_r _ [22, 23, 24, 25, 26, 6, 27, 28, 29, 30, 31, 32, 33, 34, 35, 36, 37, 38, 8, 39, 40, 41, 42, 43, 44, 45, 46, 47, 48, 49, 50, 51, 52, 53, 54, 55, 56, 57, 58, 59, 60, 61, 62, 63, 64] (by decide +kernel) (by decide +kernel)
set_option maxRecDepth 20000 in
theorem gX3_next_X3_hits : GoodIn wsX3_next (wsV RX3 125 RX3 yX3_hits wsX3_hits) := goodIn_app (goodIn_of _ (by decide +kernel)) ggX3_next_X3_hits
set_option maxRecDepth 20000 in
theorem ggX3_isSpan_X3_isTick : GoodIn wsX3_isSpan wsX3_isTick := goodIn_r _ [4, 5, 6, 7, 3, 8] (by decide +kernel) (by decide +kernel)
set_option maxRecDepth 20000 in
theorem gX3_isSpan_X3_isTick : GoodIn wsX3_isSpan (va_wsS RX3 100 yX3_isTick wsX3_isTick) := goodIn_app (goodIn_of _ (by decide +kernel)) ggX3_isSpan_X3_isTick
set_option maxRecDepth 20000 in
theorem ggX3_isSpan_X3_isIn : GoodIn wsX3_isSpan wsX3_isIn := goodIn_r _ [8] (by decide +kernel) (by decide +kernel)
set_option maxRecDepth 20000 in
theorem gX3_isSpan_X3_isIn : GoodIn wsX3_isSpan (va_wsS RX3 51 yX3_isIn wsX3_isIn) := goodIn_app (goodIn_of _ (by decide +kernel)) ggX3_isSpan_X3_isIn
set_option maxRecDepth 20000 in
theorem ggX3_count_X3_isTrack : GoodIn wsX3_count wsX3_isTrack := goodIn_r _ [6, 7, 8, 9, 5, 10, 54, 55, 56, 57, 58, 59, 60, 61, 62, 63, 64, 65, 66, 67] (by decide +kernel) (by decide +kernel)
set_option maxRecDepth 20000 in
theorem gX3_count_X3_isTrack : GoodIn wsX3_count (wsV RX3 55 RX3 yX3_isTrack wsX3_isTrack) := goodIn_app (goodIn_of _ (by decide +kernel)) ggX3_count_X3_isTrack
set_option maxRecDepth 20000 in
theorem ggX3_count_X3_no : GoodIn wsX3_count wsX3_no := goodIn_r _ [14, 1, 54, 55, 56, 57, 58, 59, 60, 61, 62, 63, 64, 65, 66, 67] (by decide +kernel) (by decide +kernel)
set_option maxRecDepth 20000 in
theorem gX3_count_X3_no : GoodIn wsX3_count (wsV RX3 64 RX3 yX3_no wsX3_no) := goodIn_app (goodIn_of _ (by decide +kernel)) ggX3_count_X3_no
set_option maxRecDepth 20000 in
theorem ggX3_count_X3_isSpan : GoodIn wsX3_count wsX3_isSpan := goodIn_r _ [17, 18, 19, 5, 20, 21, 8, 9, 10] (by decide +kernel) (by decide +kernel)
set_option maxRecDepth 20000 in
theorem gX3_count_X3_isSpan : GoodIn wsX3_count (va_wsS RX3 131 yX3_isSpan wsX3_isSpan) := goodIn_app (goodIn_of _ (by decide +kernel)) ggX3_count_X3_isSpan
set_option maxRecDepth 20000 in
theorem ggX3_count_X3_hits : GoodIn wsX3_count wsX3_hits := goodIn_r _ [25, 26, 27, 28, 29, 5, 30, 31, 32, 33, 34, 35, 36, 37, 38, 39, 40, 41, 7, 42, 43, 44, 45, 46, 47, 48, 49, 50, 51, 52, 53, 54, 55, 56, 57, 58, 59, 60, 61, 62, 63, 64, 65, 66, 67] (by decide +kernel) (by decide +kernel)
set_option maxRecDepth 20000 in
theorem gX3_count_X3_hits : GoodIn wsX3_count (wsV RX3 125 RX3 yX3_hits wsX3_hits) := goodIn_app (goodIn_of _ (by decide +kernel)) ggX3_count_X3_hits
set_option maxRecDepth 20000 in
theorem ggX3_together_X3_isTrack : GoodIn wsX3_together wsX3_isTrack := goodIn_r _ [6, 7, 8, 9, 5, 10, 54, 55, 56, 57, 58, 59, 60, 61, 62, 63, 64, 65, 66, 67] (by decide +kernel) (by decide +kernel)
set_option maxRecDepth 20000 in
theorem gX3_together_X3_isTrack : GoodIn wsX3_together (wsV RX3 55 RX3 yX3_isTrack wsX3_isTrack) := goodIn_app (goodIn_of _ (by decide +kernel)) ggX3_together_X3_isTrack
set_option maxRecDepth 20000 in
theorem ggX3_together_X3_no : GoodIn wsX3_together wsX3_no := goodIn_r _ [14, 1, 54, 55, 56, 57, 58, 59, 60, 61, 62, 63, 64, 65, 66, 67] (by decide +kernel) (by decide +kernel)
set_option maxRecDepth 20000 in
theorem gX3_together_X3_no : GoodIn wsX3_together (wsV RX3 64 RX3 yX3_no wsX3_no) := goodIn_app (goodIn_of _ (by decide +kernel)) ggX3_together_X3_no
set_option maxRecDepth 20000 in
theorem ggX3_together_X3_isSpan : GoodIn wsX3_together wsX3_isSpan := goodIn_r _ [17, 18, 19, 5, 20, 21, 8, 9, 10] (by decide +kernel) (by decide +kernel)
set_option maxRecDepth 20000 in
theorem gX3_together_X3_isSpan : GoodIn wsX3_together (va_wsS RX3 131 yX3_isSpan wsX3_isSpan) := goodIn_app (goodIn_of _ (by decide +kernel)) ggX3_together_X3_isSpan
set_option maxRecDepth 20000 in
theorem ggX3_together_X3_hits : GoodIn wsX3_together wsX3_hits := goodIn_r _ [25, 26, 27, 28, 29, 5, 30, 31, 32, 33, 34, 35, 36, 37, 38, 39, 40, 41, 7, 42, 43, 44, 45, 46, 47, 48, 49, 50, 51, 52, 53, 54, 55, 56, 57, 58, 59, 60, 61, 62, 63, 64, 65, 66, 67] (by decide +kernel) (by decide +kernel)
set_option maxRecDepth 20000 in
theorem gX3_together_X3_hits : GoodIn wsX3_together (wsV RX3 125 RX3 yX3_hits wsX3_hits) := goodIn_app (goodIn_of _ (by decide +kernel)) ggX3_together_X3_hits
set_option maxRecDepth 20000 in
theorem ggX3_roundsOf_X3_at : GoodIn wsX3_roundsOf wsX3_at := goodIn_r _ [6] (by decide +kernel) (by decide +kernel)
set_option maxRecDepth 20000 in
theorem gX3_roundsOf_X3_at : GoodIn wsX3_roundsOf (va_wsS RX3 60 yX3_at wsX3_at) := goodIn_app (goodIn_of _ (by decide +kernel)) ggX3_roundsOf_X3_at
set_option maxRecDepth 20000 in
theorem ggX3_roundsOf_X3_divisor : GoodIn wsX3_roundsOf wsX3_divisor := goodIn_r _ [9] (by decide +kernel) (by decide +kernel)
set_option maxRecDepth 20000 in
theorem gX3_roundsOf_X3_divisor : GoodIn wsX3_roundsOf (va_wsS RX3 134 yX3_divisor wsX3_divisor) := goodIn_app (goodIn_of _ (by decide +kernel)) ggX3_roundsOf_X3_divisor
set_option maxRecDepth 20000 in
theorem ggX3_rounds_X3_isTrack : GoodIn wsX3_rounds wsX3_isTrack := goodIn_r _ [6, 7, 8, 9, 5, 10, 27, 28, 29, 30, 31, 32, 33, 34, 35, 36, 37, 38, 39, 40] (by decide +kernel) (by decide +kernel)
set_option maxRecDepth 20000 in
theorem gX3_rounds_X3_isTrack : GoodIn wsX3_rounds (wsV RX3 55 RX3 yX3_isTrack wsX3_isTrack) := goodIn_app (goodIn_of _ (by decide +kernel)) ggX3_rounds_X3_isTrack
set_option maxRecDepth 20000 in
theorem ggX3_rounds_X3_roundsOf : GoodIn wsX3_rounds wsX3_roundsOf := goodIn_r _ [14, 15, 16, 17, 18, 5, 19, 20, 21, 22, 27, 28, 29, 30, 31, 32, 33, 34, 35, 36, 37, 38, 39, 40] (by decide +kernel) (by decide +kernel)
set_option maxRecDepth 20000 in
theorem gX3_rounds_X3_roundsOf : GoodIn wsX3_rounds (wsV RX3 138 RX3 yX3_roundsOf wsX3_roundsOf) := goodIn_app (goodIn_of _ (by decide +kernel)) ggX3_rounds_X3_roundsOf
set_option maxRecDepth 20000 in
theorem ggX3_rounds_X3_no : GoodIn wsX3_rounds wsX3_no := goodIn_r _ [26, 1, 27, 28, 29, 30, 31, 32, 33, 34, 35, 36, 37, 38, 39, 40] (by decide +kernel) (by decide +kernel)
set_option maxRecDepth 20000 in
theorem gX3_rounds_X3_no : GoodIn wsX3_rounds (wsV RX3 64 RX3 yX3_no wsX3_no) := goodIn_app (goodIn_of _ (by decide +kernel)) ggX3_rounds_X3_no
set_option maxRecDepth 20000 in
theorem ggX3_period_X3_roundsOf : GoodIn wsX3_period wsX3_roundsOf := goodIn_r _ [11, 3, 12, 13, 14, 10, 15, 16, 17, 18, 19, 20, 21, 22, 23, 24, 25, 26, 27, 28, 29, 30, 31, 32] (by decide +kernel) (by decide +kernel)
set_option maxRecDepth 20000 in
theorem gX3_period_X3_roundsOf : GoodIn wsX3_period (wsV RX3 138 RX3 yX3_roundsOf wsX3_roundsOf) := goodIn_app (goodIn_of _ (by decide +kernel)) ggX3_period_X3_roundsOf
set_option maxRecDepth 20000 in
theorem ggX3_period_X3_divisor : GoodIn wsX3_period wsX3_divisor := goodIn_r _ [18] (by decide +kernel) (by decide +kernel)
set_option maxRecDepth 20000 in
theorem gX3_period_X3_divisor : GoodIn wsX3_period (va_wsS RX3 134 yX3_divisor wsX3_divisor) := goodIn_app (goodIn_of _ (by decide +kernel)) ggX3_period_X3_divisor
set_option maxRecDepth 20000 in
theorem ggX3_density_X3_isTrack : GoodIn wsX3_density wsX3_isTrack := goodIn_r _ [8, 9, 10, 11, 7, 12, 16, 17, 18, 19, 20, 21, 22, 23, 24, 25, 26, 27, 28, 29] (by decide +kernel) (by decide +kernel)
set_option maxRecDepth 20000 in
theorem gX3_density_X3_isTrack : GoodIn wsX3_density (wsV RX3 55 RX3 yX3_isTrack wsX3_isTrack) := goodIn_app (goodIn_of _ (by decide +kernel)) ggX3_density_X3_isTrack
set_option maxRecDepth 20000 in
theorem ggX3_density_X3_at : GoodIn wsX3_density wsX3_at := goodIn_r _ [15] (by decide +kernel) (by decide +kernel)
set_option maxRecDepth 20000 in
theorem gX3_density_X3_at : GoodIn wsX3_density (va_wsS RX3 60 yX3_at wsX3_at) := goodIn_app (goodIn_of _ (by decide +kernel)) ggX3_density_X3_at
set_option maxRecDepth 20000 in
theorem ggX3_setSpeed_X3_isIn : GoodIn wsX3_setSpeed wsX3_isIn := goodIn_r _ [6] (by decide +kernel) (by decide +kernel)
set_option maxRecDepth 20000 in
theorem gX3_setSpeed_X3_isIn : GoodIn wsX3_setSpeed (va_wsS RX3 51 yX3_isIn wsX3_isIn) := goodIn_app (goodIn_of _ (by decide +kernel)) ggX3_setSpeed_X3_isIn
set_option maxRecDepth 20000 in
theorem ggX3_setSpeed_X3_no : GoodIn wsX3_setSpeed wsX3_no := goodIn_r _ [10, 1, 11, 12, 13, 14, 15, 16, 17, 18, 19, 20, 21, 22, 23, 24] (by decide +kernel) (by decide +kernel)
set_option maxRecDepth 20000 in
theorem gX3_setSpeed_X3_no : GoodIn wsX3_setSpeed (wsV RX3 64 RX3 yX3_no wsX3_no) := goodIn_app (goodIn_of _ (by decide +kernel)) ggX3_setSpeed_X3_no
set_option maxRecDepth 20000 in
theorem ggX3_seconds_X3_isTick : GoodIn wsX3_seconds wsX3_isTick := goodIn_r _ [8, 9, 10, 11, 7, 12] (by decide +kernel) (by decide +kernel)
set_option maxRecDepth 20000 in
theorem gX3_seconds_X3_isTick : GoodIn wsX3_seconds (va_wsS RX3 100 yX3_isTick wsX3_isTick) := goodIn_app (goodIn_of _ (by decide +kernel)) ggX3_seconds_X3_isTick
set_option maxRecDepth 20000 in
theorem ggX3_digest_X3_told : GoodIn wsX3_digest wsX3_told := goodIn_r _ [16, 6, 17, 18, 19, 20, 21, 25, 26, 27, 28, 29, 30, 31, 32, 33, 34, 35, 36, 37, 38] (by decide +kernel) (by decide +kernel)
set_option maxRecDepth 20000 in
theorem gX3_digest_X3_told : GoodIn wsX3_digest (wsV RX3 79 RX3 yX3_told wsX3_told) := goodIn_app (goodIn_of _ (by decide +kernel)) ggX3_digest_X3_told
set_option maxRecDepth 20000 in
theorem ggX3_digest_X3_at : GoodIn wsX3_digest wsX3_at := goodIn_r _ [24] (by decide +kernel) (by decide +kernel)
set_option maxRecDepth 20000 in
theorem gX3_digest_X3_at : GoodIn wsX3_digest (va_wsS RX3 60 yX3_at wsX3_at) := goodIn_app (goodIn_of _ (by decide +kernel)) ggX3_digest_X3_at
