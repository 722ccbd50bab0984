set_option maxRecDepth 20000 in
theorem ggL_tracks_L_cell : GoodIn wsL_tracks wsL_cell := goodIn_r _ [4, 5] (by decide +kernel) (by decide +kernel)
set_option maxRecDepth 20000 in
theorem gL_tracks_L_cell : GoodIn wsL_tracks (va_wsS RL 9 yL_cell wsL_cell) := goodIn_app (goodIn_of _ (by decide +kernel)) ggL_tracks_L_cell
set_option maxRecDepth 20000 in
theorem ggL_tracks_L_below : GoodIn wsL_tracks wsL_below := goodIn_r _ [8, 9] (by decide +kernel) (by decide +kernel)
set_option maxRecDepth 20000 in
theorem gL_tracks_L_below : GoodIn wsL_tracks (va_wsS RL 15 yL_below wsL_below) := goodIn_app (goodIn_of _ (by decide +kernel)) ggL_tracks_L_below
set_option maxRecDepth 20000 in
theorem ggL_tracks_X2_addTrack : GoodIn wsL_tracks wsX2_addTrack := goodIn_ca (goodIn_ca (goodIn_r _ [14, 15, 16, 17, 18, 19, 20, 21, 22, 23, 13, 24, 25, 26, 27, 28, 29, 30, 31, 32, 33, 34, 35, 36, 37, 38, 39, 40, 41, 42, 43, 44, 45, 46, 47, 48, 49, 50, 51, 52, 53, 54, 55, 90, 91, 92, 93, 94, 95, 96, 97, 98, 99, 100, 101, 102, 103, 104] (by decide +kernel) (by decide +kernel)) (goodIn_sub (fun _ h => List.mem_cons_of_mem _ (List.mem_append_left _ (List.mem_append_left _ (List.mem_append_right _ h)))) (by decide +kernel))) (goodIn_sub (fun _ h => List.mem_cons_of_mem _ (List.mem_append_left _ (List.mem_append_right _ h))) (by decide +kernel))
set_option maxRecDepth 20000 in
theorem gL_tracks_X2_addTrack : GoodIn wsL_tracks (wsV RL 19 RX2 yX2_addTrack wsX2_addTrack) := goodIn_app (goodIn_of _ (by decide +kernel)) ggL_tracks_X2_addTrack
set_option maxRecDepth 20000 in
theorem ggL_tracks_X2_tune : GoodIn wsL_tracks wsX2_tune := goodIn_ca (goodIn_ca (goodIn_r _ [59, 60, 61, 62, 13, 63, 64, 65, 66, 67, 68, 69, 18, 22, 23, 24, 25, 26, 27, 28, 29, 95, 96, 97, 98, 99, 100, 101, 102, 103, 104, 90, 91, 92, 93, 94] (by decide +kernel) (by decide +kernel)) (goodIn_sub (fun _ h => List.mem_cons_of_mem _ (List.mem_append_right _ h)) (by decide +kernel))) (goodIn_sub (fun _ h => List.mem_cons_of_mem _ (List.mem_append_left _ (List.mem_append_right _ h))) (by decide +kernel))
set_option maxRecDepth 20000 in
theorem gL_tracks_X2_tune : GoodIn wsL_tracks (wsV RL 24 RX2 yX2_tune wsX2_tune) := goodIn_app (goodIn_of _ (by decide +kernel)) ggL_tracks_X2_tune
set_option maxRecDepth 20000 in
theorem ggL_tracks_X2_set : GoodIn wsL_tracks wsX2_set := goodIn_ca (goodIn_ca (goodIn_r _ [73, 74, 75, 76, 13, 77, 60, 61, 62, 63, 64, 65, 66, 67, 68, 69, 18, 22, 23, 24, 78, 79, 80, 25, 26, 27, 28, 29, 81, 21, 82, 83, 42, 84, 85, 51, 52, 53, 54, 55, 95, 96, 97, 98, 99, 100, 101, 102, 103, 104, 90, 91, 92, 93, 94] (by decide +kernel) (by decide +kernel)) (goodIn_sub (fun _ h => List.mem_cons_of_mem _ (List.mem_append_right _ h)) (by decide +kernel))) (goodIn_sub (fun _ h => List.mem_cons_of_mem _ (List.mem_append_left _ (List.mem_append_right _ h))) (by decide +kernel))
set_option maxRecDepth 20000 in
theorem gL_tracks_X2_set : GoodIn wsL_tracks (wsV RL 28 RX2 yX2_set wsX2_set) := goodIn_app (goodIn_of _ (by decide +kernel)) ggL_tracks_X2_set
set_option maxRecDepth 20000 in
theorem ggL_tracks_X2_setTurn : GoodIn wsL_tracks wsX2_setTurn := goodIn_ca (goodIn_ca (goodIn_r _ [89, 74, 75, 76, 13, 77, 60, 61, 62, 63, 64, 65, 66, 67, 68, 69, 18, 22, 23, 24, 78, 79, 80, 25, 26, 27, 28, 29, 81, 21, 82, 83, 42, 84, 85, 51, 52, 53, 54, 55, 95, 96, 97, 98, 99, 100, 101, 102, 103, 104, 90, 91, 92, 93, 94] (by decide +kernel) (by decide +kernel)) (goodIn_sub (fun _ h => List.mem_cons_of_mem _ (List.mem_append_right _ h)) (by decide +kernel))) (goodIn_sub (fun _ h => List.mem_cons_of_mem _ (List.mem_append_left _ (List.mem_append_right _ h))) (by decide +kernel))
set_option maxRecDepth 20000 in
theorem gL_tracks_X2_setTurn : GoodIn wsL_tracks (wsV RL 31 RX2 yX2_setTurn wsX2_setTurn) := goodIn_app (goodIn_of _ (by decide +kernel)) ggL_tracks_X2_setTurn
set_option maxRecDepth 20000 in
theorem ggL_law_X2_init : GoodIn wsL_law wsX2_init := goodIn_r _ [6, 7, 8, 9, 10, 11, 12, 13, 14, 15, 16, 267, 268, 269, 270, 271] (by decide +kernel) (by decide +kernel)
set_option maxRecDepth 20000 in
theorem gL_law_X2_init : GoodIn wsL_law (wsX2_init) := ggL_law_X2_init
set_option maxRecDepth 20000 in
theorem ggL_law_L_cell : GoodIn wsL_law wsL_cell := goodIn_r _ [20, 21] (by decide +kernel) (by decide +kernel)
set_option maxRecDepth 20000 in
theorem gL_law_L_cell : GoodIn wsL_law (va_wsS RL 9 yL_cell wsL_cell) := goodIn_app (goodIn_of _ (by decide +kernel)) ggL_law_L_cell
set_option maxRecDepth 20000 in
theorem ggL_law_L_below : GoodIn wsL_law wsL_below := goodIn_r _ [24, 25] (by decide +kernel) (by decide +kernel)
set_option maxRecDepth 20000 in
theorem gL_law_L_below : GoodIn wsL_law (va_wsS RL 15 yL_below wsL_below) := goodIn_app (goodIn_of _ (by decide +kernel)) ggL_law_L_below
set_option maxRecDepth 20000 in
theorem ggL_law_L_tracks : GoodIn wsL_law wsL_tracks := goodIn_ca (goodIn_ca (goodIn_ca (goodIn_r _ [28, 17, 18, 19, 20, 21, 22, 23, 24, 25, 29, 30, 31, 2, 32, 33, 34, 12, 11, 10, 35, 36, 37, 38, 39, 40, 41, 42, 43, 44, 45, 46, 47, 8, 9, 48, 49, 50, 51, 52, 53, 3, 54, 55, 56, 57, 58, 59, 60, 61, 62, 63, 64, 65, 66, 67, 68, 69, 70, 71, 72, 73, 74, 75, 76, 77, 78, 79, 80, 81, 82, 83, 84, 85, 86, 87, 88, 89, 90, 91, 92, 93, 94, 95, 96, 97, 98, 99, 100, 101, 267, 268, 269, 270, 271, 272, 273, 274, 275, 276, 277, 278, 279, 280, 281] (by decide +kernel) (by decide +kernel)) (goodIn_sub (fun _ h => List.mem_append_left _ (List.mem_append_left _ (List.mem_append_right _ h))) (by decide +kernel))) (goodIn_sub (fun _ h => List.mem_append_left _ (List.mem_append_right _ h)) (by decide +kernel))) (goodIn_sub (fun _ h => List.mem_append_right _ h) (by decide +kernel))
set_option maxRecDepth 20000 in
theorem gL_law_L_tracks : GoodIn wsL_law (va_wsS RL 35 yL_tracks wsL_tracks) := goodIn_app (goodIn_of _ (by decide +kernel)) ggL_law_L_tracks
set_option maxRecDepth 20000 in
theorem ggL_law_X2_addSection : GoodIn wsL_law wsX2_addSection := goodIn_ca (goodIn_ca (goodIn_r _ [105, 33, 34, 15, 14, 13, 106, 107, 37, 38, 2, 39, 40, 41, 42, 43, 44, 108, 109, 110, 111, 112, 113, 114, 115, 116, 117, 118, 8, 9, 119, 120, 121, 122, 267, 268, 269, 270, 271, 282, 283, 284, 285] (by decide +kernel) (by decide +kernel)) (goodIn_sub (fun _ h => List.mem_append_left _ (List.mem_append_left _ (List.mem_append_right _ h))) (by decide +kernel))) (goodIn_sub (fun _ h => List.mem_append_left _ (List.mem_append_right _ h)) (by decide +kernel))
set_option maxRecDepth 20000 in
theorem gL_law_X2_addSection : GoodIn wsL_law (wsV RL 39 RX2 yX2_addSection wsX2_addSection) := goodIn_app (goodIn_of _ (by decide +kernel)) ggL_law_X2_addSection
set_option maxRecDepth 20000 in
theorem ggL_law_X2_track : GoodIn wsL_law wsX2_track := goodIn_ca (goodIn_r _ [126, 72, 73, 74, 2, 75, 76, 77, 78, 79, 80, 81, 11, 37, 38, 39, 90, 91, 92, 127, 36, 128, 129, 56, 57, 48, 49, 50, 51, 52, 53, 267, 268, 269, 270, 271, 272, 273, 274, 275, 276, 277, 278, 279, 280, 281] (by decide +kernel) (by decide +kernel)) (goodIn_sub (fun _ h => List.mem_append_right _ h) (by decide +kernel))
set_option maxRecDepth 20000 in
theorem gL_law_X2_track : GoodIn wsL_law (wsV RL 43 RX2 yX2_track wsX2_track) := goodIn_app (goodIn_of _ (by decide +kernel)) ggL_law_X2_track
set_option maxRecDepth 20000 in
theorem ggL_law_X2_turn : GoodIn wsL_law wsX2_turn := goodIn_ca (goodIn_r _ [133, 72, 73, 74, 2, 75, 76, 77, 78, 79, 80, 81, 11, 37, 38, 39, 90, 91, 92, 127, 36, 128, 129, 56, 57, 48, 49, 50, 51, 52, 53, 134, 135, 136, 267, 268, 269, 270, 271, 272, 273, 274, 275, 276, 277, 278, 279, 280, 281] (by decide +kernel) (by decide +kernel)) (goodIn_sub (fun _ h => List.mem_append_right _ h) (by decide +kernel))
set_option maxRecDepth 20000 in
theorem gL_law_X2_turn : GoodIn wsL_law (wsV RL 46 RX2 yX2_turn wsX2_turn) := goodIn_app (goodIn_of _ (by decide +kernel)) ggL_law_X2_turn
set_option maxRecDepth 20000 in
theorem ggL_law_X2_hits : GoodIn wsL_law wsX2_hits := goodIn_ca (goodIn_r _ [140, 141, 142, 2, 143, 144, 37, 38, 39, 40, 41, 42, 43, 44, 145, 146, 147, 148, 12, 149, 150, 151, 152, 78, 79, 80, 81, 11, 153, 154, 155, 156, 157, 158, 159, 160, 161, 162, 163, 164, 165, 166, 167, 168, 15, 169, 170, 171, 172, 112, 113, 114, 115, 14, 173, 174, 175, 176, 36, 177, 178, 57, 179, 180, 181, 182, 56, 183, 184, 185, 186, 187, 93, 94, 95, 54, 96, 97, 188, 189, 190, 191, 48, 192, 193, 194, 267, 268, 269, 270, 271, 272, 273, 274, 275, 276, 277, 278, 279, 280, 281, 282, 283, 284, 285] (by decide +kernel) (by decide +kernel)) (goodIn_sub (fun _ h => List.mem_append_left _ (List.mem_append_right _ h)) (by decide +kernel))
set_option maxRecDepth 20000 in
theorem gL_law_X2_hits : GoodIn wsL_law (wsV RL 50 RX2 yX2_hits wsX2_hits) := goodIn_app (goodIn_of _ (by decide +kernel)) ggL_law_X2_hits
set_option maxRecDepth 20000 in
theorem ggL_law_X2_sounding : GoodIn wsL_law wsX2_sounding := goodIn_ca (goodIn_r _ [198, 12, 141, 142, 2, 143, 144, 37, 38, 39, 40, 41, 42, 43, 44, 145, 146, 147, 148, 149, 150, 151, 152, 78, 79, 80, 81, 11, 153, 154, 155, 156, 157, 158, 159, 160, 161, 162, 163, 164, 165, 166, 167, 168, 15, 169, 170, 171, 172, 112, 113, 114, 115, 14, 173, 174, 175, 176, 36, 177, 178, 57, 179, 180, 181, 182, 56, 183, 184, 185, 186, 187, 93, 94, 95, 54, 96, 97, 188, 189, 190, 191, 48, 192, 193, 194, 199, 200, 201, 202, 267, 268, 269, 270, 271, 272, 273, 274, 275, 276, 277, 278, 279, 280, 281, 282, 283, 284, 285] (by decide +kernel) (by decide +kernel)) (goodIn_sub (fun _ h => List.mem_append_left _ (List.mem_append_right _ h)) (by decide +kernel))
set_option maxRecDepth 20000 in
theorem gL_law_X2_sounding : GoodIn wsL_law (wsV RL 54 RX2 yX2_sounding wsX2_sounding) := goodIn_app (goodIn_of _ (by decide +kernel)) ggL_law_X2_sounding
set_option maxRecDepth 20000 in
theorem ggL_law_X2_loudness : GoodIn wsL_law wsX2_loudness := goodIn_ca (goodIn_ca (goodIn_r _ [206, 207, 208, 209, 210, 72, 73, 74, 2, 75, 76, 77, 78, 79, 80, 81, 11, 141, 142, 143, 144, 37, 38, 39, 40, 41, 42, 43, 44, 149, 150, 151, 152, 153, 154, 155, 156, 157, 158, 159, 160, 161, 162, 163, 164, 12, 165, 166, 167, 168, 15, 169, 170, 171, 172, 112, 113, 114, 115, 14, 173, 174, 175, 176, 36, 177, 178, 57, 179, 180, 181, 182, 56, 183, 184, 185, 186, 187, 93, 94, 95, 54, 96, 97, 188, 189, 190, 191, 48, 192, 193, 194, 211, 212, 213, 214, 267, 268, 269, 270, 271, 272, 273, 274, 275, 276, 277, 278, 279, 280, 281, 282, 283, 284, 285] (by decide +kernel) (by decide +kernel)) (goodIn_sub (fun _ h => List.mem_append_right _ h) (by decide +kernel))) (goodIn_sub (fun _ h => List.mem_append_left _ (List.mem_append_right _ h)) (by decide +kernel))
set_option maxRecDepth 20000 in
theorem gL_law_X2_loudness : GoodIn wsL_law (wsV RL 57 RX2 yX2_loudness wsX2_loudness) := goodIn_app (goodIn_of _ (by decide +kernel)) ggL_law_X2_loudness
set_option maxRecDepth 20000 in
theorem ggL_law_X2_count : GoodIn wsL_law wsX2_count := goodIn_ca (goodIn_ca (goodIn_r _ [218, 72, 73, 74, 2, 75, 76, 77, 78, 79, 80, 81, 11, 219, 220, 221, 141, 142, 143, 144, 37, 38, 39, 40, 41, 42, 43, 44, 222, 223, 224, 225, 149, 150, 151, 152, 153, 154, 155, 156, 157, 158, 159, 160, 161, 162, 163, 164, 12, 165, 166, 167, 168, 15, 169, 170, 171, 172, 112, 113, 114, 115, 14, 173, 174, 175, 176, 36, 177, 178, 57, 179, 180, 181, 182, 56, 183, 184, 185, 186, 187, 93, 94, 95, 54, 96, 97, 188, 189, 190, 191, 48, 192, 193, 194, 267, 268, 269, 270, 271, 272, 273, 274, 275, 276, 277, 278, 279, 280, 281, 282, 283, 284, 285] (by decide +kernel) (by decide +kernel)) (goodIn_sub (fun _ h => List.mem_append_right _ h) (by decide +kernel))) (goodIn_sub (fun _ h => List.mem_append_left _ (List.mem_append_right _ h)) (by decide +kernel))
set_option maxRecDepth 20000 in
theorem gL_law_X2_count : GoodIn wsL_law (wsV RL 60 RX2 yX2_count wsX2_count) := goodIn_app (goodIn_of _ (by decide +kernel)) ggL_law_X2_count
set_option maxRecDepth 20000 in
theorem ggL_law_X2_next : GoodIn wsL_law wsX2_next := goodIn_ca (goodIn_ca (goodIn_r _ [229, 144, 207, 208, 209, 210, 72, 73, 74, 2, 75, 76, 77, 78, 79, 80, 81, 11, 141, 142, 143, 37, 38, 39, 40, 41, 42, 43, 44, 149, 150, 151, 152, 153, 154, 155, 156, 157, 158, 159, 160, 161, 162, 163, 164, 12, 165, 166, 167, 168, 15, 169, 170, 171, 172, 112, 113, 114, 115, 14, 173, 174, 175, 176, 36, 177, 178, 57, 179, 180, 181, 182, 56, 183, 184, 185, 186, 187, 93, 94, 95, 54, 96, 97, 188, 189, 190, 191, 48, 192, 193, 194, 267, 268, 269, 270, 271, 272, 273, 274, 275, 276, 277, 278, 279, 280, 281, 282, 283, 284, 285] (by decide +kernel) (by decide +kernel)) (goodIn_sub (fun _ h => List.mem_append_right _ h) (by decide +kernel))) (goodIn_sub (fun _ h => List.mem_append_left _ (List.mem_append_right _ h)) (by decide +kernel))
set_option maxRecDepth 20000 in
theorem gL_law_X2_next : GoodIn wsL_law (wsV RL 64 RX2 yX2_next wsX2_next) := goodIn_app (goodIn_of _ (by decide +kernel)) ggL_law_X2_next
set_option maxRecDepth 20000 in
theorem ggL_law_X2_digest : GoodIn wsL_law wsX2_digest := goodIn_r _ [233, 234, 16, 12, 15, 235, 236, 2, 237, 238, 78, 79, 80, 81, 11, 239, 36, 240, 241, 56, 242, 127, 128, 129, 57, 48, 49, 50, 51, 52, 53, 187, 93, 94, 95, 54, 96, 97, 112, 113, 114, 115, 14, 267, 268, 269, 270, 271, 282, 283, 284, 285, 272, 273, 274, 275, 276, 277, 278, 279, 280, 281] (by decide +kernel) (by decide +kernel)
set_option maxRecDepth 20000 in
theorem gL_law_X2_digest : GoodIn wsL_law (wsV RL 67 RX2 yX2_digest wsX2_digest) := goodIn_app (goodIn_of _ (by decide +kernel)) ggL_law_X2_digest
set_option maxRecDepth 20000 in
theorem ggL_law_X2_rotate : GoodIn wsL_law wsX2_rotate := goodIn_ca (goodIn_ca (goodIn_r _ [246, 72, 73, 74, 2, 75, 76, 77, 78, 79, 80, 81, 11, 37, 38, 39, 40, 41, 42, 43, 44, 247, 36, 248, 249, 54, 55, 250, 251, 252, 253, 56, 185, 186, 254, 255, 256, 257, 96, 97, 62, 63, 64, 65, 66, 67, 258, 259, 260, 187, 93, 94, 95, 267, 268, 269, 270, 271, 272, 273, 274, 275, 276, 277, 278, 279, 280, 281] (by decide +kernel) (by decide +kernel)) (goodIn_sub (fun _ h => List.mem_append_right _ h) (by decide +kernel))) (goodIn_sub (fun _ h => List.mem_append_left _ (List.mem_append_right _ h)) (by decide +kernel))
set_option maxRecDepth 20000 in
theorem gL_law_X2_rotate : GoodIn wsL_law (wsV RL 71 RX2 yX2_rotate wsX2_rotate) := goodIn_app (goodIn_of _ (by decide +kernel)) ggL_law_X2_rotate
set_option maxRecDepth 20000 in
theorem ggL_law_X2_seconds : GoodIn wsL_law wsX2_seconds := goodIn_ca (goodIn_r _ [264, 265, 16, 266, 141, 142, 2, 143, 144, 37, 38, 39, 40, 41, 42, 43, 44, 267, 268, 269, 270, 271] (by decide +kernel) (by decide +kernel)) (goodIn_sub (fun _ h => List.mem_append_left _ (List.mem_append_right _ h)) (by decide +kernel))
set_option maxRecDepth 20000 in
theorem gL_law_X2_seconds : GoodIn wsL_law (wsV RL 74 RX2 yX2_seconds wsX2_seconds) := goodIn_app (goodIn_of _ (by decide +kernel)) ggL_law_X2_seconds
