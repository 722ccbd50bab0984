set_option maxRecDepth 20000 in
theorem ggL_law_X2_init : GoodIn wsL_law wsX2_init := goodIn_r _ [10, 11, 12, 13, 14, 15, 16, 17, 18, 19, 20, 642, 643, 644, 645, 646] (by decide +kernel) (by decide +kernel)
set_option maxRecDepth 20000 in
theorem gL_law_X2_init : GoodIn wsL_law (wsX2_init) := ggL_law_X2_init
set_option maxRecDepth 20000 in
theorem ggL_law_X3_init : GoodIn wsL_law wsX3_init := goodIn_r _ [23, 24, 12, 13, 25, 26, 27, 28, 29, 30, 31, 32, 33, 34, 35, 36, 37, 647, 648, 649, 650, 651, 652, 653, 654, 655, 656, 657, 658, 659, 660] (by decide +kernel) (by decide +kernel)
set_option maxRecDepth 20000 in
theorem gL_law_X3_init : GoodIn wsL_law (wsX3_init) := ggL_law_X3_init
set_option maxRecDepth 20000 in
theorem ggL_law_L_addTrack : GoodIn wsL_law wsL_addTrack := goodIn_ca (goodIn_ca (goodIn_r _ [41, 42, 43, 44, 45, 46, 2, 47, 48, 49, 16, 15, 14, 50, 51, 52, 53, 54, 55, 56, 57, 58, 59, 60, 61, 62, 12, 13, 63, 64, 65, 66, 67, 68, 25, 69, 70, 71, 72, 73, 74, 75, 76, 77, 78, 79, 80, 81, 82, 642, 643, 644, 645, 646, 661, 662, 663, 664, 665, 666, 667, 668, 669, 670] (by decide +kernel) (by decide +kernel)) (goodIn_sub (fun _ h => List.mem_append_left _ (List.mem_append_left _ (List.mem_append_right _ h))) (by decide +kernel))) (goodIn_sub (fun _ h => List.mem_append_left _ (List.mem_append_right _ h)) (by decide +kernel))
set_option maxRecDepth 20000 in
theorem gL_law_L_addTrack : GoodIn wsL_law (va_wsS RL 99 yL_addTrack wsL_addTrack) := goodIn_app (goodIn_of _ (by decide +kernel)) ggL_law_L_addTrack
set_option maxRecDepth 20000 in
theorem ggL_law_X3_addTrack : GoodIn wsL_law wsX3_addTrack := goodIn_r _ [86, 87, 88, 26, 27, 29, 89, 90, 5, 91, 92, 93, 94, 95, 96, 97, 98, 99, 33, 100, 101, 102, 647, 648, 649, 650, 651, 652, 653, 654, 655, 656, 657, 658, 659, 660] (by decide +kernel) (by decide +kernel)
set_option maxRecDepth 20000 in
theorem gL_law_X3_addTrack : GoodIn wsL_law (wsV RL 104 RX3 yX3_addTrack wsX3_addTrack) := goodIn_app (goodIn_of _ (by decide +kernel)) ggL_law_X3_addTrack
set_option maxRecDepth 20000 in
theorem ggL_law_X3_thrown : GoodIn wsL_law wsX3_thrown := goodIn_r _ [106, 87, 647, 648, 649, 650, 651, 652, 653, 654, 655, 656, 657, 658, 659, 660] (by decide +kernel) (by decide +kernel)
set_option maxRecDepth 20000 in
theorem gL_law_X3_thrown : GoodIn wsL_law (wsV RL 105 RX3 yX3_thrown wsX3_thrown) := goodIn_app (goodIn_of _ (by decide +kernel)) ggL_law_X3_thrown
set_option maxRecDepth 20000 in
theorem ggL_law_L_set : GoodIn wsL_law wsL_set := goodIn_ca (goodIn_ca (goodIn_r _ [109, 110, 42, 111, 112, 113, 2, 114, 115, 116, 117, 118, 119, 120, 121, 122, 123, 124, 125, 126, 127, 128, 15, 52, 53, 54, 129, 130, 131, 55, 56, 57, 58, 59, 132, 51, 133, 134, 69, 135, 136, 78, 79, 80, 81, 82, 661, 662, 663, 664, 665, 666, 667, 668, 669, 670, 642, 643, 644, 645, 646] (by decide +kernel) (by decide +kernel)) (goodIn_sub (fun _ h => List.mem_append_right _ h) (by decide +kernel))) (goodIn_sub (fun _ h => List.mem_append_left _ (List.mem_append_right _ h)) (by decide +kernel))
set_option maxRecDepth 20000 in
theorem gL_law_L_set : GoodIn wsL_law (va_wsS RL 108 yL_set wsL_set) := goodIn_app (goodIn_of _ (by decide +kernel)) ggL_law_L_set
set_option maxRecDepth 20000 in
theorem ggL_law_X3_set : GoodIn wsL_law wsX3_set := goodIn_r _ [140, 87, 33, 141, 142, 143, 5, 144, 26, 145, 146, 147, 148, 88, 89, 90, 91, 92, 93, 94, 95, 100, 101, 102, 647, 648, 649, 650, 651, 652, 653, 654, 655, 656, 657, 658, 659, 660] (by decide +kernel) (by decide +kernel)
set_option maxRecDepth 20000 in
theorem gL_law_X3_set : GoodIn wsL_law (wsV RL 111 RX3 yX3_set wsX3_set) := goodIn_app (goodIn_of _ (by decide +kernel)) ggL_law_X3_set
set_option maxRecDepth 20000 in
theorem ggL_law_L_setTurn : GoodIn wsL_law wsL_setTurn := goodIn_ca (goodIn_ca (goodIn_r _ [151, 110, 42, 152, 153, 154, 2, 155, 115, 116, 117, 118, 119, 120, 121, 122, 123, 124, 125, 126, 127, 128, 15, 52, 53, 54, 129, 130, 131, 55, 56, 57, 58, 59, 132, 51, 133, 134, 69, 135, 136, 78, 79, 80, 81, 82, 661, 662, 663, 664, 665, 666, 667, 668, 669, 670, 642, 643, 644, 645, 646] (by decide +kernel) (by decide +kernel)) (goodIn_sub (fun _ h => List.mem_append_right _ h) (by decide +kernel))) (goodIn_sub (fun _ h => List.mem_append_left _ (List.mem_append_right _ h)) (by decide +kernel))
set_option maxRecDepth 20000 in
theorem gL_law_L_setTurn : GoodIn wsL_law (va_wsS RL 112 yL_setTurn wsL_setTurn) := goodIn_app (goodIn_of _ (by decide +kernel)) ggL_law_L_setTurn
set_option maxRecDepth 20000 in
theorem ggL_law_X3_setTurn : GoodIn wsL_law wsX3_setTurn := goodIn_r _ [159, 87, 33, 141, 142, 143, 5, 144, 26, 145, 146, 147, 148, 88, 89, 90, 91, 92, 93, 94, 95, 100, 101, 102, 647, 648, 649, 650, 651, 652, 653, 654, 655, 656, 657, 658, 659, 660] (by decide +kernel) (by decide +kernel)
set_option maxRecDepth 20000 in
theorem gL_law_X3_setTurn : GoodIn wsL_law (wsV RL 114 RX3 yX3_setTurn wsX3_setTurn) := goodIn_app (goodIn_of _ (by decide +kernel)) ggL_law_X3_setTurn
set_option maxRecDepth 20000 in
theorem ggL_law_L_step : GoodIn wsL_law wsL_step := goodIn_ca (goodIn_r _ [162, 110, 163, 164, 165, 2, 166, 115, 116, 117, 118, 119, 120, 121, 122, 123, 124, 125, 126, 127, 128, 15, 52, 53, 54, 129, 130, 131, 167, 51, 168, 169, 63, 132, 133, 134, 69, 135, 136, 661, 662, 663, 664, 665, 666, 667, 668, 669, 670, 642, 643, 644, 645, 646] (by decide +kernel) (by decide +kernel)) (goodIn_sub (fun _ h => List.mem_append_right _ h) (by decide +kernel))
set_option maxRecDepth 20000 in
theorem gL_law_L_step : GoodIn wsL_law (va_wsS RL 115 yL_step wsL_step) := goodIn_app (goodIn_of _ (by decide +kernel)) ggL_law_L_step
set_option maxRecDepth 20000 in
theorem ggL_law_X3_step : GoodIn wsL_law wsX3_step := goodIn_r _ [173, 87, 33, 141, 142, 143, 5, 144, 26, 145, 146, 147, 148, 88, 89, 90, 91, 92, 93, 94, 95, 174, 175, 176, 177, 28, 100, 101, 102, 647, 648, 649, 650, 651, 652, 653, 654, 655, 656, 657, 658, 659, 660] (by decide +kernel) (by decide +kernel)
set_option maxRecDepth 20000 in
theorem gL_law_X3_step : GoodIn wsL_law (wsV RL 118 RX3 yX3_step wsX3_step) := goodIn_app (goodIn_of _ (by decide +kernel)) ggL_law_X3_step
set_option maxRecDepth 20000 in
theorem ggL_law_L_track : GoodIn wsL_law wsL_track := goodIn_ca (goodIn_r _ [180, 110, 181, 182, 183, 2, 184, 119, 120, 121, 122, 123, 124, 125, 126, 127, 128, 15, 52, 53, 54, 129, 130, 131, 185, 51, 186, 187, 71, 72, 63, 64, 65, 66, 67, 68, 642, 643, 644, 645, 646, 661, 662, 663, 664, 665, 666, 667, 668, 669, 670] (by decide +kernel) (by decide +kernel)) (goodIn_sub (fun _ h => List.mem_append_right _ h) (by decide +kernel))
set_option maxRecDepth 20000 in
theorem gL_law_L_track : GoodIn wsL_law (va_wsS RL 119 yL_track wsL_track) := goodIn_app (goodIn_of _ (by decide +kernel)) ggL_law_L_track
set_option maxRecDepth 20000 in
theorem ggL_law_X3_track : GoodIn wsL_law wsX3_track := goodIn_r _ [191, 87, 145, 146, 147, 5, 148, 88, 89, 90, 91, 192, 193, 194, 195, 26, 27, 28, 29, 30, 32, 92, 93, 94, 95, 647, 648, 649, 650, 651, 652, 653, 654, 655, 656, 657, 658, 659, 660] (by decide +kernel) (by decide +kernel)
set_option maxRecDepth 20000 in
theorem gL_law_X3_track : GoodIn wsL_law (wsV RL 121 RX3 yX3_track wsX3_track) := goodIn_app (goodIn_of _ (by decide +kernel)) ggL_law_X3_track
set_option maxRecDepth 20000 in
theorem ggL_law_L_tune : GoodIn wsL_law wsL_tune := goodIn_ca (goodIn_ca (goodIn_r _ [198, 110, 42, 199, 200, 201, 2, 202, 119, 120, 121, 122, 123, 124, 125, 126, 127, 128, 15, 52, 53, 54, 55, 56, 57, 58, 59, 661, 662, 663, 664, 665, 666, 667, 668, 669, 670, 642, 643, 644, 645, 646] (by decide +kernel) (by decide +kernel)) (goodIn_sub (fun _ h => List.mem_append_right _ h) (by decide +kernel))) (goodIn_sub (fun _ h => List.mem_append_left _ (List.mem_append_right _ h)) (by decide +kernel))
set_option maxRecDepth 20000 in
theorem gL_law_L_tune : GoodIn wsL_law (va_wsS RL 122 yL_tune wsL_tune) := goodIn_app (goodIn_of _ (by decide +kernel)) ggL_law_L_tune
set_option maxRecDepth 20000 in
theorem ggL_law_X3_tune : GoodIn wsL_law wsX3_tune := goodIn_r _ [206, 87, 27, 28, 29, 30, 145, 146, 147, 5, 148, 88, 89, 90, 91, 92, 93, 94, 95, 647, 648, 649, 650, 651, 652, 653, 654, 655, 656, 657, 658, 659, 660] (by decide +kernel) (by decide +kernel)
set_option maxRecDepth 20000 in
theorem gL_law_X3_tune : GoodIn wsL_law (wsV RL 124 RX3 yX3_tune wsX3_tune) := goodIn_app (goodIn_of _ (by decide +kernel)) ggL_law_X3_tune
set_option maxRecDepth 20000 in
theorem ggL_law_L_turn : GoodIn wsL_law wsL_turn := goodIn_ca (goodIn_r _ [209, 110, 210, 211, 212, 2, 213, 119, 120, 121, 122, 123, 124, 125, 126, 127, 128, 15, 52, 53, 54, 129, 130, 131, 185, 51, 186, 187, 71, 72, 63, 64, 65, 66, 67, 68, 214, 215, 216, 642, 643, 644, 645, 646, 661, 662, 663, 664, 665, 666, 667, 668, 669, 670] (by decide +kernel) (by decide +kernel)) (goodIn_sub (fun _ h => List.mem_append_right _ h) (by decide +kernel))
set_option maxRecDepth 20000 in
theorem gL_law_L_turn : GoodIn wsL_law (va_wsS RL 125 yL_turn wsL_turn) := goodIn_app (goodIn_of _ (by decide +kernel)) ggL_law_L_turn
set_option maxRecDepth 20000 in
theorem ggL_law_X3_turn : GoodIn wsL_law wsX3_turn := goodIn_r _ [220, 87, 32, 145, 146, 147, 5, 148, 88, 89, 90, 91, 647, 648, 649, 650, 651, 652, 653, 654, 655, 656, 657, 658, 659, 660] (by decide +kernel) (by decide +kernel)
set_option maxRecDepth 20000 in
theorem gL_law_X3_turn : GoodIn wsL_law (wsV RL 128 RX3 yX3_turn wsX3_turn) := goodIn_app (goodIn_of _ (by decide +kernel)) ggL_law_X3_turn
set_option maxRecDepth 20000 in
theorem ggL_law_L_spread : GoodIn wsL_law wsL_spread := goodIn_ca (goodIn_ca (goodIn_r _ [223, 110, 42, 224, 225, 226, 2, 227, 119, 120, 121, 122, 123, 124, 125, 126, 127, 128, 15, 52, 53, 54, 55, 56, 57, 58, 59, 228, 51, 229, 230, 71, 231, 232, 73, 74, 75, 76, 77, 78, 79, 80, 69, 81, 82, 661, 662, 663, 664, 665, 666, 667, 668, 669, 670, 642, 643, 644, 645, 646] (by decide +kernel) (by decide +kernel)) (goodIn_sub (fun _ h => List.mem_append_right _ h) (by decide +kernel))) (goodIn_sub (fun _ h => List.mem_append_left _ (List.mem_append_right _ h)) (by decide +kernel))
set_option maxRecDepth 20000 in
theorem gL_law_L_spread : GoodIn wsL_law (va_wsS RL 129 yL_spread wsL_spread) := goodIn_app (goodIn_of _ (by decide +kernel)) ggL_law_L_spread
set_option maxRecDepth 20000 in
theorem ggL_law_X3_spread : GoodIn wsL_law wsX3_spread := goodIn_r _ [236, 87, 26, 145, 146, 147, 5, 148, 88, 89, 90, 91, 92, 93, 94, 95, 96, 97, 98, 99, 33, 100, 101, 102, 647, 648, 649, 650, 651, 652, 653, 654, 655, 656, 657, 658, 659, 660] (by decide +kernel) (by decide +kernel)
set_option maxRecDepth 20000 in
theorem gL_law_X3_spread : GoodIn wsL_law (wsV RL 131 RX3 yX3_spread wsX3_spread) := goodIn_app (goodIn_of _ (by decide +kernel)) ggL_law_X3_spread
set_option maxRecDepth 20000 in
theorem ggL_law_L_rotate : GoodIn wsL_law wsL_rotate := goodIn_ca (goodIn_ca (goodIn_r _ [239, 110, 42, 240, 241, 242, 2, 243, 119, 120, 121, 122, 123, 124, 125, 126, 127, 128, 15, 52, 53, 54, 55, 56, 57, 58, 59, 244, 51, 245, 246, 69, 70, 247, 248, 249, 250, 71, 231, 232, 251, 252, 253, 254, 135, 136, 77, 78, 79, 80, 81, 82, 255, 256, 257, 258, 132, 133, 134, 642, 643, 644, 645, 646, 661, 662, 663, 664, 665, 666, 667, 668, 669, 670] (by decide +kernel) (by decide +kernel)) (goodIn_sub (fun _ h => List.mem_append_right _ h) (by decide +kernel))) (goodIn_sub (fun _ h => List.mem_append_left _ (List.mem_append_right _ h)) (by decide +kernel))
set_option maxRecDepth 20000 in
theorem gL_law_L_rotate : GoodIn wsL_law (va_wsS RL 132 yL_rotate wsL_rotate) := goodIn_app (goodIn_of _ (by decide +kernel)) ggL_law_L_rotate
set_option maxRecDepth 20000 in
theorem ggL_law_X3_rotate : GoodIn wsL_law wsX3_rotate := goodIn_r _ [262, 87, 26, 33, 263, 264, 265, 266, 267, 268, 145, 146, 147, 5, 148, 88, 89, 90, 91, 92, 93, 94, 95, 269, 270, 271, 272, 273, 248, 249, 250, 100, 101, 102, 274, 275, 276, 277, 647, 648, 649, 650, 651, 652, 653, 654, 655, 656, 657, 658, 659, 660] (by decide +kernel) (by decide +kernel)
set_option maxRecDepth 20000 in
theorem gL_law_X3_rotate : GoodIn wsL_law (wsV RL 134 RX3 yX3_rotate wsX3_rotate) := goodIn_app (goodIn_of _ (by decide +kernel)) ggL_law_X3_rotate
set_option maxRecDepth 20000 in
theorem ggL_law_L_stretch : GoodIn wsL_law wsL_stretch := goodIn_ca (goodIn_ca (goodIn_r _ [280, 110, 42, 281, 282, 283, 2, 284, 119, 120, 121, 122, 123, 124, 125, 126, 127, 128, 15, 52, 53, 54, 55, 56, 57, 58, 59, 285, 51, 286, 287, 71, 69, 251, 252, 253, 254, 135, 136, 77, 78, 79, 80, 81, 82, 661, 662, 663, 664, 665, 666, 667, 668, 669, 670, 642, 643, 644, 645, 646] (by decide +kernel) (by decide +kernel)) (goodIn_sub (fun _ h => List.mem_append_right _ h) (by decide +kernel))) (goodIn_sub (fun _ h => List.mem_append_left _ (List.mem_append_right _ h)) (by decide +kernel))
set_option maxRecDepth 20000 in
theorem gL_law_L_stretch : GoodIn wsL_law (va_wsS RL 135 yL_stretch wsL_stretch) := goodIn_app (goodIn_of _ (by decide +kernel)) ggL_law_L_stretch
set_option maxRecDepth 20000 in
theorem ggL_law_X3_stretch : GoodIn wsL_law wsX3_stretch := goodIn_r _ [291, 87, 26, 33, 263, 264, 265, 266, 267, 268, 145, 146, 147, 5, 148, 88, 89, 90, 91, 92, 93, 94, 95, 269, 270, 271, 272, 273, 248, 249, 250, 100, 101, 102, 647, 648, 649, 650, 651, 652, 653, 654, 655, 656, 657, 658, 659, 660] (by decide +kernel) (by decide +kernel)
set_option maxRecDepth 20000 in
theorem gL_law_X3_stretch : GoodIn wsL_law (wsV RL 137 RX3 yX3_stretch wsX3_stretch) := goodIn_app (goodIn_of _ (by decide +kernel)) ggL_law_X3_stretch
set_option maxRecDepth 20000 in
theorem ggL_law_L_tap : GoodIn wsL_law wsL_tap := goodIn_ca (goodIn_ca (goodIn_r _ [294, 110, 42, 295, 296, 297, 2, 298, 119, 120, 121, 122, 123, 124, 125, 126, 127, 128, 15, 299, 300, 301, 302, 52, 53, 54, 55, 56, 57, 58, 59, 303, 51, 304, 305, 306, 307, 308, 309, 71, 72, 310, 311, 312, 313, 314, 315, 316, 231, 232, 317, 167, 168, 169, 63, 78, 79, 80, 69, 81, 82, 642, 643, 644, 645, 646, 661, 662, 663, 664, 665, 666, 667, 668, 669, 670] (by decide +kernel) (by decide +kernel)) (goodIn_sub (fun _ h => List.mem_append_right _ h) (by decide +kernel))) (goodIn_sub (fun _ h => List.mem_append_left _ (List.mem_append_right _ h)) (by decide +kernel))
set_option maxRecDepth 20000 in
theorem gL_law_L_tap : GoodIn wsL_law (va_wsS RL 138 yL_tap wsL_tap) := goodIn_app (goodIn_of _ (by decide +kernel)) ggL_law_L_tap
set_option maxRecDepth 20000 in
theorem ggL_law_X3_tap : GoodIn wsL_law wsX3_tap := goodIn_r _ [321, 87, 26, 27, 322, 307, 308, 309, 323, 311, 312, 33, 145, 146, 147, 5, 148, 88, 89, 90, 91, 92, 93, 94, 95, 324, 325, 326, 327, 174, 175, 176, 177, 28, 100, 101, 102, 647, 648, 649, 650, 651, 652, 653, 654, 655, 656, 657, 658, 659, 660] (by decide +kernel) (by decide +kernel)
set_option maxRecDepth 20000 in
theorem gL_law_X3_tap : GoodIn wsL_law (wsV RL 140 RX3 yX3_tap wsX3_tap) := goodIn_app (goodIn_of _ (by decide +kernel)) ggL_law_X3_tap
set_option maxRecDepth 20000 in
theorem ggL_law_X2_tracks : GoodIn wsL_law wsX2_tracks := goodIn_r _ [331, 16, 642, 643, 644, 645, 646] (by decide +kernel) (by decide +kernel)
set_option maxRecDepth 20000 in
theorem gL_law_X2_tracks : GoodIn wsL_law (wsV RL 141 RX2 yX2_tracks wsX2_tracks) := goodIn_app (goodIn_of _ (by decide +kernel)) ggL_law_X2_tracks
set_option maxRecDepth 20000 in
theorem ggL_law_X3_tracks : GoodIn wsL_law wsX3_tracks := goodIn_r _ [335, 87, 88, 647, 648, 649, 650, 651, 652, 653, 654, 655, 656, 657, 658, 659, 660] (by decide +kernel) (by decide +kernel)
set_option maxRecDepth 20000 in
theorem gL_law_X3_tracks : GoodIn wsL_law (wsV RL 144 RX3 yX3_tracks wsX3_tracks) := goodIn_app (goodIn_of _ (by decide +kernel)) ggL_law_X3_tracks
set_option maxRecDepth 20000 in
theorem ggL_law_L_addSection : GoodIn wsL_law wsL_addSection := goodIn_ca (goodIn_ca (goodIn_r _ [338, 42, 43, 339, 340, 341, 2, 342, 48, 49, 19, 18, 17, 343, 344, 52, 53, 54, 55, 56, 57, 58, 59, 345, 346, 347, 348, 349, 350, 351, 352, 353, 354, 355, 12, 13, 356, 357, 358, 359, 642, 643, 644, 645, 646, 671, 672, 673, 674] (by decide +kernel) (by decide +kernel)) (goodIn_sub (fun _ h => List.mem_append_left _ (List.mem_append_left _ (List.mem_append_right _ h))) (by decide +kernel))) (goodIn_sub (fun _ h => List.mem_append_left _ (List.mem_append_right _ h)) (by decide +kernel))
set_option maxRecDepth 20000 in
theorem gL_law_L_addSection : GoodIn wsL_law (va_wsS RL 145 yL_addSection wsL_addSection) := goodIn_app (goodIn_of _ (by decide +kernel)) ggL_law_L_addSection
set_option maxRecDepth 20000 in
theorem ggL_law_X3_addSection : GoodIn wsL_law wsX3_addSection := goodIn_r _ [363, 87, 364, 35, 36, 34, 89, 90, 5, 91, 92, 93, 94, 95, 647, 648, 649, 650, 651, 652, 653, 654, 655, 656, 657, 658, 659, 660] (by decide +kernel) (by decide +kernel)
set_option maxRecDepth 20000 in
theorem gL_law_X3_addSection : GoodIn wsL_law (wsV RL 147 RX3 yX3_addSection wsX3_addSection) := goodIn_app (goodIn_of _ (by decide +kernel)) ggL_law_X3_addSection
set_option maxRecDepth 20000 in
theorem ggL_law_L_dropSection : GoodIn wsL_law wsL_dropSection := goodIn_ca (goodIn_r _ [367, 43, 368, 369, 370, 2, 371, 48, 49, 19, 18, 642, 643, 644, 645, 646] (by decide +kernel) (by decide +kernel)) (goodIn_sub (fun _ h => List.mem_append_left _ (List.mem_append_left _ (List.mem_append_right _ h))) (by decide +kernel))
set_option maxRecDepth 20000 in
theorem gL_law_L_dropSection : GoodIn wsL_law (va_wsS RL 148 yL_dropSection wsL_dropSection) := goodIn_app (goodIn_of _ (by decide +kernel)) ggL_law_L_dropSection
set_option maxRecDepth 20000 in
theorem ggL_law_X3_dropSection : GoodIn wsL_law wsX3_dropSection := goodIn_r _ [375, 87, 364, 92, 93, 94, 5, 95, 647, 648, 649, 650, 651, 652, 653, 654, 655, 656, 657, 658, 659, 660] (by decide +kernel) (by decide +kernel)
set_option maxRecDepth 20000 in
theorem gL_law_X3_dropSection : GoodIn wsL_law (wsV RL 151 RX3 yX3_dropSection wsX3_dropSection) := goodIn_app (goodIn_of _ (by decide +kernel)) ggL_law_X3_dropSection
set_option maxRecDepth 20000 in
theorem ggL_law_L_sectionAt : GoodIn wsL_law wsL_sectionAt := goodIn_ca (goodIn_r _ [378, 42, 379, 380, 381, 2, 382, 299, 300, 301, 302, 52, 53, 54, 55, 56, 57, 58, 59, 383, 384, 385, 386, 19, 349, 350, 351, 352, 18, 642, 643, 644, 645, 646, 671, 672, 673, 674] (by decide +kernel) (by decide +kernel)) (goodIn_sub (fun _ h => List.mem_append_left _ (List.mem_append_right _ h)) (by decide +kernel))
set_option maxRecDepth 20000 in
theorem gL_law_L_sectionAt : GoodIn wsL_law (va_wsS RL 152 yL_sectionAt wsL_sectionAt) := goodIn_app (goodIn_of _ (by decide +kernel)) ggL_law_L_sectionAt
set_option maxRecDepth 20000 in
theorem ggL_law_X3_sectionAt : GoodIn wsL_law wsX3_sectionAt := goodIn_r _ [390, 87, 324, 325, 5, 326, 327, 89, 90, 91, 391, 392, 393, 394, 364, 34, 92, 93, 94, 95, 647, 648, 649, 650, 651, 652, 653, 654, 655, 656, 657, 658, 659, 660] (by decide +kernel) (by decide +kernel)
set_option maxRecDepth 20000 in
theorem gL_law_X3_sectionAt : GoodIn wsL_law (wsV RL 155 RX3 yX3_sectionAt wsX3_sectionAt) := goodIn_app (goodIn_of _ (by decide +kernel)) ggL_law_X3_sectionAt
set_option maxRecDepth 20000 in
theorem ggL_law_X2_length : GoodIn wsL_law wsX2_length := goodIn_r _ [398, 345, 346, 347, 2, 348, 19, 349, 350, 351, 352, 18, 642, 643, 644, 645, 646, 671, 672, 673, 674] (by decide +kernel) (by decide +kernel)
set_option maxRecDepth 20000 in
theorem gL_law_X2_length : GoodIn wsL_law (wsV RL 156 RX2 yX2_length wsX2_length) := goodIn_app (goodIn_of _ (by decide +kernel)) ggL_law_X2_length
set_option maxRecDepth 20000 in
theorem ggL_law_X3_length : GoodIn wsL_law wsX3_length := goodIn_r _ [402, 87, 34, 364, 647, 648, 649, 650, 651, 652, 653, 654, 655, 656, 657, 658, 659, 660] (by decide +kernel) (by decide +kernel)
set_option maxRecDepth 20000 in
theorem gL_law_X3_length : GoodIn wsL_law (wsV RL 159 RX3 yX3_length wsX3_length) := goodIn_app (goodIn_of _ (by decide +kernel)) ggL_law_X3_length
set_option maxRecDepth 20000 in
theorem ggL_law_L_loudness : GoodIn wsL_law wsL_loudness := goodIn_ca (goodIn_ca (goodIn_r _ [405, 110, 42, 406, 407, 408, 2, 409, 410, 307, 308, 309, 119, 120, 121, 122, 123, 124, 125, 126, 127, 128, 15, 299, 300, 301, 302, 52, 53, 54, 55, 56, 57, 58, 59, 411, 412, 413, 414, 415, 416, 417, 418, 419, 420, 421, 422, 423, 424, 425, 426, 16, 427, 428, 429, 430, 19, 383, 384, 385, 386, 349, 350, 351, 352, 18, 431, 432, 433, 434, 51, 435, 436, 72, 313, 314, 315, 316, 71, 437, 438, 231, 232, 258, 132, 133, 134, 69, 135, 136, 317, 167, 168, 169, 63, 439, 440, 441, 442, 443, 444, 445, 642, 643, 644, 645, 646, 661, 662, 663, 664, 665, 666, 667, 668, 669, 670, 671, 672, 673, 674] (by decide +kernel) (by decide +kernel)) (goodIn_sub (fun _ h => List.mem_append_right _ h) (by decide +kernel))) (goodIn_sub (fun _ h => List.mem_append_left _ (List.mem_append_right _ h)) (by decide +kernel))
set_option maxRecDepth 20000 in
theorem gL_law_L_loudness : GoodIn wsL_law (va_wsS RL 160 yL_loudness wsL_loudness) := goodIn_app (goodIn_of _ (by decide +kernel)) ggL_law_L_loudness
set_option maxRecDepth 20000 in
theorem ggL_law_X3_loudness : GoodIn wsL_law wsX3_loudness := goodIn_r _ [449, 87, 145, 146, 147, 5, 148, 88, 89, 90, 91, 92, 93, 94, 95, 324, 325, 326, 327, 450, 451, 452, 453, 32, 322, 307, 308, 309, 454, 455, 456, 457, 364, 35, 36, 34, 27, 26, 33, 458, 459, 460, 461, 391, 392, 393, 394, 100, 101, 102, 174, 175, 176, 177, 28, 647, 648, 649, 650, 651, 652, 653, 654, 655, 656, 657, 658, 659, 660] (by decide +kernel) (by decide +kernel)
set_option maxRecDepth 20000 in
theorem gL_law_X3_loudness : GoodIn wsL_law (wsV RL 162 RX3 yX3_loudness wsX3_loudness) := goodIn_app (goodIn_of _ (by decide +kernel)) ggL_law_X3_loudness
set_option maxRecDepth 20000 in
theorem ggL_law_L_hits : GoodIn wsL_law wsL_hits := goodIn_ca (goodIn_r _ [464, 42, 465, 466, 467, 2, 468, 299, 300, 301, 302, 52, 53, 54, 55, 56, 57, 58, 59, 469, 470, 471, 472, 16, 411, 412, 413, 414, 125, 126, 127, 128, 15, 415, 416, 417, 418, 419, 420, 421, 422, 423, 424, 425, 426, 427, 428, 429, 430, 19, 383, 384, 385, 386, 349, 350, 351, 352, 18, 431, 432, 433, 434, 51, 435, 436, 72, 313, 314, 315, 316, 71, 437, 438, 231, 232, 258, 132, 133, 134, 69, 135, 136, 317, 167, 168, 169, 63, 439, 440, 441, 642, 643, 644, 645, 646, 661, 662, 663, 664, 665, 666, 667, 668, 669, 670, 671, 672, 673, 674] (by decide +kernel) (by decide +kernel)) (goodIn_sub (fun _ h => List.mem_append_left _ (List.mem_append_right _ h)) (by decide +kernel))
set_option maxRecDepth 20000 in
theorem gL_law_L_hits : GoodIn wsL_law (va_wsS RL 163 yL_hits wsL_hits) := goodIn_app (goodIn_of _ (by decide +kernel)) ggL_law_L_hits
set_option maxRecDepth 20000 in
theorem ggL_law_X3_hits_ : GoodIn wsL_law wsX3_hits_ := goodIn_r _ [476, 87, 88, 324, 325, 5, 326, 327, 89, 90, 91, 92, 93, 94, 95, 477, 478, 479, 480, 32, 454, 455, 456, 457, 364, 35, 36, 34, 27, 26, 33, 458, 459, 460, 461, 391, 392, 393, 394, 100, 101, 102, 174, 175, 176, 177, 28, 647, 648, 649, 650, 651, 652, 653, 654, 655, 656, 657, 658, 659, 660] (by decide +kernel) (by decide +kernel)
set_option maxRecDepth 20000 in
theorem gL_law_X3_hits_ : GoodIn wsL_law (wsV RL 165 RX3 yX3_hits_ wsX3_hits_) := goodIn_app (goodIn_of _ (by decide +kernel)) ggL_law_X3_hits_
set_option maxRecDepth 20000 in
theorem ggL_law_L_sounding : GoodIn wsL_law wsL_sounding := goodIn_ca (goodIn_r _ [483, 42, 484, 485, 486, 2, 487, 16, 299, 300, 301, 302, 52, 53, 54, 55, 56, 57, 58, 59, 469, 470, 471, 472, 411, 412, 413, 414, 125, 126, 127, 128, 15, 415, 416, 417, 418, 419, 420, 421, 422, 423, 424, 425, 426, 427, 428, 429, 430, 19, 383, 384, 385, 386, 349, 350, 351, 352, 18, 431, 432, 433, 434, 51, 435, 436, 72, 313, 314, 315, 316, 71, 437, 438, 231, 232, 258, 132, 133, 134, 69, 135, 136, 317, 167, 168, 169, 63, 439, 440, 441, 488, 489, 490, 491, 642, 643, 644, 645, 646, 661, 662, 663, 664, 665, 666, 667, 668, 669, 670, 671, 672, 673, 674] (by decide +kernel) (by decide +kernel)) (goodIn_sub (fun _ h => List.mem_append_left _ (List.mem_append_right _ h)) (by decide +kernel))
set_option maxRecDepth 20000 in
theorem gL_law_L_sounding : GoodIn wsL_law (va_wsS RL 166 yL_sounding wsL_sounding) := goodIn_app (goodIn_of _ (by decide +kernel)) ggL_law_L_sounding
set_option maxRecDepth 20000 in
theorem ggL_law_X3_sounding : GoodIn wsL_law wsX3_sounding := goodIn_r _ [495, 87, 88, 324, 325, 5, 326, 327, 89, 90, 91, 92, 93, 94, 95, 496, 497, 498, 499, 29, 30, 477, 478, 479, 480, 32, 454, 455, 456, 457, 364, 35, 36, 34, 27, 26, 33, 458, 459, 460, 461, 391, 392, 393, 394, 100, 101, 102, 174, 175, 176, 177, 28, 647, 648, 649, 650, 651, 652, 653, 654, 655, 656, 657, 658, 659, 660] (by decide +kernel) (by decide +kernel)
set_option maxRecDepth 20000 in
theorem gL_law_X3_sounding : GoodIn wsL_law (wsV RL 168 RX3 yX3_sounding wsX3_sounding) := goodIn_app (goodIn_of _ (by decide +kernel)) ggL_law_X3_sounding
set_option maxRecDepth 20000 in
theorem ggL_law_L_next : GoodIn wsL_law wsL_next := goodIn_ca (goodIn_ca (goodIn_r _ [502, 110, 42, 503, 504, 505, 2, 506, 302, 410, 307, 308, 309, 119, 120, 121, 122, 123, 124, 125, 126, 127, 128, 15, 299, 300, 301, 52, 53, 54, 55, 56, 57, 58, 59, 411, 412, 413, 414, 415, 416, 417, 418, 419, 420, 421, 422, 423, 424, 425, 426, 16, 427, 428, 429, 430, 19, 383, 384, 385, 386, 349, 350, 351, 352, 18, 431, 432, 433, 434, 51, 435, 436, 72, 313, 314, 315, 316, 71, 437, 438, 231, 232, 258, 132, 133, 134, 69, 135, 136, 317, 167, 168, 169, 63, 439, 440, 441, 642, 643, 644, 645, 646, 661, 662, 663, 664, 665, 666, 667, 668, 669, 670, 671, 672, 673, 674] (by decide +kernel) (by decide +kernel)) (goodIn_sub (fun _ h => List.mem_append_right _ h) (by decide +kernel))) (goodIn_sub (fun _ h => List.mem_append_left _ (List.mem_append_right _ h)) (by decide +kernel))
set_option maxRecDepth 20000 in
theorem gL_law_L_next : GoodIn wsL_law (va_wsS RL 169 yL_next wsL_next) := goodIn_app (goodIn_of _ (by decide +kernel)) ggL_law_L_next
set_option maxRecDepth 20000 in
theorem ggL_law_X3_next : GoodIn wsL_law wsX3_next := goodIn_r _ [510, 87, 327, 145, 146, 147, 5, 148, 88, 89, 90, 91, 92, 93, 94, 95, 324, 325, 326, 477, 478, 479, 480, 32, 454, 455, 456, 457, 364, 35, 36, 34, 27, 26, 33, 458, 459, 460, 461, 391, 392, 393, 394, 100, 101, 102, 174, 175, 176, 177, 28, 647, 648, 649, 650, 651, 652, 653, 654, 655, 656, 657, 658, 659, 660] (by decide +kernel) (by decide +kernel)
set_option maxRecDepth 20000 in
theorem gL_law_X3_next : GoodIn wsL_law (wsV RL 171 RX3 yX3_next wsX3_next) := goodIn_app (goodIn_of _ (by decide +kernel)) ggL_law_X3_next
set_option maxRecDepth 20000 in
theorem ggL_law_L_count : GoodIn wsL_law wsL_count := goodIn_ca (goodIn_ca (goodIn_r _ [513, 110, 42, 514, 515, 516, 2, 517, 119, 120, 121, 122, 123, 124, 125, 126, 127, 128, 15, 518, 519, 520, 299, 300, 301, 302, 52, 53, 54, 55, 56, 57, 58, 59, 521, 522, 523, 524, 411, 412, 413, 414, 415, 416, 417, 418, 419, 420, 421, 422, 423, 424, 425, 426, 16, 427, 428, 429, 430, 19, 383, 384, 385, 386, 349, 350, 351, 352, 18, 431, 432, 433, 434, 51, 435, 436, 72, 313, 314, 315, 316, 71, 437, 438, 231, 232, 258, 132, 133, 134, 69, 135, 136, 317, 167, 168, 169, 63, 439, 440, 441, 642, 643, 644, 645, 646, 661, 662, 663, 664, 665, 666, 667, 668, 669, 670, 671, 672, 673, 674] (by decide +kernel) (by decide +kernel)) (goodIn_sub (fun _ h => List.mem_append_right _ h) (by decide +kernel))) (goodIn_sub (fun _ h => List.mem_append_left _ (List.mem_append_right _ h)) (by decide +kernel))
set_option maxRecDepth 20000 in
theorem gL_law_L_count : GoodIn wsL_law (va_wsS RL 172 yL_count wsL_count) := goodIn_app (goodIn_of _ (by decide +kernel)) ggL_law_L_count
set_option maxRecDepth 20000 in
theorem ggL_law_X3_count : GoodIn wsL_law wsX3_count := goodIn_r _ [528, 87, 145, 146, 147, 5, 148, 88, 89, 90, 91, 92, 93, 94, 95, 529, 530, 531, 324, 325, 326, 327, 477, 478, 479, 480, 32, 454, 455, 456, 457, 364, 35, 36, 34, 27, 26, 33, 458, 459, 460, 461, 391, 392, 393, 394, 100, 101, 102, 174, 175, 176, 177, 28, 647, 648, 649, 650, 651, 652, 653, 654, 655, 656, 657, 658, 659, 660] (by decide +kernel) (by decide +kernel)
set_option maxRecDepth 20000 in
theorem gL_law_X3_count : GoodIn wsL_law (wsV RL 174 RX3 yX3_count wsX3_count) := goodIn_app (goodIn_of _ (by decide +kernel)) ggL_law_X3_count
set_option maxRecDepth 20000 in
theorem ggL_law_L_together : GoodIn wsL_law wsL_together := goodIn_ca (goodIn_ca (goodIn_r _ [534, 110, 42, 535, 536, 537, 2, 538, 119, 120, 121, 122, 123, 124, 125, 126, 127, 128, 15, 518, 519, 520, 299, 300, 301, 302, 52, 53, 54, 55, 56, 57, 58, 59, 521, 522, 523, 524, 411, 412, 413, 414, 415, 416, 417, 418, 419, 420, 421, 422, 423, 424, 425, 426, 16, 427, 428, 429, 430, 19, 383, 384, 385, 386, 349, 350, 351, 352, 18, 431, 432, 433, 434, 51, 435, 436, 72, 313, 314, 315, 316, 71, 437, 438, 231, 232, 258, 132, 133, 134, 69, 135, 136, 317, 167, 168, 169, 63, 439, 440, 441, 642, 643, 644, 645, 646, 661, 662, 663, 664, 665, 666, 667, 668, 669, 670, 671, 672, 673, 674] (by decide +kernel) (by decide +kernel)) (goodIn_sub (fun _ h => List.mem_append_right _ h) (by decide +kernel))) (goodIn_sub (fun _ h => List.mem_append_left _ (List.mem_append_right _ h)) (by decide +kernel))
set_option maxRecDepth 20000 in
theorem gL_law_L_together : GoodIn wsL_law (va_wsS RL 175 yL_together wsL_together) := goodIn_app (goodIn_of _ (by decide +kernel)) ggL_law_L_together
set_option maxRecDepth 20000 in
theorem ggL_law_X3_together : GoodIn wsL_law wsX3_together := goodIn_r _ [542, 87, 145, 146, 147, 5, 148, 88, 89, 90, 91, 92, 93, 94, 95, 529, 530, 531, 324, 325, 326, 327, 477, 478, 479, 480, 32, 454, 455, 456, 457, 364, 35, 36, 34, 27, 26, 33, 458, 459, 460, 461, 391, 392, 393, 394, 100, 101, 102, 174, 175, 176, 177, 28, 647, 648, 649, 650, 651, 652, 653, 654, 655, 656, 657, 658, 659, 660] (by decide +kernel) (by decide +kernel)
set_option maxRecDepth 20000 in
theorem gL_law_X3_together : GoodIn wsL_law (wsV RL 177 RX3 yX3_together wsX3_together) := goodIn_app (goodIn_of _ (by decide +kernel)) ggL_law_X3_together
set_option maxRecDepth 20000 in
theorem ggL_law_L_rounds : GoodIn wsL_law wsL_rounds := goodIn_ca (goodIn_r _ [545, 110, 546, 547, 548, 2, 549, 119, 120, 121, 122, 123, 124, 125, 126, 127, 128, 15, 550, 51, 551, 552, 71, 258, 132, 133, 134, 69, 135, 136, 553, 554, 555, 556, 557, 558, 642, 643, 644, 645, 646, 661, 662, 663, 664, 665, 666, 667, 668, 669, 670] (by decide +kernel) (by decide +kernel)) (goodIn_sub (fun _ h => List.mem_append_right _ h) (by decide +kernel))
set_option maxRecDepth 20000 in
theorem gL_law_L_rounds : GoodIn wsL_law (va_wsS RL 178 yL_rounds wsL_rounds) := goodIn_app (goodIn_of _ (by decide +kernel)) ggL_law_L_rounds
set_option maxRecDepth 20000 in
theorem ggL_law_X3_rounds : GoodIn wsL_law wsX3_rounds := goodIn_r _ [562, 87, 145, 146, 147, 5, 148, 88, 89, 90, 91, 563, 564, 565, 566, 26, 33, 100, 101, 102, 567, 568, 569, 92, 93, 94, 95, 647, 648, 649, 650, 651, 652, 653, 654, 655, 656, 657, 658, 659, 660] (by decide +kernel) (by decide +kernel)
set_option maxRecDepth 20000 in
theorem gL_law_X3_rounds : GoodIn wsL_law (wsV RL 180 RX3 yX3_rounds wsX3_rounds) := goodIn_app (goodIn_of _ (by decide +kernel)) ggL_law_X3_rounds
set_option maxRecDepth 20000 in
theorem ggL_law_X2_period : GoodIn wsL_law wsX2_period := goodIn_r _ [573, 16, 574, 575, 125, 126, 127, 2, 128, 15, 314, 51, 315, 316, 71, 72, 550, 551, 552, 258, 132, 133, 134, 69, 135, 136, 553, 554, 555, 556, 557, 558, 576, 642, 643, 644, 645, 646, 661, 662, 663, 664, 665, 666, 667, 668, 669, 670] (by decide +kernel) (by decide +kernel)
set_option maxRecDepth 20000 in
theorem gL_law_X2_period : GoodIn wsL_law (wsV RL 181 RX2 yX2_period wsX2_period) := goodIn_app (goodIn_of _ (by decide +kernel)) ggL_law_X2_period
set_option maxRecDepth 20000 in
theorem ggL_law_X3_period : GoodIn wsL_law wsX3_period := goodIn_r _ [580, 87, 88, 26, 27, 581, 582, 563, 564, 565, 5, 566, 33, 100, 101, 102, 567, 568, 569, 647, 648, 649, 650, 651, 652, 653, 654, 655, 656, 657, 658, 659, 660] (by decide +kernel) (by decide +kernel)
set_option maxRecDepth 20000 in
theorem gL_law_X3_period : GoodIn wsL_law (wsV RL 185 RX3 yX3_period wsX3_period) := goodIn_app (goodIn_of _ (by decide +kernel)) ggL_law_X3_period
set_option maxRecDepth 20000 in
theorem ggL_law_L_density : GoodIn wsL_law wsL_density := goodIn_ca (goodIn_r _ [585, 110, 586, 587, 588, 2, 589, 119, 120, 121, 122, 123, 124, 125, 126, 127, 128, 15, 590, 51, 591, 592, 71, 258, 132, 133, 134, 69, 135, 136, 642, 643, 644, 645, 646, 661, 662, 663, 664, 665, 666, 667, 668, 669, 670] (by decide +kernel) (by decide +kernel)) (goodIn_sub (fun _ h => List.mem_append_right _ h) (by decide +kernel))
set_option maxRecDepth 20000 in
theorem gL_law_L_density : GoodIn wsL_law (va_wsS RL 186 yL_density wsL_density) := goodIn_app (goodIn_of _ (by decide +kernel)) ggL_law_L_density
set_option maxRecDepth 20000 in
theorem ggL_law_X3_density : GoodIn wsL_law wsX3_density := goodIn_r _ [596, 87, 26, 33, 145, 146, 147, 5, 148, 88, 89, 90, 91, 100, 101, 102, 647, 648, 649, 650, 651, 652, 653, 654, 655, 656, 657, 658, 659, 660] (by decide +kernel) (by decide +kernel)
set_option maxRecDepth 20000 in
theorem gL_law_X3_density : GoodIn wsL_law (wsV RL 189 RX3 yX3_density wsX3_density) := goodIn_app (goodIn_of _ (by decide +kernel)) ggL_law_X3_density
set_option maxRecDepth 20000 in
theorem ggL_law_L_setSpeed : GoodIn wsL_law wsL_setSpeed := goodIn_ca (goodIn_r _ [599, 42, 600, 601, 602, 2, 603, 20, 52, 53, 54, 55, 56, 57, 58, 59, 642, 643, 644, 645, 646] (by decide +kernel) (by decide +kernel)) (goodIn_sub (fun _ h => List.mem_append_left _ (List.mem_append_right _ h)) (by decide +kernel))
set_option maxRecDepth 20000 in
theorem gL_law_L_setSpeed : GoodIn wsL_law (va_wsS RL 190 yL_setSpeed wsL_setSpeed) := goodIn_app (goodIn_of _ (by decide +kernel)) ggL_law_L_setSpeed
set_option maxRecDepth 20000 in
theorem ggL_law_X3_setSpeed : GoodIn wsL_law wsX3_setSpeed := goodIn_r _ [607, 87, 37, 89, 90, 5, 91, 92, 93, 94, 95, 647, 648, 649, 650, 651, 652, 653, 654, 655, 656, 657, 658, 659, 660] (by decide +kernel) (by decide +kernel)
set_option maxRecDepth 20000 in
theorem gL_law_X3_setSpeed : GoodIn wsL_law (wsV RL 192 RX3 yX3_setSpeed wsX3_setSpeed) := goodIn_app (goodIn_of _ (by decide +kernel)) ggL_law_X3_setSpeed
set_option maxRecDepth 20000 in
theorem ggL_law_L_seconds : GoodIn wsL_law wsL_seconds := goodIn_ca (goodIn_r _ [610, 42, 611, 612, 613, 2, 614, 615, 20, 616, 299, 300, 301, 302, 52, 53, 54, 55, 56, 57, 58, 59, 642, 643, 644, 645, 646] (by decide +kernel) (by decide +kernel)) (goodIn_sub (fun _ h => List.mem_append_left _ (List.mem_append_right _ h)) (by decide +kernel))
set_option maxRecDepth 20000 in
theorem gL_law_L_seconds : GoodIn wsL_law (va_wsS RL 193 yL_seconds wsL_seconds) := goodIn_app (goodIn_of _ (by decide +kernel)) ggL_law_L_seconds
set_option maxRecDepth 20000 in
theorem ggL_law_X3_seconds : GoodIn wsL_law wsX3_seconds := goodIn_r _ [620, 87, 621, 37, 622, 324, 325, 5, 326, 327, 89, 90, 91, 647, 648, 649, 650, 651, 652, 653, 654, 655, 656, 657, 658, 659, 660] (by decide +kernel) (by decide +kernel)
set_option maxRecDepth 20000 in
theorem gL_law_X3_seconds : GoodIn wsL_law (wsV RL 195 RX3 yX3_seconds wsX3_seconds) := goodIn_app (goodIn_of _ (by decide +kernel)) ggL_law_X3_seconds
set_option maxRecDepth 20000 in
theorem ggL_law_X2_digest : GoodIn wsL_law wsX2_digest := goodIn_r _ [626, 627, 20, 16, 19, 628, 629, 2, 630, 631, 125, 126, 127, 128, 15, 632, 51, 633, 634, 71, 635, 185, 186, 187, 72, 63, 64, 65, 66, 67, 68, 258, 132, 133, 134, 69, 135, 136, 349, 350, 351, 352, 18, 642, 643, 644, 645, 646, 671, 672, 673, 674, 661, 662, 663, 664, 665, 666, 667, 668, 669, 670] (by decide +kernel) (by decide +kernel)
set_option maxRecDepth 20000 in
theorem gL_law_X2_digest : GoodIn wsL_law (wsV RL 196 RX2 yX2_digest wsX2_digest) := goodIn_app (goodIn_of _ (by decide +kernel)) ggL_law_X2_digest
set_option maxRecDepth 20000 in
theorem ggL_law_X3_digest : GoodIn wsL_law wsX3_digest := goodIn_r _ [639, 87, 640, 37, 641, 88, 26, 33, 364, 34, 35, 36, 192, 193, 194, 5, 195, 27, 28, 29, 30, 32, 100, 101, 102, 647, 648, 649, 650, 651, 652, 653, 654, 655, 656, 657, 658, 659, 660] (by decide +kernel) (by decide +kernel)
set_option maxRecDepth 20000 in
theorem gL_law_X3_digest : GoodIn wsL_law (wsV RL 199 RX3 yX3_digest wsX3_digest) := goodIn_app (goodIn_of _ (by decide +kernel)) ggL_law_X3_digest
