set_option maxRecDepth 20000 in
theorem ggL_law_X1_init : GoodIn wsL_law wsX1_init := goodIn_r _ [9, 10, 11, 12, 13, 14, 15, 16, 17, 18, 19, 20, 21, 22, 23, 24, 25, 26, 27, 28, 29, 30, 31, 32, 33, 34, 35, 36, 37, 38, 39, 40, 41, 42, 43, 44, 45, 46, 47, 650, 651, 652, 653, 654, 655, 656, 657, 658, 659, 660, 661, 662, 663, 664, 665, 666, 641, 642] (by decide +kernel) (by decide +kernel)
set_option maxRecDepth 20000 in
theorem gL_law_X1_init : GoodIn wsL_law (wsX1_init) := ggL_law_X1_init
set_option maxRecDepth 20000 in
theorem ggL_law_X2_init : GoodIn wsL_law wsX2_init := goodIn_r _ [50, 51, 11, 12, 52, 53, 22, 54, 55, 56, 643, 644, 645, 646, 647, 648, 649] (by decide +kernel) (by decide +kernel)
set_option maxRecDepth 20000 in
theorem gL_law_X2_init : GoodIn wsL_law (wsX2_init) := ggL_law_X2_init
set_option maxRecDepth 20000 in
theorem ggL_law_L_newDinner : GoodIn wsL_law wsL_newDinner := goodIn_ca (goodIn_r _ [60, 61, 62, 63, 64, 2, 65, 16, 66, 67, 68, 69, 70, 71, 72, 73, 15, 74, 35, 75, 76, 77, 78, 79, 80, 81, 82, 83, 84, 85, 40, 86, 87, 88, 89, 26, 90, 32, 33, 34, 36, 37, 38, 39, 41, 42, 43, 23, 24, 25, 27, 28, 44, 45, 46, 47, 641, 642, 650, 651, 652, 653, 654, 655, 656, 657, 658, 659, 660, 661, 662, 663, 664, 665, 666] (by decide +kernel) (by decide +kernel)) (goodIn_sub (fun _ h => List.mem_append_left _ (List.mem_append_left _ (List.mem_append_right _ h))) (by decide +kernel))
set_option maxRecDepth 20000 in
theorem gL_law_L_newDinner : GoodIn wsL_law (va_wsS RL 76 yL_newDinner wsL_newDinner) := goodIn_app (goodIn_of _ (by decide +kernel)) ggL_law_L_newDinner
set_option maxRecDepth 20000 in
theorem ggL_law_X2_newDinner : GoodIn wsL_law wsX2_newDinner := goodIn_r _ [94, 95, 54, 52, 96, 97, 5, 98, 99, 100, 101, 102, 103, 104, 105, 106, 107, 76, 77, 78, 108, 80, 81, 109, 110, 111, 112, 643, 644, 645, 646, 647, 648, 649] (by decide +kernel) (by decide +kernel)
set_option maxRecDepth 20000 in
theorem gL_law_X2_newDinner : GoodIn wsL_law (wsV RL 81 RX2 yX2_newDinner wsX2_newDinner) := goodIn_app (goodIn_of _ (by decide +kernel)) ggL_law_X2_newDinner
set_option maxRecDepth 20000 in
theorem ggL_law_X2_thrown : GoodIn wsL_law wsX2_thrown := goodIn_r _ [116, 95, 643, 644, 645, 646, 647, 648, 649] (by decide +kernel) (by decide +kernel)
set_option maxRecDepth 20000 in
theorem gL_law_X2_thrown : GoodIn wsL_law (wsV RL 82 RX2 yX2_thrown wsX2_thrown) := goodIn_app (goodIn_of _ (by decide +kernel)) ggL_law_X2_thrown
set_option maxRecDepth 20000 in
theorem ggL_law_L_setLimit : GoodIn wsL_law wsL_setLimit := goodIn_ca (goodIn_r _ [119, 61, 120, 121, 122, 2, 123, 16, 124, 66, 67, 68, 69, 70, 641, 642, 650, 651, 652, 653, 654, 655, 656, 657, 658, 659, 660, 661, 662, 663, 664, 665, 666] (by decide +kernel) (by decide +kernel)) (goodIn_sub (fun _ h => List.mem_append_left _ (List.mem_append_left _ (List.mem_append_right _ h))) (by decide +kernel))
set_option maxRecDepth 20000 in
theorem gL_law_L_setLimit : GoodIn wsL_law (va_wsS RL 86 yL_setLimit wsL_setLimit) := goodIn_app (goodIn_of _ (by decide +kernel)) ggL_law_L_setLimit
set_option maxRecDepth 20000 in
theorem ggL_law_X2_setLimit : GoodIn wsL_law wsX2_setLimit := goodIn_r _ [128, 95, 53, 96, 97, 5, 98, 99, 100, 101, 102, 643, 644, 645, 646, 647, 648, 649] (by decide +kernel) (by decide +kernel)
set_option maxRecDepth 20000 in
theorem gL_law_X2_setLimit : GoodIn wsL_law (wsV RL 88 RX2 yX2_setLimit wsX2_setLimit) := goodIn_app (goodIn_of _ (by decide +kernel)) ggL_law_X2_setLimit
set_option maxRecDepth 20000 in
theorem ggL_law_L_speak : GoodIn wsL_law wsL_speak := goodIn_ca (goodIn_ca (goodIn_r _ [131, 132, 61, 133, 134, 135, 2, 136, 16, 137, 138, 139, 140, 141, 142, 143, 66, 67, 68, 69, 70, 144, 145, 146, 15, 147, 37, 24, 38, 641, 642, 650, 651, 652, 653, 654, 655, 656, 657, 658, 659, 660, 661, 662, 663, 664, 665, 666] (by decide +kernel) (by decide +kernel)) (goodIn_sub (fun _ h => List.mem_append_left _ (List.mem_append_right _ h)) (by decide +kernel))) (goodIn_sub (fun _ h => List.mem_append_left _ (List.mem_append_left _ (List.mem_append_right _ h))) (by decide +kernel))
set_option maxRecDepth 20000 in
theorem gL_law_L_speak : GoodIn wsL_law (va_wsS RL 89 yL_speak wsL_speak) := goodIn_app (goodIn_of _ (by decide +kernel)) ggL_law_L_speak
set_option maxRecDepth 20000 in
theorem ggL_law_X2_speak : GoodIn wsL_law wsX2_speak := goodIn_r _ [151, 95, 54, 152, 153, 154, 5, 155, 52, 96, 97, 98, 99, 100, 101, 102, 643, 644, 645, 646, 647, 648, 649] (by decide +kernel) (by decide +kernel)
set_option maxRecDepth 20000 in
theorem gL_law_X2_speak : GoodIn wsL_law (wsV RL 92 RX2 yX2_speak wsX2_speak) := goodIn_app (goodIn_of _ (by decide +kernel)) ggL_law_X2_speak
set_option maxRecDepth 20000 in
theorem ggL_law_L_cough : GoodIn wsL_law wsL_cough := goodIn_ca (goodIn_ca (goodIn_r _ [158, 132, 61, 159, 160, 161, 2, 162, 16, 137, 138, 139, 140, 141, 142, 143, 66, 67, 68, 69, 70, 163, 164, 165, 15, 166, 25, 26, 167, 168, 169, 170, 37, 641, 642, 650, 651, 652, 653, 654, 655, 656, 657, 658, 659, 660, 661, 662, 663, 664, 665, 666] (by decide +kernel) (by decide +kernel)) (goodIn_sub (fun _ h => List.mem_append_left _ (List.mem_append_right _ h)) (by decide +kernel))) (goodIn_sub (fun _ h => List.mem_append_left _ (List.mem_append_left _ (List.mem_append_right _ h))) (by decide +kernel))
set_option maxRecDepth 20000 in
theorem gL_law_L_cough : GoodIn wsL_law (va_wsS RL 93 yL_cough wsL_cough) := goodIn_app (goodIn_of _ (by decide +kernel)) ggL_law_L_cough
set_option maxRecDepth 20000 in
theorem ggL_law_X2_cough : GoodIn wsL_law wsX2_cough := goodIn_r _ [174, 95, 54, 152, 153, 154, 5, 155, 52, 96, 97, 98, 99, 100, 101, 102, 643, 644, 645, 646, 647, 648, 649] (by decide +kernel) (by decide +kernel)
set_option maxRecDepth 20000 in
theorem gL_law_X2_cough : GoodIn wsL_law (wsV RL 95 RX2 yX2_cough wsX2_cough) := goodIn_app (goodIn_of _ (by decide +kernel)) ggL_law_X2_cough
set_option maxRecDepth 20000 in
theorem ggL_law_L_glance : GoodIn wsL_law wsL_glance := goodIn_ca (goodIn_ca (goodIn_ca (goodIn_r _ [177, 132, 61, 178, 179, 180, 181, 2, 182, 16, 183, 184, 185, 186, 69, 70, 187, 188, 137, 138, 139, 140, 141, 142, 143, 189, 190, 191, 192, 193, 194, 15, 195, 27, 196, 197, 198, 199, 43, 29, 200, 201, 202, 203, 204, 205, 206, 207, 75, 76, 77, 78, 35, 208, 209, 210, 641, 642, 650, 651, 652, 653, 654, 655, 656, 657, 658, 659, 660, 661, 662, 663, 664, 665, 666] (by decide +kernel) (by decide +kernel)) (goodIn_sub (fun _ h => List.mem_append_left _ (List.mem_append_left _ (List.mem_append_right _ h))) (by decide +kernel))) (goodIn_sub (fun _ h => List.mem_append_right _ h) (by decide +kernel))) (goodIn_sub (fun _ h => List.mem_append_left _ (List.mem_append_right _ h)) (by decide +kernel))
set_option maxRecDepth 20000 in
theorem gL_law_L_glance : GoodIn wsL_law (va_wsS RL 96 yL_glance wsL_glance) := goodIn_app (goodIn_of _ (by decide +kernel)) ggL_law_L_glance
set_option maxRecDepth 20000 in
theorem ggL_law_X2_glance : GoodIn wsL_law wsX2_glance := goodIn_r _ [214, 215, 216, 217, 5, 218, 54, 95, 152, 153, 154, 155, 52, 96, 97, 98, 219, 220, 221, 222, 223, 224, 225, 226, 227, 228, 229, 107, 76, 77, 78, 230, 209, 210, 643, 644, 645, 646, 647, 648, 649] (by decide +kernel) (by decide +kernel)
set_option maxRecDepth 20000 in
theorem gL_law_X2_glance : GoodIn wsL_law (wsV RL 98 RX2 yX2_glance wsX2_glance) := goodIn_app (goodIn_of _ (by decide +kernel)) ggL_law_X2_glance
set_option maxRecDepth 20000 in
theorem ggL_law_L_pass : GoodIn wsL_law wsL_pass := goodIn_ca (goodIn_r _ [233, 61, 234, 235, 236, 2, 237, 16, 66, 67, 68, 69, 70, 238, 83, 84, 15, 85, 40, 86, 87, 88, 89, 35, 26, 239, 240, 241, 242, 243, 244, 245, 246, 36, 247, 248, 249, 250, 37, 39, 23, 38, 251, 252, 253, 254, 30, 255, 256, 257, 258, 43, 27, 29, 259, 260, 261, 262, 41, 42, 28, 190, 191, 263, 193, 194, 195, 264, 265, 266, 267, 641, 642, 650, 651, 652, 653, 654, 655, 656, 657, 658, 659, 660, 661, 662, 663, 664, 665, 666] (by decide +kernel) (by decide +kernel)) (goodIn_sub (fun _ h => List.mem_append_left _ (List.mem_append_left _ (List.mem_append_right _ h))) (by decide +kernel))
set_option maxRecDepth 20000 in
theorem gL_law_L_pass : GoodIn wsL_law (va_wsS RL 99 yL_pass wsL_pass) := goodIn_app (goodIn_of _ (by decide +kernel)) ggL_law_L_pass
set_option maxRecDepth 20000 in
theorem ggL_law_X2_pass : GoodIn wsL_law wsX2_pass := goodIn_r _ [271, 95, 96, 97, 5, 98, 99, 100, 101, 102, 109, 110, 111, 112, 54, 52, 272, 273, 274, 275, 276, 277, 278, 279, 280, 281, 282, 283, 53, 284, 285, 286, 287, 288, 289, 290, 291, 56, 292, 219, 220, 221, 643, 644, 645, 646, 647, 648, 649] (by decide +kernel) (by decide +kernel)
set_option maxRecDepth 20000 in
theorem gL_law_X2_pass : GoodIn wsL_law (wsV RL 101 RX2 yX2_pass wsX2_pass) := goodIn_app (goodIn_of _ (by decide +kernel)) ggL_law_X2_pass
set_option maxRecDepth 20000 in
theorem ggL_law_X1_guests : GoodIn wsL_law wsX1_guests := goodIn_r _ [296, 16, 143, 641, 642, 650, 651, 652, 653, 654, 655, 656, 657, 658, 659, 660, 661, 662, 663, 664, 665, 666] (by decide +kernel) (by decide +kernel)
set_option maxRecDepth 20000 in
theorem gL_law_X1_guests : GoodIn wsL_law (wsV RL 102 RX1 yX1_guests wsX1_guests) := goodIn_app (goodIn_of _ (by decide +kernel)) ggL_law_X1_guests
set_option maxRecDepth 20000 in
theorem ggL_law_X2_guests : GoodIn wsL_law wsX2_guests := goodIn_r _ [300, 52, 301, 302, 303, 5, 304, 95, 643, 644, 645, 646, 647, 648, 649] (by decide +kernel) (by decide +kernel)
set_option maxRecDepth 20000 in
theorem gL_law_X2_guests : GoodIn wsL_law (wsV RL 105 RX2 yX2_guests wsX2_guests) := goodIn_app (goodIn_of _ (by decide +kernel)) ggL_law_X2_guests
set_option maxRecDepth 20000 in
theorem ggL_law_X1_seconds : GoodIn wsL_law wsX1_seconds := goodIn_r _ [308, 16, 309, 641, 642, 650, 651, 652, 653, 654, 655, 656, 657, 658, 659, 660, 661, 662, 663, 664, 665, 666] (by decide +kernel) (by decide +kernel)
set_option maxRecDepth 20000 in
theorem gL_law_X1_seconds : GoodIn wsL_law (wsV RL 106 RX1 yX1_seconds wsX1_seconds) := goodIn_app (goodIn_of _ (by decide +kernel)) ggL_law_X1_seconds
set_option maxRecDepth 20000 in
theorem ggL_law_X2_seconds : GoodIn wsL_law wsX2_seconds := goodIn_r _ [313, 54, 301, 302, 303, 5, 304, 95, 643, 644, 645, 646, 647, 648, 649] (by decide +kernel) (by decide +kernel)
set_option maxRecDepth 20000 in
theorem gL_law_X2_seconds : GoodIn wsL_law (wsV RL 109 RX2 yX2_seconds wsX2_seconds) := goodIn_app (goodIn_of _ (by decide +kernel)) ggL_law_X2_seconds
set_option maxRecDepth 20000 in
theorem ggL_law_X1_limit : GoodIn wsL_law wsX1_limit := goodIn_r _ [317, 16, 124, 641, 642, 650, 651, 652, 653, 654, 655, 656, 657, 658, 659, 660, 661, 662, 663, 664, 665, 666] (by decide +kernel) (by decide +kernel)
set_option maxRecDepth 20000 in
theorem gL_law_X1_limit : GoodIn wsL_law (wsV RL 110 RX1 yX1_limit wsX1_limit) := goodIn_app (goodIn_of _ (by decide +kernel)) ggL_law_X1_limit
set_option maxRecDepth 20000 in
theorem ggL_law_X2_limit : GoodIn wsL_law wsX2_limit := goodIn_r _ [321, 53, 301, 302, 303, 5, 304, 95, 643, 644, 645, 646, 647, 648, 649] (by decide +kernel) (by decide +kernel)
set_option maxRecDepth 20000 in
theorem gL_law_X2_limit : GoodIn wsL_law (wsV RL 113 RX2 yX2_limit wsX2_limit) := goodIn_app (goodIn_of _ (by decide +kernel)) ggL_law_X2_limit
set_option maxRecDepth 20000 in
theorem ggL_law_L_seatsApart : GoodIn wsL_law wsL_seatsApart := goodIn_ca (goodIn_r _ [324, 132, 325, 326, 327, 2, 328, 16, 137, 138, 139, 140, 141, 142, 143, 329, 205, 206, 15, 207, 75, 76, 77, 78, 35, 208, 209, 210, 641, 642, 650, 651, 652, 653, 654, 655, 656, 657, 658, 659, 660, 661, 662, 663, 664, 665, 666] (by decide +kernel) (by decide +kernel)) (goodIn_sub (fun _ h => List.mem_append_left _ (List.mem_append_right _ h)) (by decide +kernel))
set_option maxRecDepth 20000 in
theorem gL_law_L_seatsApart : GoodIn wsL_law (va_wsS RL 114 yL_seatsApart wsL_seatsApart) := goodIn_app (goodIn_of _ (by decide +kernel)) ggL_law_L_seatsApart
set_option maxRecDepth 20000 in
theorem ggL_law_X2_seatsApart : GoodIn wsL_law wsX2_seatsApart := goodIn_r _ [333, 95, 152, 153, 154, 5, 155, 52, 96, 97, 98, 226, 227, 228, 229, 107, 76, 77, 78, 230, 209, 210, 99, 100, 101, 102, 643, 644, 645, 646, 647, 648, 649] (by decide +kernel) (by decide +kernel)
set_option maxRecDepth 20000 in
theorem gL_law_X2_seatsApart : GoodIn wsL_law (wsV RL 116 RX2 yX2_seatsApart wsX2_seatsApart) := goodIn_app (goodIn_of _ (by decide +kernel)) ggL_law_X2_seatsApart
set_option maxRecDepth 20000 in
theorem ggL_law_X1_speaker : GoodIn wsL_law wsX1_speaker := goodIn_r _ [337, 16, 338, 641, 642, 650, 651, 652, 653, 654, 655, 656, 657, 658, 659, 660, 661, 662, 663, 664, 665, 666] (by decide +kernel) (by decide +kernel)
set_option maxRecDepth 20000 in
theorem gL_law_X1_speaker : GoodIn wsL_law (wsV RL 117 RX1 yX1_speaker wsX1_speaker) := goodIn_app (goodIn_of _ (by decide +kernel)) ggL_law_X1_speaker
set_option maxRecDepth 20000 in
theorem ggL_law_X2_speaker : GoodIn wsL_law wsX2_speaker := goodIn_r _ [342, 54, 301, 302, 303, 5, 304, 95, 643, 644, 645, 646, 647, 648, 649] (by decide +kernel) (by decide +kernel)
set_option maxRecDepth 20000 in
theorem gL_law_X2_speaker : GoodIn wsL_law (wsV RL 120 RX2 yX2_speaker wsX2_speaker) := goodIn_app (goodIn_of _ (by decide +kernel)) ggL_law_X2_speaker
set_option maxRecDepth 20000 in
theorem ggL_law_X1_secondsToSpeak : GoodIn wsL_law wsX1_secondsToSpeak := goodIn_r _ [346, 16, 347, 641, 642, 650, 651, 652, 653, 654, 655, 656, 657, 658, 659, 660, 661, 662, 663, 664, 665, 666] (by decide +kernel) (by decide +kernel)
set_option maxRecDepth 20000 in
theorem gL_law_X1_secondsToSpeak : GoodIn wsL_law (wsV RL 121 RX1 yX1_secondsToSpeak wsX1_secondsToSpeak) := goodIn_app (goodIn_of _ (by decide +kernel)) ggL_law_X1_secondsToSpeak
set_option maxRecDepth 20000 in
theorem ggL_law_X2_secondsToSpeak : GoodIn wsL_law wsX2_secondsToSpeak := goodIn_r _ [351, 352, 353, 354, 5, 355, 54, 301, 302, 303, 304, 95, 643, 644, 645, 646, 647, 648, 649] (by decide +kernel) (by decide +kernel)
set_option maxRecDepth 20000 in
theorem gL_law_X2_secondsToSpeak : GoodIn wsL_law (wsV RL 124 RX2 yX2_secondsToSpeak wsX2_secondsToSpeak) := goodIn_app (goodIn_of _ (by decide +kernel)) ggL_law_X2_secondsToSpeak
set_option maxRecDepth 20000 in
theorem ggL_law_X1_pause : GoodIn wsL_law wsX1_pause := goodIn_r _ [359, 16, 360, 641, 642, 650, 651, 652, 653, 654, 655, 656, 657, 658, 659, 660, 661, 662, 663, 664, 665, 666] (by decide +kernel) (by decide +kernel)
set_option maxRecDepth 20000 in
theorem gL_law_X1_pause : GoodIn wsL_law (wsV RL 125 RX1 yX1_pause wsX1_pause) := goodIn_app (goodIn_of _ (by decide +kernel)) ggL_law_X1_pause
set_option maxRecDepth 20000 in
theorem ggL_law_X2_pause : GoodIn wsL_law wsX2_pause := goodIn_r _ [364, 54, 301, 302, 303, 5, 304, 95, 643, 644, 645, 646, 647, 648, 649] (by decide +kernel) (by decide +kernel)
set_option maxRecDepth 20000 in
theorem gL_law_X2_pause : GoodIn wsL_law (wsV RL 128 RX2 yX2_pause wsX2_pause) := goodIn_app (goodIn_of _ (by decide +kernel)) ggL_law_X2_pause
set_option maxRecDepth 20000 in
theorem ggL_law_L_spokenBy : GoodIn wsL_law wsL_spokenBy := goodIn_ca (goodIn_r _ [367, 132, 368, 369, 370, 2, 371, 16, 372, 137, 138, 139, 140, 141, 142, 143, 641, 642, 650, 651, 652, 653, 654, 655, 656, 657, 658, 659, 660, 661, 662, 663, 664, 665, 666] (by decide +kernel) (by decide +kernel)) (goodIn_sub (fun _ h => List.mem_append_left _ (List.mem_append_right _ h)) (by decide +kernel))
set_option maxRecDepth 20000 in
theorem gL_law_L_spokenBy : GoodIn wsL_law (va_wsS RL 129 yL_spokenBy wsL_spokenBy) := goodIn_app (goodIn_of _ (by decide +kernel)) ggL_law_L_spokenBy
set_option maxRecDepth 20000 in
theorem ggL_law_X2_spokenBy : GoodIn wsL_law wsX2_spokenBy := goodIn_r _ [376, 377, 378, 379, 5, 380, 95, 54, 152, 153, 154, 155, 52, 96, 97, 98, 99, 100, 101, 102, 643, 644, 645, 646, 647, 648, 649] (by decide +kernel) (by decide +kernel)
set_option maxRecDepth 20000 in
theorem gL_law_X2_spokenBy : GoodIn wsL_law (wsV RL 131 RX2 yX2_spokenBy wsX2_spokenBy) := goodIn_app (goodIn_of _ (by decide +kernel)) ggL_law_X2_spokenBy
set_option maxRecDepth 20000 in
theorem ggL_law_L_interruptionsBy : GoodIn wsL_law wsL_interruptionsBy := goodIn_ca (goodIn_r _ [383, 132, 384, 385, 386, 2, 387, 16, 388, 137, 138, 139, 140, 141, 142, 143, 641, 642, 650, 651, 652, 653, 654, 655, 656, 657, 658, 659, 660, 661, 662, 663, 664, 665, 666] (by decide +kernel) (by decide +kernel)) (goodIn_sub (fun _ h => List.mem_append_left _ (List.mem_append_right _ h)) (by decide +kernel))
set_option maxRecDepth 20000 in
theorem gL_law_L_interruptionsBy : GoodIn wsL_law (va_wsS RL 132 yL_interruptionsBy wsL_interruptionsBy) := goodIn_app (goodIn_of _ (by decide +kernel)) ggL_law_L_interruptionsBy
set_option maxRecDepth 20000 in
theorem ggL_law_X2_interruptionsBy : GoodIn wsL_law wsX2_interruptionsBy := goodIn_r _ [392, 377, 378, 379, 5, 380, 95, 54, 152, 153, 154, 155, 52, 96, 97, 98, 99, 100, 101, 102, 643, 644, 645, 646, 647, 648, 649] (by decide +kernel) (by decide +kernel)
set_option maxRecDepth 20000 in
theorem gL_law_X2_interruptionsBy : GoodIn wsL_law (wsV RL 134 RX2 yX2_interruptionsBy wsX2_interruptionsBy) := goodIn_app (goodIn_of _ (by decide +kernel)) ggL_law_X2_interruptionsBy
set_option maxRecDepth 20000 in
theorem ggL_law_L_coughsOf : GoodIn wsL_law wsL_coughsOf := goodIn_ca (goodIn_r _ [395, 132, 396, 397, 398, 2, 399, 16, 400, 137, 138, 139, 140, 141, 142, 143, 641, 642, 650, 651, 652, 653, 654, 655, 656, 657, 658, 659, 660, 661, 662, 663, 664, 665, 666] (by decide +kernel) (by decide +kernel)) (goodIn_sub (fun _ h => List.mem_append_left _ (List.mem_append_right _ h)) (by decide +kernel))
set_option maxRecDepth 20000 in
theorem gL_law_L_coughsOf : GoodIn wsL_law (va_wsS RL 135 yL_coughsOf wsL_coughsOf) := goodIn_app (goodIn_of _ (by decide +kernel)) ggL_law_L_coughsOf
set_option maxRecDepth 20000 in
theorem ggL_law_X2_coughsOf : GoodIn wsL_law wsX2_coughsOf := goodIn_r _ [404, 377, 378, 379, 5, 380, 95, 54, 152, 153, 154, 155, 52, 96, 97, 98, 99, 100, 101, 102, 643, 644, 645, 646, 647, 648, 649] (by decide +kernel) (by decide +kernel)
set_option maxRecDepth 20000 in
theorem gL_law_X2_coughsOf : GoodIn wsL_law (wsV RL 137 RX2 yX2_coughsOf wsX2_coughsOf) := goodIn_app (goodIn_of _ (by decide +kernel)) ggL_law_X2_coughsOf
