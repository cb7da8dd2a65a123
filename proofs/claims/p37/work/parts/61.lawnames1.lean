set_option maxRecDepth 20000 in
theorem ggL_law_X1_init : GoodIn wsL_law wsX1_init := goodIn_r _ [14, 15, 16, 17, 18, 19, 20, 21, 22, 23, 24, 25, 26, 4, 27, 28, 29, 30, 31, 32, 33, 34, 35, 36, 37, 38, 39, 40, 41, 42, 43, 44, 45, 46, 47, 48, 49, 50, 51, 382, 383, 384, 385, 386, 387, 388, 389, 390, 391, 392, 393, 394, 395, 396, 397, 398, 380, 381] (by decide +kernel) (by decide +kernel)
set_option maxRecDepth 20000 in
theorem gL_law_X1_init : GoodIn wsL_law (wsX1_init) := ggL_law_X1_init
set_option maxRecDepth 20000 in
theorem ggL_law_L_build_r1 : GoodIn wsL_law (.code yL_build cL_build 5 (some (.object "PauseLedgerLaw$Sim")) :: wsL_build_r1) := goodIn_r _ [55, 56, 57, 58, 59, 60, 61, 54, 62, 63, 64, 65, 66, 67, 68, 69, 70, 71, 16, 17, 72, 73, 74, 75, 76] (by decide +kernel) (by decide +kernel)
set_option maxRecDepth 20000 in
theorem ggL_law_L_build_r2 : GoodIn wsL_law wsL_build_r2 := goodIn_r _ [4, 77, 78, 79, 80, 81, 82, 83, 84, 85, 2, 86, 21, 87, 88, 89, 90, 91, 92, 93, 94, 20, 95, 39] (by decide +kernel) (by decide +kernel)
set_option maxRecDepth 20000 in
theorem ggL_law_L_build_r3 : GoodIn wsL_law wsL_build_r3 := goodIn_r _ [96, 6, 7, 8, 97, 10, 11, 98, 99, 100, 101, 44, 102, 103, 104, 105, 30, 106, 36, 37, 38, 40, 41, 42] (by decide +kernel) (by decide +kernel)
set_option maxRecDepth 20000 in
theorem ggL_law_L_build_r4 : GoodIn wsL_law wsL_build_r4 := goodIn_r _ [43, 45, 46, 47, 27, 28, 29, 31, 32, 48, 49, 50, 51, 107, 108, 109, 110, 111, 112, 113, 114, 115, 116, 117] (by decide +kernel) (by decide +kernel)
set_option maxRecDepth 20000 in
theorem ggL_law_L_build_r5 : GoodIn wsL_law wsL_build_r5 := goodIn_r _ [118, 119, 120, 121, 122, 123, 124, 125, 126, 127, 128, 129, 130, 131, 132, 133, 134, 135, 136, 137, 138, 139, 140, 141] (by decide +kernel) (by decide +kernel)
set_option maxRecDepth 20000 in
theorem ggL_law_L_build_r6 : GoodIn wsL_law wsL_build_r6 := goodIn_r _ [142, 143, 144, 145, 146, 147, 148, 149, 150, 151, 152, 153, 154, 155, 156, 157, 158, 159, 160, 161, 162, 163, 164, 165] (by decide +kernel) (by decide +kernel)
set_option maxRecDepth 20000 in
theorem ggL_law_L_build_r7 : GoodIn wsL_law wsL_build_r7 := goodIn_r _ [166, 167, 168, 169, 170, 171, 172, 173, 174, 175, 176, 177, 178, 179, 180, 181, 33, 182, 183, 184, 185, 186, 187, 188] (by decide +kernel) (by decide +kernel)
set_option maxRecDepth 20000 in
theorem ggL_law_L_build_r8 : GoodIn wsL_law wsL_build_r8 := goodIn_r _ [189, 190, 191, 192, 193, 194, 195, 196, 197, 198, 199, 200, 201, 202, 203, 204, 205, 206, 207, 208, 209, 210, 211, 212] (by decide +kernel) (by decide +kernel)
set_option maxRecDepth 20000 in
theorem ggL_law_L_build_r9 : GoodIn wsL_law wsL_build_r9 := goodIn_r _ [213, 214, 215, 216, 217, 218, 219, 220, 221, 222, 34, 223, 224, 225, 226, 227, 228, 229, 230, 231, 232, 233, 234, 235] (by decide +kernel) (by decide +kernel)
set_option maxRecDepth 20000 in
theorem ggL_law_L_build_r10 : GoodIn wsL_law wsL_build_r10 := goodIn_r _ [236, 237, 238, 239, 240, 241, 242, 243, 244, 245, 246, 247, 248, 249] (by decide +kernel) (by decide +kernel)
set_option maxRecDepth 20000 in
theorem ggL_law_L_build : GoodIn wsL_law wsL_build := goodIn_ca (goodIn_ca (goodIn_ca (goodIn_ca (goodIn_ca (goodIn_ca (goodIn_ca ggL_law_L_build_r1 (goodIn_app ggL_law_L_build_r2 (goodIn_app ggL_law_L_build_r3 (goodIn_app ggL_law_L_build_r4 (goodIn_app ggL_law_L_build_r5 (goodIn_app ggL_law_L_build_r6 (goodIn_app ggL_law_L_build_r7 (goodIn_app ggL_law_L_build_r8 (goodIn_app ggL_law_L_build_r9 (ggL_law_L_build_r10)))))))))) (goodIn_sub (fun _ h => List.mem_append_left _ (List.mem_append_left _ (List.mem_append_left _ (List.mem_append_left _ (List.mem_append_right _ h))))) (by decide +kernel))) (goodIn_sub (fun _ h => List.mem_append_left _ (List.mem_append_left _ (List.mem_append_left _ (List.mem_append_left _ (List.mem_append_left _ (List.mem_append_left _ (List.mem_append_right _ h))))))) (by decide +kernel))) (goodIn_sub (fun _ h => List.mem_append_left _ (List.mem_append_left _ (List.mem_append_left _ (List.mem_append_left _ (List.mem_append_left _ (List.mem_append_right _ h)))))) (by decide +kernel))) (goodIn_sub (fun _ h => List.mem_append_left _ (List.mem_append_left _ (List.mem_append_right _ h))) (by decide +kernel))) (goodIn_sub (fun _ h => List.mem_append_left _ (List.mem_append_right _ h)) (by decide +kernel))) (goodIn_sub (fun _ h => List.mem_append_right _ h) (by decide +kernel))
set_option maxRecDepth 20000 in
theorem gL_law_L_build : GoodIn wsL_law (va_wsS RL 90 yL_build wsL_build) := goodIn_app (goodIn_of _ (by decide +kernel)) ggL_law_L_build
set_option maxRecDepth 20000 in
theorem ggL_law_L_cell : GoodIn wsL_law wsL_cell := goodIn_r _ [62, 63] (by decide +kernel) (by decide +kernel)
set_option maxRecDepth 20000 in
theorem gL_law_L_cell : GoodIn wsL_law (va_wsS RL 81 yL_cell wsL_cell) := goodIn_app (goodIn_of _ (by decide +kernel)) ggL_law_L_cell
set_option maxRecDepth 20000 in
theorem ggL_law_L_act_r1 : GoodIn wsL_law (.code yL_act cL_act 13 (some (.object "PauseLedgerLaw$Sim")) :: wsL_act_r1) := goodIn_r _ [109, 59, 56, 57, 58, 110, 111, 112, 113, 114, 115, 64, 65, 54, 66, 67, 68, 69, 70, 71, 16, 17, 72, 73, 74] (by decide +kernel) (by decide +kernel)
set_option maxRecDepth 20000 in
theorem ggL_law_L_act_r2 : GoodIn wsL_law wsL_act_r2 := goodIn_r _ [75, 76, 4, 77, 78, 79, 80, 81, 82, 83, 84, 85, 2, 86, 21, 87, 88, 89, 90, 91, 92, 93, 94, 20] (by decide +kernel) (by decide +kernel)
set_option maxRecDepth 20000 in
theorem ggL_law_L_act_r3 : GoodIn wsL_law wsL_act_r3 := goodIn_r _ [95, 39, 96, 6, 7, 8, 97, 10, 11, 98, 99, 100, 101, 44, 102, 103, 104, 105, 30, 106, 36, 37, 38, 40] (by decide +kernel) (by decide +kernel)
set_option maxRecDepth 20000 in
theorem ggL_law_L_act_r4 : GoodIn wsL_law wsL_act_r4 := goodIn_r _ [41, 42, 43, 45, 46, 47, 27, 28, 29, 31, 32, 48, 49, 50, 51, 116, 117, 118, 119, 120, 121, 122, 123, 124] (by decide +kernel) (by decide +kernel)
set_option maxRecDepth 20000 in
theorem ggL_law_L_act_r5 : GoodIn wsL_law wsL_act_r5 := goodIn_r _ [125, 126, 127, 128, 129, 130, 131, 132, 133, 134, 135, 136, 137, 138, 139, 140, 141, 142, 143, 144, 145, 146, 147, 148] (by decide +kernel) (by decide +kernel)
set_option maxRecDepth 20000 in
theorem ggL_law_L_act_r6 : GoodIn wsL_law wsL_act_r6 := goodIn_r _ [149, 150, 151, 152, 153, 154, 155, 156, 157, 158, 159, 160, 161, 162, 163, 164, 165, 166, 167, 168, 169, 170, 171, 172] (by decide +kernel) (by decide +kernel)
set_option maxRecDepth 20000 in
theorem ggL_law_L_act_r7 : GoodIn wsL_law wsL_act_r7 := goodIn_r _ [173, 174, 175, 176, 177, 178, 179, 180, 181, 33, 182, 183, 184, 185, 186, 187, 188, 189, 190, 191, 192, 193, 194, 195] (by decide +kernel) (by decide +kernel)
set_option maxRecDepth 20000 in
theorem ggL_law_L_act_r8 : GoodIn wsL_law wsL_act_r8 := goodIn_r _ [196, 197, 198, 199, 200, 201, 202, 203, 204, 205, 206, 207, 208, 209, 210, 211, 212, 213, 214, 215, 216, 217, 218, 219] (by decide +kernel) (by decide +kernel)
set_option maxRecDepth 20000 in
theorem ggL_law_L_act_r9 : GoodIn wsL_law wsL_act_r9 := goodIn_r _ [220, 221, 222, 34, 223, 224, 225, 226, 227, 228, 229, 230, 231, 232, 233, 234, 235, 236, 237, 238, 239, 240, 241, 242] (by decide +kernel) (by decide +kernel)
set_option maxRecDepth 20000 in
theorem ggL_law_L_act_r10 : GoodIn wsL_law wsL_act_r10 := goodIn_r _ [243, 244, 245, 246, 247, 248, 249] (by decide +kernel) (by decide +kernel)
set_option maxRecDepth 20000 in
theorem ggL_law_L_act : GoodIn wsL_law wsL_act := goodIn_ca (goodIn_ca (goodIn_ca (goodIn_ca (goodIn_ca (goodIn_ca (goodIn_ca ggL_law_L_act_r1 (goodIn_app ggL_law_L_act_r2 (goodIn_app ggL_law_L_act_r3 (goodIn_app ggL_law_L_act_r4 (goodIn_app ggL_law_L_act_r5 (goodIn_app ggL_law_L_act_r6 (goodIn_app ggL_law_L_act_r7 (goodIn_app ggL_law_L_act_r8 (goodIn_app ggL_law_L_act_r9 (ggL_law_L_act_r10)))))))))) (goodIn_sub (fun _ h => List.mem_append_left _ (List.mem_append_left _ (List.mem_append_left _ (List.mem_append_left _ (List.mem_append_right _ h))))) (by decide +kernel))) (goodIn_sub (fun _ h => List.mem_append_left _ (List.mem_append_left _ (List.mem_append_left _ (List.mem_append_left _ (List.mem_append_left _ (List.mem_append_left _ (List.mem_append_right _ h))))))) (by decide +kernel))) (goodIn_sub (fun _ h => List.mem_append_left _ (List.mem_append_left _ (List.mem_append_left _ (List.mem_append_left _ (List.mem_append_left _ (List.mem_append_right _ h)))))) (by decide +kernel))) (goodIn_sub (fun _ h => List.mem_append_left _ (List.mem_append_left _ (List.mem_append_right _ h))) (by decide +kernel))) (goodIn_sub (fun _ h => List.mem_append_left _ (List.mem_append_right _ h)) (by decide +kernel))) (goodIn_sub (fun _ h => List.mem_append_right _ h) (by decide +kernel))
set_option maxRecDepth 20000 in
theorem gL_law_L_act : GoodIn wsL_law (va_wsS RL 85 yL_act wsL_act) := goodIn_app (goodIn_of _ (by decide +kernel)) ggL_law_L_act
set_option maxRecDepth 20000 in
theorem ggL_law_X1_guests : GoodIn wsL_law wsX1_guests := goodIn_r _ [253, 21, 140, 380, 381, 382, 383, 384, 385, 386, 387, 388, 389, 390, 391, 392, 393, 394, 395, 396, 397, 398] (by decide +kernel) (by decide +kernel)
set_option maxRecDepth 20000 in
theorem gL_law_X1_guests : GoodIn wsL_law (wsV RL 94 RX1 yX1_guests wsX1_guests) := goodIn_app (goodIn_of _ (by decide +kernel)) ggL_law_X1_guests
set_option maxRecDepth 20000 in
theorem ggL_law_X1_unsaidBy : GoodIn wsL_law wsX1_unsaidBy := goodIn_ca (goodIn_r _ [257, 21, 258, 134, 135, 136, 2, 137, 138, 139, 140, 380, 381, 382, 383, 384, 385, 386, 387, 388, 389, 390, 391, 392, 393, 394, 395, 396, 397, 398] (by decide +kernel) (by decide +kernel)) (goodIn_sub (fun _ h => List.mem_append_left _ (List.mem_append_right _ h)) (by decide +kernel))
set_option maxRecDepth 20000 in
theorem gL_law_X1_unsaidBy : GoodIn wsL_law (wsV RL 98 RX1 yX1_unsaidBy wsX1_unsaidBy) := goodIn_app (goodIn_of _ (by decide +kernel)) ggL_law_X1_unsaidBy
set_option maxRecDepth 20000 in
theorem ggL_law_X1_seatsApart : GoodIn wsL_law wsX1_seatsApart := goodIn_ca (goodIn_r _ [262, 21, 134, 135, 136, 2, 137, 138, 139, 140, 263, 187, 188, 20, 189, 96, 6, 7, 8, 39, 190, 191, 192, 380, 381, 382, 383, 384, 385, 386, 387, 388, 389, 390, 391, 392, 393, 394, 395, 396, 397, 398] (by decide +kernel) (by decide +kernel)) (goodIn_sub (fun _ h => List.mem_append_left _ (List.mem_append_right _ h)) (by decide +kernel))
set_option maxRecDepth 20000 in
theorem gL_law_X1_seatsApart : GoodIn wsL_law (wsV RL 101 RX1 yX1_seatsApart wsX1_seatsApart) := goodIn_app (goodIn_of _ (by decide +kernel)) ggL_law_X1_seatsApart
set_option maxRecDepth 20000 in
theorem ggL_law_X1_secondsToGo : GoodIn wsL_law wsX1_secondsToGo := goodIn_ca (goodIn_r _ [267, 21, 134, 135, 136, 2, 137, 138, 139, 140, 171, 172, 173, 268, 269, 270, 20, 271, 31, 231, 175, 176, 177, 380, 381, 382, 383, 384, 385, 386, 387, 388, 389, 390, 391, 392, 393, 394, 395, 396, 397, 398] (by decide +kernel) (by decide +kernel)) (goodIn_sub (fun _ h => List.mem_append_left _ (List.mem_append_right _ h)) (by decide +kernel))
set_option maxRecDepth 20000 in
theorem gL_law_X1_secondsToGo : GoodIn wsL_law (wsV RL 104 RX1 yX1_secondsToGo wsX1_secondsToGo) := goodIn_app (goodIn_of _ (by decide +kernel)) ggL_law_X1_secondsToGo
set_option maxRecDepth 20000 in
theorem ggL_law_X1_caughtBy : GoodIn wsL_law wsX1_caughtBy := goodIn_ca (goodIn_r _ [275, 21, 276, 134, 135, 136, 2, 137, 138, 139, 140, 171, 172, 173, 380, 381, 382, 383, 384, 385, 386, 387, 388, 389, 390, 391, 392, 393, 394, 395, 396, 397, 398] (by decide +kernel) (by decide +kernel)) (goodIn_sub (fun _ h => List.mem_append_left _ (List.mem_append_right _ h)) (by decide +kernel))
set_option maxRecDepth 20000 in
theorem gL_law_X1_caughtBy : GoodIn wsL_law (wsV RL 107 RX1 yX1_caughtBy wsX1_caughtBy) := goodIn_app (goodIn_of _ (by decide +kernel)) ggL_law_X1_caughtBy
set_option maxRecDepth 20000 in
theorem ggL_law_X1_isUnderWay : GoodIn wsL_law wsX1_isUnderWay := goodIn_ca (goodIn_r _ [280, 21, 134, 135, 136, 2, 137, 138, 139, 140, 171, 172, 173, 174, 175, 176, 20, 177, 31, 380, 381, 382, 383, 384, 385, 386, 387, 388, 389, 390, 391, 392, 393, 394, 395, 396, 397, 398] (by decide +kernel) (by decide +kernel)) (goodIn_sub (fun _ h => List.mem_append_left _ (List.mem_append_right _ h)) (by decide +kernel))
set_option maxRecDepth 20000 in
theorem gL_law_X1_isUnderWay : GoodIn wsL_law (wsV RL 110 RX1 yX1_isUnderWay wsX1_isUnderWay) := goodIn_app (goodIn_of _ (by decide +kernel)) ggL_law_X1_isUnderWay
set_option maxRecDepth 20000 in
theorem ggL_law_X1_unsaidInPauses : GoodIn wsL_law wsX1_unsaidInPauses := goodIn_r _ [284, 21, 285, 380, 381, 382, 383, 384, 385, 386, 387, 388, 389, 390, 391, 392, 393, 394, 395, 396, 397, 398] (by decide +kernel) (by decide +kernel)
set_option maxRecDepth 20000 in
theorem gL_law_X1_unsaidInPauses : GoodIn wsL_law (wsV RL 114 RX1 yX1_unsaidInPauses wsX1_unsaidInPauses) := goodIn_app (goodIn_of _ (by decide +kernel)) ggL_law_X1_unsaidInPauses
set_option maxRecDepth 20000 in
theorem ggL_law_X1_pause : GoodIn wsL_law wsX1_pause := goodIn_r _ [289, 21, 290, 380, 381, 382, 383, 384, 385, 386, 387, 388, 389, 390, 391, 392, 393, 394, 395, 396, 397, 398] (by decide +kernel) (by decide +kernel)
set_option maxRecDepth 20000 in
theorem gL_law_X1_pause : GoodIn wsL_law (wsV RL 117 RX1 yX1_pause wsX1_pause) := goodIn_app (goodIn_of _ (by decide +kernel)) ggL_law_X1_pause
set_option maxRecDepth 20000 in
theorem ggL_law_X1_speaker : GoodIn wsL_law wsX1_speaker := goodIn_r _ [294, 21, 295, 380, 381, 382, 383, 384, 385, 386, 387, 388, 389, 390, 391, 392, 393, 394, 395, 396, 397, 398] (by decide +kernel) (by decide +kernel)
set_option maxRecDepth 20000 in
theorem gL_law_X1_speaker : GoodIn wsL_law (wsV RL 120 RX1 yX1_speaker wsX1_speaker) := goodIn_app (goodIn_of _ (by decide +kernel)) ggL_law_X1_speaker
set_option maxRecDepth 20000 in
theorem ggL_law_X1_secondsToSpeak : GoodIn wsL_law wsX1_secondsToSpeak := goodIn_r _ [299, 21, 300, 380, 381, 382, 383, 384, 385, 386, 387, 388, 389, 390, 391, 392, 393, 394, 395, 396, 397, 398] (by decide +kernel) (by decide +kernel)
set_option maxRecDepth 20000 in
theorem gL_law_X1_secondsToSpeak : GoodIn wsL_law (wsV RL 122 RX1 yX1_secondsToSpeak wsX1_secondsToSpeak) := goodIn_app (goodIn_of _ (by decide +kernel)) ggL_law_X1_secondsToSpeak
set_option maxRecDepth 20000 in
theorem ggL_law_X1_meetings : GoodIn wsL_law wsX1_meetings := goodIn_r _ [304, 21, 305, 380, 381, 382, 383, 384, 385, 386, 387, 388, 389, 390, 391, 392, 393, 394, 395, 396, 397, 398] (by decide +kernel) (by decide +kernel)
set_option maxRecDepth 20000 in
theorem gL_law_X1_meetings : GoodIn wsL_law (wsV RL 125 RX1 yX1_meetings wsX1_meetings) := goodIn_app (goodIn_of _ (by decide +kernel)) ggL_law_X1_meetings
set_option maxRecDepth 20000 in
theorem ggL_law_X1_lostGlances : GoodIn wsL_law wsX1_lostGlances := goodIn_r _ [309, 21, 310, 380, 381, 382, 383, 384, 385, 386, 387, 388, 389, 390, 391, 392, 393, 394, 395, 396, 397, 398] (by decide +kernel) (by decide +kernel)
set_option maxRecDepth 20000 in
theorem gL_law_X1_lostGlances : GoodIn wsL_law (wsV RL 128 RX1 yX1_lostGlances wsX1_lostGlances) := goodIn_app (goodIn_of _ (by decide +kernel)) ggL_law_X1_lostGlances
set_option maxRecDepth 20000 in
theorem ggL_law_X1_glancesUnderWay : GoodIn wsL_law wsX1_glancesUnderWay := goodIn_r _ [314, 21, 315, 380, 381, 382, 383, 384, 385, 386, 387, 388, 389, 390, 391, 392, 393, 394, 395, 396, 397, 398] (by decide +kernel) (by decide +kernel)
set_option maxRecDepth 20000 in
theorem gL_law_X1_glancesUnderWay : GoodIn wsL_law (wsV RL 131 RX1 yX1_glancesUnderWay wsX1_glancesUnderWay) := goodIn_app (goodIn_of _ (by decide +kernel)) ggL_law_X1_glancesUnderWay
set_option maxRecDepth 20000 in
theorem ggL_law_X1_allUnsaid : GoodIn wsL_law wsX1_allUnsaid := goodIn_r _ [319, 21, 206, 99, 100, 20, 101, 44, 102, 103, 104, 105, 39, 30, 380, 381, 382, 383, 384, 385, 386, 387, 388, 389, 390, 391, 392, 393, 394, 395, 396, 397, 398] (by decide +kernel) (by decide +kernel)
set_option maxRecDepth 20000 in
theorem gL_law_X1_allUnsaid : GoodIn wsL_law (wsV RL 134 RX1 yX1_allUnsaid wsX1_allUnsaid) := goodIn_app (goodIn_of _ (by decide +kernel)) ggL_law_X1_allUnsaid
set_option maxRecDepth 20000 in
theorem ggL_law_X1_rating : GoodIn wsL_law wsX1_rating := goodIn_r _ [323, 21, 92, 93, 94, 20, 95, 39, 96, 6, 7, 8, 97, 10, 11, 98, 99, 100, 101, 44, 102, 103, 104, 105, 30, 380, 381, 382, 383, 384, 385, 386, 387, 388, 389, 390, 391, 392, 393, 394, 395, 396, 397, 398] (by decide +kernel) (by decide +kernel)
set_option maxRecDepth 20000 in
theorem gL_law_X1_rating : GoodIn wsL_law (wsV RL 137 RX1 yX1_rating wsX1_rating) := goodIn_app (goodIn_of _ (by decide +kernel)) ggL_law_X1_rating
set_option maxRecDepth 20000 in
theorem ggL_law_X1_meanUnsaid : GoodIn wsL_law wsX1_meanUnsaid := goodIn_r _ [327, 21, 140, 328, 103, 104, 20, 105, 39, 30, 380, 381, 382, 383, 384, 385, 386, 387, 388, 389, 390, 391, 392, 393, 394, 395, 396, 397, 398] (by decide +kernel) (by decide +kernel)
set_option maxRecDepth 20000 in
theorem gL_law_X1_meanUnsaid : GoodIn wsL_law (wsV RL 148 RX1 yX1_meanUnsaid wsX1_meanUnsaid) := goodIn_app (goodIn_of _ (by decide +kernel)) ggL_law_X1_meanUnsaid
set_option maxRecDepth 20000 in
theorem ggL_law_X1_quietest : GoodIn wsL_law wsX1_quietest := goodIn_r _ [332, 21, 140, 258, 380, 381, 382, 383, 384, 385, 386, 387, 388, 389, 390, 391, 392, 393, 394, 395, 396, 397, 398] (by decide +kernel) (by decide +kernel)
set_option maxRecDepth 20000 in
theorem gL_law_X1_quietest : GoodIn wsL_law (wsV RL 152 RX1 yX1_quietest wsX1_quietest) := goodIn_app (goodIn_of _ (by decide +kernel)) ggL_law_X1_quietest
set_option maxRecDepth 20000 in
theorem ggL_law_X1_pass : GoodIn wsL_law wsX1_pass := goodIn_ca (goodIn_r _ [205, 21, 87, 88, 2, 89, 90, 91, 206, 99, 100, 20, 101, 44, 102, 103, 104, 105, 39, 30, 207, 208, 209, 210, 211, 212, 213, 214, 40, 215, 216, 217, 218, 41, 43, 27, 42, 219, 220, 221, 222, 34, 223, 224, 225, 226, 47, 31, 33, 227, 228, 229, 230, 45, 46, 32, 172, 173, 231, 175, 176, 177, 232, 233, 234, 235, 380, 381, 382, 383, 384, 385, 386, 387, 388, 389, 390, 391, 392, 393, 394, 395, 396, 397, 398] (by decide +kernel) (by decide +kernel)) (goodIn_sub (fun _ h => List.mem_append_left _ (List.mem_append_left _ (List.mem_append_right _ h))) (by decide +kernel))
set_option maxRecDepth 20000 in
theorem gL_law_X1_pass : GoodIn wsL_law (wsV RL 74 RX1 yX1_pass wsX1_pass) := goodIn_app (goodIn_of _ (by decide +kernel)) ggL_law_X1_pass
set_option maxRecDepth 20000 in
theorem ggL_law_X2_pass : GoodIn wsL_law wsX2_pass := goodIn_r _ [243, 73, 244, 72, 124, 77, 245, 75, 80, 246, 247, 82, 248, 249, 158, 159, 58, 160, 399, 400, 401, 402, 403, 404, 405, 406, 407, 408, 409, 410, 411, 412, 413] (by decide +kernel) (by decide +kernel)
set_option maxRecDepth 20000 in
theorem gL_law_X2_pass : GoodIn wsL_law (wsV RL 155 RX2 yX2_pass wsX2_pass) := goodIn_app (goodIn_of _ (by decide +kernel)) ggL_law_X2_pass
set_option maxRecDepth 20000 in
theorem ggL_law_X1_limit : GoodIn wsL_law wsX1_limit := goodIn_r _ [337, 21, 129, 380, 381, 382, 383, 384, 385, 386, 387, 388, 389, 390, 391, 392, 393, 394, 395, 396, 397, 398] (by decide +kernel) (by decide +kernel)
set_option maxRecDepth 20000 in
theorem gL_law_X1_limit : GoodIn wsL_law (wsV RL 157 RX1 yX1_limit wsX1_limit) := goodIn_app (goodIn_of _ (by decide +kernel)) ggL_law_X1_limit
set_option maxRecDepth 20000 in
theorem ggL_law_X2_isSame_r1 : GoodIn wsL_law (.code yX2_isSame cX2_isSame 7 (some .boolean) :: wsX2_isSame_r1) := goodIn_r _ [341, 75, 76, 248, 72, 73, 245, 244, 124, 246, 247, 77, 78, 79, 80, 82, 342, 251, 252, 2, 253, 21, 140, 343, 344] (by decide +kernel) (by decide +kernel)
set_option maxRecDepth 20000 in
theorem ggL_law_X2_isSame_r2 : GoodIn wsL_law wsX2_isSame_r2 := goodIn_r _ [345, 346, 347, 348, 335, 336, 337, 129, 349, 292, 293, 294, 295, 350, 297, 298, 299, 300, 351, 287, 288, 289, 290, 352] (by decide +kernel) (by decide +kernel)
set_option maxRecDepth 20000 in
theorem ggL_law_X2_isSame_r3 : GoodIn wsL_law wsX2_isSame_r3 := goodIn_r _ [282, 283, 284, 285, 353, 317, 318, 319, 206, 99, 100, 20, 101, 44, 102, 103, 104, 105, 39, 30, 120, 121, 122, 58] (by decide +kernel) (by decide +kernel)
set_option maxRecDepth 20000 in
theorem ggL_law_X2_isSame_r4 : GoodIn wsL_law wsX2_isSame_r4 := goodIn_r _ [123, 354, 312, 313, 314, 315, 355, 302, 303, 304, 305, 356, 307, 308, 309, 310, 357, 321, 322, 323, 92, 93, 94, 95] (by decide +kernel) (by decide +kernel)
set_option maxRecDepth 20000 in
theorem ggL_law_X2_isSame_r5 : GoodIn wsL_law wsX2_isSame_r5 := goodIn_r _ [96, 6, 7, 8, 97, 10, 11, 98, 358, 117, 118, 119, 359, 360, 361, 362, 363, 134, 135, 136, 137, 138, 139, 364] (by decide +kernel) (by decide +kernel)
set_option maxRecDepth 20000 in
theorem ggL_law_X2_isSame_r6 : GoodIn wsL_law wsX2_isSame_r6 := goodIn_r _ [365, 366, 367, 368, 369, 370, 371, 372, 373, 374, 255, 256, 257, 258, 249, 158, 159, 160, 375, 278, 279, 280, 171, 172] (by decide +kernel) (by decide +kernel)
set_option maxRecDepth 20000 in
theorem ggL_law_X2_isSame_r7 : GoodIn wsL_law wsX2_isSame_r7 := goodIn_r _ [173, 174, 175, 176, 177, 31, 376, 265, 266, 267, 268, 269, 270, 271, 231, 377, 273, 274, 275, 276, 378, 330, 331, 332] (by decide +kernel) (by decide +kernel)
set_option maxRecDepth 20000 in
theorem ggL_law_X2_isSame_r8 : GoodIn wsL_law wsX2_isSame_r8 := goodIn_r _ [379, 325, 326, 327, 328] (by decide +kernel) (by decide +kernel)
set_option maxRecDepth 20000 in
theorem ggL_law_X2_isSame : GoodIn wsL_law wsX2_isSame := goodIn_ca (goodIn_ca (goodIn_ca (goodIn_ca (goodIn_ca ggL_law_X2_isSame_r1 (goodIn_app ggL_law_X2_isSame_r2 (goodIn_app ggL_law_X2_isSame_r3 (goodIn_app ggL_law_X2_isSame_r4 (goodIn_app ggL_law_X2_isSame_r5 (goodIn_app ggL_law_X2_isSame_r6 (goodIn_app ggL_law_X2_isSame_r7 (ggL_law_X2_isSame_r8)))))))) (goodIn_sub (fun _ h => List.mem_append_left _ (List.mem_append_left _ (List.mem_append_left _ (List.mem_append_left _ (List.mem_append_right _ h))))) (by decide +kernel))) (goodIn_sub (fun _ h => List.mem_append_left _ (List.mem_append_left _ (List.mem_append_left _ (List.mem_append_left _ (List.mem_append_left _ (List.mem_append_left _ (List.mem_append_right _ h))))))) (by decide +kernel))) (goodIn_sub (fun _ h => List.mem_append_left _ (List.mem_append_left _ (List.mem_append_left _ (List.mem_append_left _ (List.mem_append_left _ (List.mem_append_right _ h)))))) (by decide +kernel))) (goodIn_sub (fun _ h => List.mem_append_left _ (List.mem_append_right _ h)) (by decide +kernel))
set_option maxRecDepth 20000 in
theorem gL_law_X2_isSame : GoodIn wsL_law (wsV RL 159 RX2 yX2_isSame wsX2_isSame) := goodIn_app (goodIn_of _ (by decide +kernel)) ggL_law_X2_isSame
