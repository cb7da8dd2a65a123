set_option maxRecDepth 20000 in
theorem ggL_law_L_unsaidBy : GoodIn wsL_law wsL_unsaidBy := goodIn_ca (goodIn_r _ [407, 132, 408, 409, 410, 2, 411, 16, 412, 137, 138, 139, 140, 141, 142, 143, 641, 642, 650, 651, 652, 653, 654, 655, 656, 657, 658, 659, 660, 661, 662, 663, 664, 665, 666] (by decide +kernel) (by decide +kernel)) (goodIn_sub (fun _ h => List.mem_append_left _ (List.mem_append_right _ h)) (by decide +kernel))
set_option maxRecDepth 20000 in
theorem gL_law_L_unsaidBy : GoodIn wsL_law (va_wsS RL 138 yL_unsaidBy wsL_unsaidBy) := goodIn_app (goodIn_of _ (by decide +kernel)) ggL_law_L_unsaidBy
set_option maxRecDepth 20000 in
theorem ggL_law_X2_unsaidBy : GoodIn wsL_law wsX2_unsaidBy := goodIn_r _ [416, 377, 378, 379, 5, 380, 95, 54, 152, 153, 154, 155, 52, 96, 97, 98, 99, 100, 101, 102, 643, 644, 645, 646, 647, 648, 649] (by decide +kernel) (by decide +kernel)
set_option maxRecDepth 20000 in
theorem gL_law_X2_unsaidBy : GoodIn wsL_law (wsV RL 140 RX2 yX2_unsaidBy wsX2_unsaidBy) := goodIn_app (goodIn_of _ (by decide +kernel)) ggL_law_X2_unsaidBy
set_option maxRecDepth 20000 in
theorem ggL_law_L_isUnderWay : GoodIn wsL_law wsL_isUnderWay := goodIn_ca (goodIn_r _ [419, 132, 420, 421, 422, 2, 423, 16, 137, 138, 139, 140, 141, 142, 143, 189, 190, 191, 192, 193, 194, 15, 195, 27, 641, 642, 650, 651, 652, 653, 654, 655, 656, 657, 658, 659, 660, 661, 662, 663, 664, 665, 666] (by decide +kernel) (by decide +kernel)) (goodIn_sub (fun _ h => List.mem_append_left _ (List.mem_append_right _ h)) (by decide +kernel))
set_option maxRecDepth 20000 in
theorem gL_law_L_isUnderWay : GoodIn wsL_law (va_wsS RL 141 yL_isUnderWay wsL_isUnderWay) := goodIn_app (goodIn_of _ (by decide +kernel)) ggL_law_L_isUnderWay
set_option maxRecDepth 20000 in
theorem ggL_law_X2_isUnderWay : GoodIn wsL_law wsX2_isUnderWay := goodIn_r _ [427, 428, 429, 430, 5, 431, 95, 54, 152, 153, 154, 155, 52, 96, 97, 98, 219, 220, 221, 99, 100, 101, 102, 643, 644, 645, 646, 647, 648, 649] (by decide +kernel) (by decide +kernel)
set_option maxRecDepth 20000 in
theorem gL_law_X2_isUnderWay : GoodIn wsL_law (wsV RL 143 RX2 yX2_isUnderWay wsX2_isUnderWay) := goodIn_app (goodIn_of _ (by decide +kernel)) ggL_law_X2_isUnderWay
set_option maxRecDepth 20000 in
theorem ggL_law_L_secondsToGo : GoodIn wsL_law wsL_secondsToGo := goodIn_ca (goodIn_r _ [434, 132, 435, 436, 437, 2, 438, 16, 137, 138, 139, 140, 141, 142, 143, 189, 190, 191, 439, 440, 441, 15, 442, 27, 263, 193, 194, 195, 641, 642, 650, 651, 652, 653, 654, 655, 656, 657, 658, 659, 660, 661, 662, 663, 664, 665, 666] (by decide +kernel) (by decide +kernel)) (goodIn_sub (fun _ h => List.mem_append_left _ (List.mem_append_right _ h)) (by decide +kernel))
set_option maxRecDepth 20000 in
theorem gL_law_L_secondsToGo : GoodIn wsL_law (va_wsS RL 144 yL_secondsToGo wsL_secondsToGo) := goodIn_app (goodIn_of _ (by decide +kernel)) ggL_law_L_secondsToGo
set_option maxRecDepth 20000 in
theorem ggL_law_X2_secondsToGo : GoodIn wsL_law wsX2_secondsToGo := goodIn_r _ [446, 428, 429, 430, 5, 431, 95, 54, 152, 153, 154, 155, 52, 96, 97, 98, 219, 220, 221, 99, 100, 101, 102, 643, 644, 645, 646, 647, 648, 649] (by decide +kernel) (by decide +kernel)
set_option maxRecDepth 20000 in
theorem gL_law_X2_secondsToGo : GoodIn wsL_law (wsV RL 146 RX2 yX2_secondsToGo wsX2_secondsToGo) := goodIn_app (goodIn_of _ (by decide +kernel)) ggL_law_X2_secondsToGo
set_option maxRecDepth 20000 in
theorem ggL_law_L_caughtBy : GoodIn wsL_law wsL_caughtBy := goodIn_ca (goodIn_r _ [449, 132, 450, 451, 452, 2, 453, 16, 454, 137, 138, 139, 140, 141, 142, 143, 189, 190, 191, 641, 642, 650, 651, 652, 653, 654, 655, 656, 657, 658, 659, 660, 661, 662, 663, 664, 665, 666] (by decide +kernel) (by decide +kernel)) (goodIn_sub (fun _ h => List.mem_append_left _ (List.mem_append_right _ h)) (by decide +kernel))
set_option maxRecDepth 20000 in
theorem gL_law_L_caughtBy : GoodIn wsL_law (va_wsS RL 147 yL_caughtBy wsL_caughtBy) := goodIn_app (goodIn_of _ (by decide +kernel)) ggL_law_L_caughtBy
set_option maxRecDepth 20000 in
theorem ggL_law_X2_caughtBy : GoodIn wsL_law wsX2_caughtBy := goodIn_r _ [458, 428, 429, 430, 5, 431, 95, 54, 152, 153, 154, 155, 52, 96, 97, 98, 219, 220, 221, 99, 100, 101, 102, 643, 644, 645, 646, 647, 648, 649] (by decide +kernel) (by decide +kernel)
set_option maxRecDepth 20000 in
theorem gL_law_X2_caughtBy : GoodIn wsL_law (wsV RL 149 RX2 yX2_caughtBy wsX2_caughtBy) := goodIn_app (goodIn_of _ (by decide +kernel)) ggL_law_X2_caughtBy
set_option maxRecDepth 20000 in
theorem ggL_law_X1_unsaidInPauses : GoodIn wsL_law wsX1_unsaidInPauses := goodIn_r _ [462, 16, 463, 641, 642, 650, 651, 652, 653, 654, 655, 656, 657, 658, 659, 660, 661, 662, 663, 664, 665, 666] (by decide +kernel) (by decide +kernel)
set_option maxRecDepth 20000 in
theorem gL_law_X1_unsaidInPauses : GoodIn wsL_law (wsV RL 150 RX1 yX1_unsaidInPauses wsX1_unsaidInPauses) := goodIn_app (goodIn_of _ (by decide +kernel)) ggL_law_X1_unsaidInPauses
set_option maxRecDepth 20000 in
theorem ggL_law_X2_unsaidInPauses : GoodIn wsL_law wsX2_unsaidInPauses := goodIn_r _ [467, 54, 301, 302, 303, 5, 304, 95, 643, 644, 645, 646, 647, 648, 649] (by decide +kernel) (by decide +kernel)
set_option maxRecDepth 20000 in
theorem gL_law_X2_unsaidInPauses : GoodIn wsL_law (wsV RL 153 RX2 yX2_unsaidInPauses wsX2_unsaidInPauses) := goodIn_app (goodIn_of _ (by decide +kernel)) ggL_law_X2_unsaidInPauses
set_option maxRecDepth 20000 in
theorem ggL_law_X1_allUnsaid : GoodIn wsL_law wsX1_allUnsaid := goodIn_r _ [471, 16, 238, 83, 84, 15, 85, 40, 86, 87, 88, 89, 35, 26, 641, 642, 650, 651, 652, 653, 654, 655, 656, 657, 658, 659, 660, 661, 662, 663, 664, 665, 666] (by decide +kernel) (by decide +kernel)
set_option maxRecDepth 20000 in
theorem gL_law_X1_allUnsaid : GoodIn wsL_law (wsV RL 154 RX1 yX1_allUnsaid wsX1_allUnsaid) := goodIn_app (goodIn_of _ (by decide +kernel)) ggL_law_X1_allUnsaid
set_option maxRecDepth 20000 in
theorem ggL_law_X2_allUnsaid : GoodIn wsL_law wsX2_allUnsaid := goodIn_r _ [475, 109, 110, 111, 5, 112, 54, 52, 301, 302, 303, 304, 95, 643, 644, 645, 646, 647, 648, 649] (by decide +kernel) (by decide +kernel)
set_option maxRecDepth 20000 in
theorem gL_law_X2_allUnsaid : GoodIn wsL_law (wsV RL 157 RX2 yX2_allUnsaid wsX2_allUnsaid) := goodIn_app (goodIn_of _ (by decide +kernel)) ggL_law_X2_allUnsaid
set_option maxRecDepth 20000 in
theorem ggL_law_X1_glancesUnderWay : GoodIn wsL_law wsX1_glancesUnderWay := goodIn_r _ [479, 16, 480, 641, 642, 650, 651, 652, 653, 654, 655, 656, 657, 658, 659, 660, 661, 662, 663, 664, 665, 666] (by decide +kernel) (by decide +kernel)
set_option maxRecDepth 20000 in
theorem gL_law_X1_glancesUnderWay : GoodIn wsL_law (wsV RL 158 RX1 yX1_glancesUnderWay wsX1_glancesUnderWay) := goodIn_app (goodIn_of _ (by decide +kernel)) ggL_law_X1_glancesUnderWay
set_option maxRecDepth 20000 in
theorem ggL_law_X2_glancesUnderWay : GoodIn wsL_law wsX2_glancesUnderWay := goodIn_r _ [484, 485, 486, 487, 5, 488, 54, 301, 302, 303, 304, 95, 643, 644, 645, 646, 647, 648, 649] (by decide +kernel) (by decide +kernel)
set_option maxRecDepth 20000 in
theorem gL_law_X2_glancesUnderWay : GoodIn wsL_law (wsV RL 161 RX2 yX2_glancesUnderWay wsX2_glancesUnderWay) := goodIn_app (goodIn_of _ (by decide +kernel)) ggL_law_X2_glancesUnderWay
set_option maxRecDepth 20000 in
theorem ggL_law_X1_meetings : GoodIn wsL_law wsX1_meetings := goodIn_r _ [492, 16, 493, 641, 642, 650, 651, 652, 653, 654, 655, 656, 657, 658, 659, 660, 661, 662, 663, 664, 665, 666] (by decide +kernel) (by decide +kernel)
set_option maxRecDepth 20000 in
theorem gL_law_X1_meetings : GoodIn wsL_law (wsV RL 162 RX1 yX1_meetings wsX1_meetings) := goodIn_app (goodIn_of _ (by decide +kernel)) ggL_law_X1_meetings
set_option maxRecDepth 20000 in
theorem ggL_law_X2_meetings : GoodIn wsL_law wsX2_meetings := goodIn_r _ [497, 54, 301, 302, 303, 5, 304, 95, 643, 644, 645, 646, 647, 648, 649] (by decide +kernel) (by decide +kernel)
set_option maxRecDepth 20000 in
theorem gL_law_X2_meetings : GoodIn wsL_law (wsV RL 165 RX2 yX2_meetings wsX2_meetings) := goodIn_app (goodIn_of _ (by decide +kernel)) ggL_law_X2_meetings
set_option maxRecDepth 20000 in
theorem ggL_law_X1_lostGlances : GoodIn wsL_law wsX1_lostGlances := goodIn_r _ [501, 16, 502, 641, 642, 650, 651, 652, 653, 654, 655, 656, 657, 658, 659, 660, 661, 662, 663, 664, 665, 666] (by decide +kernel) (by decide +kernel)
set_option maxRecDepth 20000 in
theorem gL_law_X1_lostGlances : GoodIn wsL_law (wsV RL 166 RX1 yX1_lostGlances wsX1_lostGlances) := goodIn_app (goodIn_of _ (by decide +kernel)) ggL_law_X1_lostGlances
set_option maxRecDepth 20000 in
theorem ggL_law_X2_lostGlances : GoodIn wsL_law wsX2_lostGlances := goodIn_r _ [506, 54, 301, 302, 303, 5, 304, 95, 643, 644, 645, 646, 647, 648, 649] (by decide +kernel) (by decide +kernel)
set_option maxRecDepth 20000 in
theorem gL_law_X2_lostGlances : GoodIn wsL_law (wsV RL 169 RX2 yX2_lostGlances wsX2_lostGlances) := goodIn_app (goodIn_of _ (by decide +kernel)) ggL_law_X2_lostGlances
set_option maxRecDepth 20000 in
theorem ggL_law_X1_quietest : GoodIn wsL_law wsX1_quietest := goodIn_r _ [510, 16, 143, 412, 641, 642, 650, 651, 652, 653, 654, 655, 656, 657, 658, 659, 660, 661, 662, 663, 664, 665, 666] (by decide +kernel) (by decide +kernel)
set_option maxRecDepth 20000 in
theorem gL_law_X1_quietest : GoodIn wsL_law (wsV RL 170 RX1 yX1_quietest wsX1_quietest) := goodIn_app (goodIn_of _ (by decide +kernel)) ggL_law_X1_quietest
set_option maxRecDepth 20000 in
theorem ggL_law_X2_quietest : GoodIn wsL_law wsX2_quietest := goodIn_r _ [514, 95, 52, 54, 643, 644, 645, 646, 647, 648, 649] (by decide +kernel) (by decide +kernel)
set_option maxRecDepth 20000 in
theorem gL_law_X2_quietest : GoodIn wsL_law (wsV RL 173 RX2 yX2_quietest wsX2_quietest) := goodIn_app (goodIn_of _ (by decide +kernel)) ggL_law_X2_quietest
set_option maxRecDepth 20000 in
theorem ggL_law_X1_rating : GoodIn wsL_law wsX1_rating := goodIn_r _ [518, 16, 71, 72, 73, 15, 74, 35, 75, 76, 77, 78, 79, 80, 81, 82, 83, 84, 85, 40, 86, 87, 88, 89, 26, 641, 642, 650, 651, 652, 653, 654, 655, 656, 657, 658, 659, 660, 661, 662, 663, 664, 665, 666] (by decide +kernel) (by decide +kernel)
set_option maxRecDepth 20000 in
theorem gL_law_X1_rating : GoodIn wsL_law (wsV RL 174 RX1 yX1_rating wsX1_rating) := goodIn_app (goodIn_of _ (by decide +kernel)) ggL_law_X1_rating
set_option maxRecDepth 20000 in
theorem ggL_law_X2_rating : GoodIn wsL_law wsX2_rating := goodIn_r _ [522, 103, 104, 105, 5, 106, 52, 107, 76, 77, 78, 108, 80, 81, 109, 110, 111, 112, 54, 301, 302, 303, 304, 95, 643, 644, 645, 646, 647, 648, 649] (by decide +kernel) (by decide +kernel)
set_option maxRecDepth 20000 in
theorem gL_law_X2_rating : GoodIn wsL_law (wsV RL 177 RX2 yX2_rating wsX2_rating) := goodIn_app (goodIn_of _ (by decide +kernel)) ggL_law_X2_rating
set_option maxRecDepth 20000 in
theorem ggL_law_L_allUnsaidIn : GoodIn wsL_law wsL_allUnsaidIn := goodIn_ca (goodIn_r _ [525, 61, 526, 527, 528, 2, 529, 17, 66, 67, 68, 69, 70, 530, 531, 532, 533, 16, 534, 535, 536, 15, 537, 35, 36, 30, 37, 38, 39, 40, 41, 42, 43, 23, 538, 539, 540, 541, 24, 25, 26, 27, 28, 29, 239, 240, 241, 242, 243, 244, 245, 246, 247, 248, 249, 250, 251, 252, 253, 254, 255, 256, 257, 258, 259, 260, 261, 262, 190, 191, 263, 193, 194, 195, 264, 265, 266, 267, 238, 83, 84, 85, 86, 87, 88, 89, 641, 642, 650, 651, 652, 653, 654, 655, 656, 657, 658, 659, 660, 661, 662, 663, 664, 665, 666] (by decide +kernel) (by decide +kernel)) (goodIn_sub (fun _ h => List.mem_append_left _ (List.mem_append_left _ (List.mem_append_right _ h))) (by decide +kernel))
set_option maxRecDepth 20000 in
theorem gL_law_L_allUnsaidIn : GoodIn wsL_law (va_wsS RL 178 yL_allUnsaidIn wsL_allUnsaidIn) := goodIn_app (goodIn_of _ (by decide +kernel)) ggL_law_L_allUnsaidIn
set_option maxRecDepth 20000 in
theorem ggL_law_X2_allUnsaidIn : GoodIn wsL_law wsX2_allUnsaidIn := goodIn_r _ [545, 95, 96, 97, 5, 98, 99, 100, 101, 102, 546, 547, 548, 549, 54, 55, 550, 539, 540, 541, 272, 273, 274, 275, 276, 277, 278, 279, 280, 281, 282, 283, 53, 284, 285, 286, 287, 288, 289, 290, 291, 56, 292, 219, 220, 221, 109, 110, 111, 112, 52, 551, 552, 553, 554, 643, 644, 645, 646, 647, 648, 649] (by decide +kernel) (by decide +kernel)
set_option maxRecDepth 20000 in
theorem gL_law_X2_allUnsaidIn : GoodIn wsL_law (wsV RL 180 RX2 yX2_allUnsaidIn wsX2_allUnsaidIn) := goodIn_app (goodIn_of _ (by decide +kernel)) ggL_law_X2_allUnsaidIn
set_option maxRecDepth 20000 in
theorem ggL_law_X1_secondsUntilPauseCounts : GoodIn wsL_law wsX1_secondsUntilPauseCounts := goodIn_r _ [558, 16, 559, 560, 561, 15, 562, 37, 30, 39, 38, 251, 252, 253, 254, 641, 642, 650, 651, 652, 653, 654, 655, 656, 657, 658, 659, 660, 661, 662, 663, 664, 665, 666] (by decide +kernel) (by decide +kernel)
set_option maxRecDepth 20000 in
theorem gL_law_X1_secondsUntilPauseCounts : GoodIn wsL_law (wsV RL 181 RX1 yX1_secondsUntilPauseCounts wsX1_secondsUntilPauseCounts) := goodIn_app (goodIn_of _ (by decide +kernel)) ggL_law_X1_secondsUntilPauseCounts
set_option maxRecDepth 20000 in
theorem ggL_law_X2_secondsUntilPauseCounts : GoodIn wsL_law wsX2_secondsUntilPauseCounts := goodIn_r _ [566, 54, 53, 301, 302, 303, 5, 304, 95, 643, 644, 645, 646, 647, 648, 649] (by decide +kernel) (by decide +kernel)
set_option maxRecDepth 20000 in
theorem gL_law_X2_secondsUntilPauseCounts : GoodIn wsL_law (wsV RL 184 RX2 yX2_secondsUntilPauseCounts wsX2_secondsUntilPauseCounts) := goodIn_app (goodIn_of _ (by decide +kernel)) ggL_law_X2_secondsUntilPauseCounts
set_option maxRecDepth 20000 in
theorem ggL_law_L_wouldLeave : GoodIn wsL_law wsL_wouldLeave := goodIn_ca (goodIn_ca (goodIn_ca (goodIn_r _ [569, 132, 61, 178, 570, 571, 572, 2, 573, 16, 183, 184, 185, 186, 69, 70, 187, 188, 137, 138, 139, 140, 141, 142, 143, 189, 190, 191, 192, 193, 194, 15, 195, 27, 574, 575, 576, 577, 37, 38, 578, 440, 441, 442, 263, 200, 201, 202, 203, 204, 205, 206, 207, 75, 76, 77, 78, 35, 208, 209, 210, 641, 642, 650, 651, 652, 653, 654, 655, 656, 657, 658, 659, 660, 661, 662, 663, 664, 665, 666] (by decide +kernel) (by decide +kernel)) (goodIn_sub (fun _ h => List.mem_append_left _ (List.mem_append_left _ (List.mem_append_right _ h))) (by decide +kernel))) (goodIn_sub (fun _ h => List.mem_append_right _ h) (by decide +kernel))) (goodIn_sub (fun _ h => List.mem_append_left _ (List.mem_append_right _ h)) (by decide +kernel))
set_option maxRecDepth 20000 in
theorem gL_law_L_wouldLeave : GoodIn wsL_law (va_wsS RL 185 yL_wouldLeave wsL_wouldLeave) := goodIn_app (goodIn_of _ (by decide +kernel)) ggL_law_L_wouldLeave
set_option maxRecDepth 20000 in
theorem ggL_law_X2_wouldLeave : GoodIn wsL_law wsX2_wouldLeave := goodIn_r _ [582, 215, 216, 217, 5, 218, 54, 95, 152, 153, 154, 155, 52, 96, 97, 98, 219, 220, 221, 546, 547, 548, 549, 55, 550, 539, 540, 541, 583, 584, 585, 586, 56, 292, 222, 223, 224, 225, 226, 227, 228, 229, 107, 76, 77, 78, 230, 209, 210, 276, 277, 278, 279, 280, 281, 282, 283, 53, 284, 285, 286, 287, 288, 289, 290, 291, 551, 552, 553, 554, 643, 644, 645, 646, 647, 648, 649] (by decide +kernel) (by decide +kernel)
set_option maxRecDepth 20000 in
theorem gL_law_X2_wouldLeave : GoodIn wsL_law (wsV RL 187 RX2 yX2_wouldLeave wsX2_wouldLeave) := goodIn_app (goodIn_of _ (by decide +kernel)) ggL_law_X2_wouldLeave
set_option maxRecDepth 20000 in
theorem ggL_law_L_bestMoment : GoodIn wsL_law wsL_bestMoment := goodIn_ca (goodIn_ca (goodIn_ca (goodIn_r _ [589, 132, 61, 178, 590, 591, 592, 2, 593, 16, 183, 184, 185, 186, 69, 70, 187, 188, 137, 138, 139, 140, 141, 142, 143, 189, 190, 191, 192, 193, 194, 15, 195, 27, 574, 575, 576, 577, 37, 38, 578, 440, 441, 442, 263, 200, 201, 202, 203, 204, 205, 206, 207, 75, 76, 77, 78, 35, 208, 209, 210, 641, 642, 650, 651, 652, 653, 654, 655, 656, 657, 658, 659, 660, 661, 662, 663, 664, 665, 666] (by decide +kernel) (by decide +kernel)) (goodIn_sub (fun _ h => List.mem_append_left _ (List.mem_append_left _ (List.mem_append_right _ h))) (by decide +kernel))) (goodIn_sub (fun _ h => List.mem_append_right _ h) (by decide +kernel))) (goodIn_sub (fun _ h => List.mem_append_left _ (List.mem_append_right _ h)) (by decide +kernel))
set_option maxRecDepth 20000 in
theorem gL_law_L_bestMoment : GoodIn wsL_law (va_wsS RL 188 yL_bestMoment wsL_bestMoment) := goodIn_app (goodIn_of _ (by decide +kernel)) ggL_law_L_bestMoment
set_option maxRecDepth 20000 in
theorem ggL_law_X2_bestMoment : GoodIn wsL_law wsX2_bestMoment := goodIn_r _ [597, 215, 216, 217, 5, 218, 54, 95, 152, 153, 154, 155, 52, 96, 97, 98, 219, 220, 221, 546, 547, 548, 549, 55, 550, 539, 540, 541, 272, 273, 274, 275, 276, 277, 278, 279, 280, 281, 282, 283, 53, 284, 285, 286, 287, 288, 289, 290, 291, 56, 292, 583, 584, 585, 586, 222, 223, 224, 225, 226, 227, 228, 229, 107, 76, 77, 78, 230, 209, 210, 551, 552, 553, 554, 643, 644, 645, 646, 647, 648, 649] (by decide +kernel) (by decide +kernel)
set_option maxRecDepth 20000 in
theorem gL_law_X2_bestMoment : GoodIn wsL_law (wsV RL 190 RX2 yX2_bestMoment wsX2_bestMoment) := goodIn_app (goodIn_of _ (by decide +kernel)) ggL_law_X2_bestMoment
set_option maxRecDepth 20000 in
theorem ggL_law_L_ratingIn : GoodIn wsL_law wsL_ratingIn := goodIn_ca (goodIn_r _ [600, 61, 601, 602, 603, 2, 604, 17, 66, 67, 68, 69, 70, 530, 531, 532, 533, 16, 534, 535, 536, 15, 537, 35, 36, 30, 37, 38, 39, 40, 41, 42, 43, 23, 538, 539, 540, 541, 24, 25, 26, 27, 28, 29, 239, 240, 241, 242, 243, 244, 245, 246, 247, 248, 249, 250, 251, 252, 253, 254, 255, 256, 257, 258, 259, 260, 261, 262, 190, 191, 263, 193, 194, 195, 264, 265, 266, 267, 71, 72, 73, 74, 75, 76, 77, 78, 79, 80, 81, 82, 83, 84, 85, 86, 87, 88, 89, 641, 642, 650, 651, 652, 653, 654, 655, 656, 657, 658, 659, 660, 661, 662, 663, 664, 665, 666] (by decide +kernel) (by decide +kernel)) (goodIn_sub (fun _ h => List.mem_append_left _ (List.mem_append_left _ (List.mem_append_right _ h))) (by decide +kernel))
set_option maxRecDepth 20000 in
theorem gL_law_L_ratingIn : GoodIn wsL_law (va_wsS RL 191 yL_ratingIn wsL_ratingIn) := goodIn_app (goodIn_of _ (by decide +kernel)) ggL_law_L_ratingIn
set_option maxRecDepth 20000 in
theorem ggL_law_X2_ratingIn : GoodIn wsL_law wsX2_ratingIn := goodIn_r _ [608, 95, 96, 97, 5, 98, 99, 100, 101, 102, 546, 547, 548, 549, 54, 55, 550, 539, 540, 541, 272, 273, 274, 275, 276, 277, 278, 279, 280, 281, 282, 283, 53, 284, 285, 286, 287, 288, 289, 290, 291, 56, 292, 219, 220, 221, 103, 104, 105, 106, 52, 107, 76, 77, 78, 108, 80, 81, 109, 110, 111, 112, 551, 552, 553, 554, 643, 644, 645, 646, 647, 648, 649] (by decide +kernel) (by decide +kernel)
set_option maxRecDepth 20000 in
theorem gL_law_X2_ratingIn : GoodIn wsL_law (wsV RL 193 RX2 yX2_ratingIn wsX2_ratingIn) := goodIn_app (goodIn_of _ (by decide +kernel)) ggL_law_X2_ratingIn
set_option maxRecDepth 20000 in
theorem ggL_law_X1_meanUnsaid : GoodIn wsL_law wsX1_meanUnsaid := goodIn_r _ [612, 16, 143, 613, 87, 88, 15, 89, 35, 26, 641, 642, 650, 651, 652, 653, 654, 655, 656, 657, 658, 659, 660, 661, 662, 663, 664, 665, 666] (by decide +kernel) (by decide +kernel)
set_option maxRecDepth 20000 in
theorem gL_law_X1_meanUnsaid : GoodIn wsL_law (wsV RL 194 RX1 yX1_meanUnsaid wsX1_meanUnsaid) := goodIn_app (goodIn_of _ (by decide +kernel)) ggL_law_X1_meanUnsaid
set_option maxRecDepth 20000 in
theorem ggL_law_X2_meanUnsaid : GoodIn wsL_law wsX2_meanUnsaid := goodIn_r _ [617, 95, 54, 52, 109, 110, 111, 5, 112, 643, 644, 645, 646, 647, 648, 649] (by decide +kernel) (by decide +kernel)
set_option maxRecDepth 20000 in
theorem gL_law_X2_meanUnsaid : GoodIn wsL_law (wsV RL 198 RX2 yX2_meanUnsaid wsX2_meanUnsaid) := goodIn_app (goodIn_of _ (by decide +kernel)) ggL_law_X2_meanUnsaid
set_option maxRecDepth 20000 in
theorem ggL_law_X1_digest : GoodIn wsL_law wsX1_digest := goodIn_r _ [621, 16, 143, 622, 623, 624, 2, 625, 626, 309, 124, 338, 347, 360, 463, 480, 493, 502, 627, 628, 629, 630, 71, 72, 73, 15, 74, 35, 75, 76, 77, 78, 79, 80, 81, 82, 83, 84, 85, 40, 86, 87, 88, 89, 26, 631, 632, 633, 634, 372, 388, 400, 412, 454, 189, 190, 191, 439, 440, 441, 442, 27, 263, 193, 194, 195, 641, 642, 650, 651, 652, 653, 654, 655, 656, 657, 658, 659, 660, 661, 662, 663, 664, 665, 666] (by decide +kernel) (by decide +kernel)
set_option maxRecDepth 20000 in
theorem gL_law_X1_digest : GoodIn wsL_law (wsV RL 199 RX1 yX1_digest wsX1_digest) := goodIn_app (goodIn_of _ (by decide +kernel)) ggL_law_X1_digest
set_option maxRecDepth 20000 in
theorem ggL_law_X2_digest : GoodIn wsL_law wsX2_digest := goodIn_r _ [638, 95, 22, 52, 54, 53, 639, 640, 352, 353, 354, 5, 355, 485, 486, 487, 488, 103, 104, 105, 106, 107, 76, 77, 78, 108, 80, 81, 109, 110, 111, 112, 219, 220, 221, 643, 644, 645, 646, 647, 648, 649] (by decide +kernel) (by decide +kernel)
set_option maxRecDepth 20000 in
theorem gL_law_X2_digest : GoodIn wsL_law (wsV RL 203 RX2 yX2_digest wsX2_digest) := goodIn_app (goodIn_of _ (by decide +kernel)) ggL_law_X2_digest
