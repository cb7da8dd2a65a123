set_option maxRecDepth 20000 in
theorem ggL_newDinner_X1_newDinner : GoodIn wsL_newDinner wsX1_newDinner := goodIn_ca (goodIn_r _ [6, 7, 8, 9, 5, 10, 11, 12, 13, 14, 15, 16, 17, 18, 19, 20, 21, 22, 23, 24, 25, 26, 27, 28, 29, 30, 31, 32, 33, 34, 35, 36, 37, 38, 39, 40, 41, 42, 43, 44, 45, 46, 47, 48, 49, 50, 51, 52, 53, 54, 55, 56, 57, 58, 59, 60, 61, 62, 63, 64, 65, 66, 67, 68, 69, 70, 71, 72, 73, 74] (by decide +kernel) (by decide +kernel)) (goodIn_sub (fun _ h => List.mem_cons_of_mem _ (List.mem_append_right _ h)) (by decide +kernel))
set_option maxRecDepth 20000 in
theorem gL_newDinner_X1_newDinner : GoodIn wsL_newDinner (wsV RL 7 RX1 yX1_newDinner wsX1_newDinner) := goodIn_app (goodIn_of _ (by decide +kernel)) ggL_newDinner_X1_newDinner
theorem dL_newDinner_0 : decode cL_newDinner 0 = .ok (.aload_n 2, 1) := by decide +kernel
theorem dL_newDinner_1 : decode cL_newDinner 1 = .ok (.iconst 0, 1) := by decide +kernel
theorem dL_newDinner_2 : decode cL_newDinner 2 = .ok (.aload_n 0, 1) := by decide +kernel
theorem dL_newDinner_3 : decode cL_newDinner 3 = .ok (.iload_n 1, 1) := by decide +kernel
theorem dL_newDinner_4 : decode cL_newDinner 4 = .ok (.invokevirtual 7, 3) := by decide +kernel
theorem dL_newDinner_7 : decode cL_newDinner 7 = .ok (.i2l, 1) := by decide +kernel
theorem dL_newDinner_8 : decode cL_newDinner 8 = .ok (.lastore, 1) := by decide +kernel
theorem dL_newDinner_9 : decode cL_newDinner 9 = .ok (.goto 6, 3) := by decide +kernel
theorem dL_newDinner_12 : decode cL_newDinner 12 = .ok (.astore_n 3, 1) := by decide +kernel
theorem dL_newDinner_13 : decode cL_newDinner 13 = .ok (.iconst 1, 1) := by decide +kernel
theorem dL_newDinner_14 : decode cL_newDinner 14 = .ok (.ireturn, 1) := by decide +kernel
theorem dL_newDinner_15 : decode cL_newDinner 15 = .ok (.iconst 0, 1) := by decide +kernel
theorem dL_newDinner_16 : decode cL_newDinner 16 = .ok (.ireturn, 1) := by decide +kernel
set_option maxRecDepth 20000 in
theorem ggL_setLimit_X1_setLimit : GoodIn wsL_setLimit wsX1_setLimit := goodIn_ca (goodIn_r _ [6, 7, 8, 9, 10, 5, 11, 12, 13, 14, 15, 16, 17, 18, 19, 20, 21, 22, 23, 24, 25, 26, 27, 28, 29, 30, 31, 32] (by decide +kernel) (by decide +kernel)) (goodIn_sub (fun _ h => List.mem_cons_of_mem _ (List.mem_append_right _ h)) (by decide +kernel))
set_option maxRecDepth 20000 in
theorem gL_setLimit_X1_setLimit : GoodIn wsL_setLimit (wsV RL 15 RX1 yX1_setLimit wsX1_setLimit) := goodIn_app (goodIn_of _ (by decide +kernel)) ggL_setLimit_X1_setLimit
theorem dL_setLimit_0 : decode cL_setLimit 0 = .ok (.aload_n 2, 1) := by decide +kernel
theorem dL_setLimit_1 : decode cL_setLimit 1 = .ok (.iconst 0, 1) := by decide +kernel
theorem dL_setLimit_2 : decode cL_setLimit 2 = .ok (.aload_n 0, 1) := by decide +kernel
theorem dL_setLimit_3 : decode cL_setLimit 3 = .ok (.iload_n 1, 1) := by decide +kernel
theorem dL_setLimit_4 : decode cL_setLimit 4 = .ok (.invokevirtual 15, 3) := by decide +kernel
theorem dL_setLimit_7 : decode cL_setLimit 7 = .ok (.i2l, 1) := by decide +kernel
theorem dL_setLimit_8 : decode cL_setLimit 8 = .ok (.lastore, 1) := by decide +kernel
theorem dL_setLimit_9 : decode cL_setLimit 9 = .ok (.goto 6, 3) := by decide +kernel
theorem dL_setLimit_12 : decode cL_setLimit 12 = .ok (.astore_n 3, 1) := by decide +kernel
theorem dL_setLimit_13 : decode cL_setLimit 13 = .ok (.iconst 1, 1) := by decide +kernel
theorem dL_setLimit_14 : decode cL_setLimit 14 = .ok (.ireturn, 1) := by decide +kernel
theorem dL_setLimit_15 : decode cL_setLimit 15 = .ok (.iconst 0, 1) := by decide +kernel
theorem dL_setLimit_16 : decode cL_setLimit 16 = .ok (.ireturn, 1) := by decide +kernel
set_option maxRecDepth 20000 in
theorem ggL_speak_X1_speak : GoodIn wsL_speak wsX1_speak := goodIn_ca (goodIn_ca (goodIn_r _ [7, 8, 9, 10, 11, 6, 12, 13, 14, 15, 16, 17, 18, 19, 20, 21, 22, 23, 24, 25, 26, 27, 28, 29, 30, 31, 32, 33, 34, 35, 36, 37, 38, 39, 40, 41, 42, 43, 44, 45, 46, 47] (by decide +kernel) (by decide +kernel)) (goodIn_sub (fun _ h => List.mem_cons_of_mem _ (List.mem_append_left _ (List.mem_append_right _ h))) (by decide +kernel))) (goodIn_sub (fun _ h => List.mem_cons_of_mem _ (List.mem_append_right _ h)) (by decide +kernel))
set_option maxRecDepth 20000 in
theorem gL_speak_X1_speak : GoodIn wsL_speak (wsV RL 18 RX1 yX1_speak wsX1_speak) := goodIn_app (goodIn_of _ (by decide +kernel)) ggL_speak_X1_speak
theorem dL_speak_0 : decode cL_speak 0 = .ok (.aload_n 3, 1) := by decide +kernel
theorem dL_speak_1 : decode cL_speak 1 = .ok (.iconst 0, 1) := by decide +kernel
theorem dL_speak_2 : decode cL_speak 2 = .ok (.aload_n 0, 1) := by decide +kernel
theorem dL_speak_3 : decode cL_speak 3 = .ok (.iload_n 1, 1) := by decide +kernel
theorem dL_speak_4 : decode cL_speak 4 = .ok (.iload_n 2, 1) := by decide +kernel
theorem dL_speak_5 : decode cL_speak 5 = .ok (.invokevirtual 18, 3) := by decide +kernel
theorem dL_speak_8 : decode cL_speak 8 = .ok (.i2l, 1) := by decide +kernel
theorem dL_speak_9 : decode cL_speak 9 = .ok (.lastore, 1) := by decide +kernel
theorem dL_speak_10 : decode cL_speak 10 = .ok (.goto 11, 3) := by decide +kernel
theorem dL_speak_13 : decode cL_speak 13 = .ok (.astore 4, 2) := by decide +kernel
theorem dL_speak_15 : decode cL_speak 15 = .ok (.iconst 1, 1) := by decide +kernel
theorem dL_speak_16 : decode cL_speak 16 = .ok (.ireturn, 1) := by decide +kernel
theorem dL_speak_17 : decode cL_speak 17 = .ok (.astore 4, 2) := by decide +kernel
theorem dL_speak_19 : decode cL_speak 19 = .ok (.iconst 2, 1) := by decide +kernel
theorem dL_speak_20 : decode cL_speak 20 = .ok (.ireturn, 1) := by decide +kernel
theorem dL_speak_21 : decode cL_speak 21 = .ok (.iconst 0, 1) := by decide +kernel
theorem dL_speak_22 : decode cL_speak 22 = .ok (.ireturn, 1) := by decide +kernel
set_option maxRecDepth 20000 in
theorem ggL_cough_X1_cough : GoodIn wsL_cough wsX1_cough := goodIn_ca (goodIn_ca (goodIn_r _ [7, 8, 9, 10, 11, 6, 12, 13, 14, 15, 16, 17, 18, 19, 20, 21, 22, 23, 24, 25, 26, 27, 28, 29, 30, 31, 32, 33, 34, 35, 36, 37, 38, 39, 40, 41, 42, 43, 44, 45, 46, 47, 48, 49, 50, 51] (by decide +kernel) (by decide +kernel)) (goodIn_sub (fun _ h => List.mem_cons_of_mem _ (List.mem_append_left _ (List.mem_append_right _ h))) (by decide +kernel))) (goodIn_sub (fun _ h => List.mem_cons_of_mem _ (List.mem_append_right _ h)) (by decide +kernel))
set_option maxRecDepth 20000 in
theorem gL_cough_X1_cough : GoodIn wsL_cough (wsV RL 24 RX1 yX1_cough wsX1_cough) := goodIn_app (goodIn_of _ (by decide +kernel)) ggL_cough_X1_cough
theorem dL_cough_0 : decode cL_cough 0 = .ok (.aload_n 3, 1) := by decide +kernel
theorem dL_cough_1 : decode cL_cough 1 = .ok (.iconst 0, 1) := by decide +kernel
theorem dL_cough_2 : decode cL_cough 2 = .ok (.aload_n 0, 1) := by decide +kernel
theorem dL_cough_3 : decode cL_cough 3 = .ok (.iload_n 1, 1) := by decide +kernel
theorem dL_cough_4 : decode cL_cough 4 = .ok (.iload_n 2, 1) := by decide +kernel
theorem dL_cough_5 : decode cL_cough 5 = .ok (.invokevirtual 24, 3) := by decide +kernel
theorem dL_cough_8 : decode cL_cough 8 = .ok (.i2l, 1) := by decide +kernel
theorem dL_cough_9 : decode cL_cough 9 = .ok (.lastore, 1) := by decide +kernel
theorem dL_cough_10 : decode cL_cough 10 = .ok (.goto 11, 3) := by decide +kernel
theorem dL_cough_13 : decode cL_cough 13 = .ok (.astore 4, 2) := by decide +kernel
theorem dL_cough_15 : decode cL_cough 15 = .ok (.iconst 1, 1) := by decide +kernel
theorem dL_cough_16 : decode cL_cough 16 = .ok (.ireturn, 1) := by decide +kernel
theorem dL_cough_17 : decode cL_cough 17 = .ok (.astore 4, 2) := by decide +kernel
theorem dL_cough_19 : decode cL_cough 19 = .ok (.iconst 2, 1) := by decide +kernel
theorem dL_cough_20 : decode cL_cough 20 = .ok (.ireturn, 1) := by decide +kernel
theorem dL_cough_21 : decode cL_cough 21 = .ok (.iconst 0, 1) := by decide +kernel
theorem dL_cough_22 : decode cL_cough 22 = .ok (.ireturn, 1) := by decide +kernel
set_option maxRecDepth 20000 in
theorem ggL_glance_X1_glance : GoodIn wsL_glance wsX1_glance := goodIn_ca (goodIn_ca (goodIn_ca (goodIn_r _ [8, 9, 10, 11, 12, 7, 13, 14, 15, 16, 17, 18, 19, 20, 21, 22, 23, 24, 25, 26, 27, 28, 29, 30, 31, 32, 33, 34, 35, 36, 37, 38, 39, 40, 41, 42, 43, 44, 45, 46, 47, 48, 49, 50, 51, 52, 53, 54, 55, 56, 57, 58, 59, 60, 61, 62, 63, 64, 65, 66, 67, 68, 69, 70, 71, 72, 73, 74] (by decide +kernel) (by decide +kernel)) (goodIn_sub (fun _ h => List.mem_cons_of_mem _ (List.mem_append_left _ (List.mem_append_left _ (List.mem_append_right _ h)))) (by decide +kernel))) (goodIn_sub (fun _ h => List.mem_cons_of_mem _ (List.mem_append_left _ (List.mem_append_right _ h))) (by decide +kernel))) (goodIn_sub (fun _ h => List.mem_cons_of_mem _ (List.mem_append_right _ h)) (by decide +kernel))
set_option maxRecDepth 20000 in
theorem gL_glance_X1_glance : GoodIn wsL_glance (wsV RL 27 RX1 yX1_glance wsX1_glance) := goodIn_app (goodIn_of _ (by decide +kernel)) ggL_glance_X1_glance
theorem dL_glance_0 : decode cL_glance 0 = .ok (.aload_n 3, 1) := by decide +kernel
theorem dL_glance_1 : decode cL_glance 1 = .ok (.iconst 0, 1) := by decide +kernel
theorem dL_glance_2 : decode cL_glance 2 = .ok (.aload_n 0, 1) := by decide +kernel
theorem dL_glance_3 : decode cL_glance 3 = .ok (.iload_n 1, 1) := by decide +kernel
theorem dL_glance_4 : decode cL_glance 4 = .ok (.iload_n 2, 1) := by decide +kernel
theorem dL_glance_5 : decode cL_glance 5 = .ok (.invokevirtual 27, 3) := by decide +kernel
theorem dL_glance_8 : decode cL_glance 8 = .ok (.i2l, 1) := by decide +kernel
theorem dL_glance_9 : decode cL_glance 9 = .ok (.lastore, 1) := by decide +kernel
theorem dL_glance_10 : decode cL_glance 10 = .ok (.goto 15, 3) := by decide +kernel
theorem dL_glance_13 : decode cL_glance 13 = .ok (.astore 4, 2) := by decide +kernel
theorem dL_glance_15 : decode cL_glance 15 = .ok (.iconst 1, 1) := by decide +kernel
theorem dL_glance_16 : decode cL_glance 16 = .ok (.ireturn, 1) := by decide +kernel
theorem dL_glance_17 : decode cL_glance 17 = .ok (.astore 4, 2) := by decide +kernel
theorem dL_glance_19 : decode cL_glance 19 = .ok (.iconst 2, 1) := by decide +kernel
theorem dL_glance_20 : decode cL_glance 20 = .ok (.ireturn, 1) := by decide +kernel
theorem dL_glance_21 : decode cL_glance 21 = .ok (.astore 4, 2) := by decide +kernel
theorem dL_glance_23 : decode cL_glance 23 = .ok (.iconst 3, 1) := by decide +kernel
theorem dL_glance_24 : decode cL_glance 24 = .ok (.ireturn, 1) := by decide +kernel
theorem dL_glance_25 : decode cL_glance 25 = .ok (.iconst 0, 1) := by decide +kernel
theorem dL_glance_26 : decode cL_glance 26 = .ok (.ireturn, 1) := by decide +kernel
set_option maxRecDepth 20000 in
theorem ggL_pass_X1_pass : GoodIn wsL_pass wsX1_pass := goodIn_ca (goodIn_r _ [6, 7, 8, 9, 5, 10, 11, 12, 13, 14, 15, 16, 17, 18, 19, 20, 21, 22, 23, 24, 25, 26, 27, 28, 29, 30, 31, 32, 33, 34, 35, 36, 37, 38, 39, 40, 41, 42, 43, 44, 45, 46, 47, 48, 49, 50, 51, 52, 53, 54, 55, 56, 57, 58, 59, 60, 61, 62, 63, 64, 65, 66, 67, 68, 69, 70, 71, 72, 73, 74, 75, 76, 77, 78, 79, 80, 81, 82, 83, 84, 85, 86, 87, 88, 89] (by decide +kernel) (by decide +kernel)) (goodIn_sub (fun _ h => List.mem_cons_of_mem _ (List.mem_append_right _ h)) (by decide +kernel))
set_option maxRecDepth 20000 in
theorem gL_pass_X1_pass : GoodIn wsL_pass (wsV RL 32 RX1 yX1_pass wsX1_pass) := goodIn_app (goodIn_of _ (by decide +kernel)) ggL_pass_X1_pass
theorem dL_pass_0 : decode cL_pass 0 = .ok (.aload_n 2, 1) := by decide +kernel
theorem dL_pass_1 : decode cL_pass 1 = .ok (.iconst 0, 1) := by decide +kernel
theorem dL_pass_2 : decode cL_pass 2 = .ok (.aload_n 0, 1) := by decide +kernel
theorem dL_pass_3 : decode cL_pass 3 = .ok (.iload_n 1, 1) := by decide +kernel
theorem dL_pass_4 : decode cL_pass 4 = .ok (.invokevirtual 32, 3) := by decide +kernel
theorem dL_pass_7 : decode cL_pass 7 = .ok (.i2l, 1) := by decide +kernel
theorem dL_pass_8 : decode cL_pass 8 = .ok (.lastore, 1) := by decide +kernel
theorem dL_pass_9 : decode cL_pass 9 = .ok (.goto 6, 3) := by decide +kernel
theorem dL_pass_12 : decode cL_pass 12 = .ok (.astore_n 3, 1) := by decide +kernel
theorem dL_pass_13 : decode cL_pass 13 = .ok (.iconst 1, 1) := by decide +kernel
theorem dL_pass_14 : decode cL_pass 14 = .ok (.ireturn, 1) := by decide +kernel
theorem dL_pass_15 : decode cL_pass 15 = .ok (.iconst 0, 1) := by decide +kernel
theorem dL_pass_16 : decode cL_pass 16 = .ok (.ireturn, 1) := by decide +kernel
set_option maxRecDepth 20000 in
theorem ggL_seatsApart_X1_seatsApart : GoodIn wsL_seatsApart wsX1_seatsApart := goodIn_ca (goodIn_r _ [6, 7, 8, 9, 10, 5, 11, 12, 13, 14, 15, 16, 17, 18, 19, 20, 21, 22, 23, 24, 25, 26, 27, 28, 29, 30, 31, 32, 33, 34, 35, 36, 37, 38, 39, 40, 41, 42, 43, 44, 45, 46] (by decide +kernel) (by decide +kernel)) (goodIn_sub (fun _ h => List.mem_cons_of_mem _ (List.mem_append_right _ h)) (by decide +kernel))
set_option maxRecDepth 20000 in
theorem gL_seatsApart_X1_seatsApart : GoodIn wsL_seatsApart (wsV RL 35 RX1 yX1_seatsApart wsX1_seatsApart) := goodIn_app (goodIn_of _ (by decide +kernel)) ggL_seatsApart_X1_seatsApart
theorem dL_seatsApart_0 : decode cL_seatsApart 0 = .ok (.aload_n 3, 1) := by decide +kernel
theorem dL_seatsApart_1 : decode cL_seatsApart 1 = .ok (.iconst 0, 1) := by decide +kernel
theorem dL_seatsApart_2 : decode cL_seatsApart 2 = .ok (.aload_n 0, 1) := by decide +kernel
theorem dL_seatsApart_3 : decode cL_seatsApart 3 = .ok (.iload_n 1, 1) := by decide +kernel
theorem dL_seatsApart_4 : decode cL_seatsApart 4 = .ok (.iload_n 2, 1) := by decide +kernel
theorem dL_seatsApart_5 : decode cL_seatsApart 5 = .ok (.invokevirtual 35, 3) := by decide +kernel
theorem dL_seatsApart_8 : decode cL_seatsApart 8 = .ok (.i2l, 1) := by decide +kernel
theorem dL_seatsApart_9 : decode cL_seatsApart 9 = .ok (.lastore, 1) := by decide +kernel
theorem dL_seatsApart_10 : decode cL_seatsApart 10 = .ok (.goto 7, 3) := by decide +kernel
theorem dL_seatsApart_13 : decode cL_seatsApart 13 = .ok (.astore 4, 2) := by decide +kernel
theorem dL_seatsApart_15 : decode cL_seatsApart 15 = .ok (.iconst 1, 1) := by decide +kernel
theorem dL_seatsApart_16 : decode cL_seatsApart 16 = .ok (.ireturn, 1) := by decide +kernel
theorem dL_seatsApart_17 : decode cL_seatsApart 17 = .ok (.iconst 0, 1) := by decide +kernel
theorem dL_seatsApart_18 : decode cL_seatsApart 18 = .ok (.ireturn, 1) := by decide +kernel
set_option maxRecDepth 20000 in
theorem ggL_spokenBy_X1_spokenBy : GoodIn wsL_spokenBy wsX1_spokenBy := goodIn_ca (goodIn_r _ [6, 7, 8, 9, 10, 11, 5, 12, 13, 14, 15, 16, 17, 18, 19, 20, 21, 22, 23, 24, 25, 26, 27, 28, 29, 30, 31, 32, 33, 34] (by decide +kernel) (by decide +kernel)) (goodIn_sub (fun _ h => List.mem_cons_of_mem _ (List.mem_append_right _ h)) (by decide +kernel))
set_option maxRecDepth 20000 in
theorem gL_spokenBy_X1_spokenBy : GoodIn wsL_spokenBy (wsV RL 38 RX1 yX1_spokenBy wsX1_spokenBy) := goodIn_app (goodIn_of _ (by decide +kernel)) ggL_spokenBy_X1_spokenBy
theorem dL_spokenBy_0 : decode cL_spokenBy 0 = .ok (.aload_n 2, 1) := by decide +kernel
theorem dL_spokenBy_1 : decode cL_spokenBy 1 = .ok (.iconst 0, 1) := by decide +kernel
theorem dL_spokenBy_2 : decode cL_spokenBy 2 = .ok (.aload_n 0, 1) := by decide +kernel
theorem dL_spokenBy_3 : decode cL_spokenBy 3 = .ok (.iload_n 1, 1) := by decide +kernel
theorem dL_spokenBy_4 : decode cL_spokenBy 4 = .ok (.invokevirtual 38, 3) := by decide +kernel
theorem dL_spokenBy_7 : decode cL_spokenBy 7 = .ok (.i2l, 1) := by decide +kernel
theorem dL_spokenBy_8 : decode cL_spokenBy 8 = .ok (.lastore, 1) := by decide +kernel
theorem dL_spokenBy_9 : decode cL_spokenBy 9 = .ok (.goto 6, 3) := by decide +kernel
theorem dL_spokenBy_12 : decode cL_spokenBy 12 = .ok (.astore_n 3, 1) := by decide +kernel
theorem dL_spokenBy_13 : decode cL_spokenBy 13 = .ok (.iconst 1, 1) := by decide +kernel
theorem dL_spokenBy_14 : decode cL_spokenBy 14 = .ok (.ireturn, 1) := by decide +kernel
theorem dL_spokenBy_15 : decode cL_spokenBy 15 = .ok (.iconst 0, 1) := by decide +kernel
theorem dL_spokenBy_16 : decode cL_spokenBy 16 = .ok (.ireturn, 1) := by decide +kernel
set_option maxRecDepth 20000 in
theorem ggL_interruptionsBy_X1_interruptionsBy : GoodIn wsL_interruptionsBy wsX1_interruptionsBy := goodIn_ca (goodIn_r _ [6, 7, 8, 9, 10, 11, 5, 12, 13, 14, 15, 16, 17, 18, 19, 20, 21, 22, 23, 24, 25, 26, 27, 28, 29, 30, 31, 32, 33, 34] (by decide +kernel) (by decide +kernel)) (goodIn_sub (fun _ h => List.mem_cons_of_mem _ (List.mem_append_right _ h)) (by decide +kernel))
set_option maxRecDepth 20000 in
theorem gL_interruptionsBy_X1_interruptionsBy : GoodIn wsL_interruptionsBy (wsV RL 41 RX1 yX1_interruptionsBy wsX1_interruptionsBy) := goodIn_app (goodIn_of _ (by decide +kernel)) ggL_interruptionsBy_X1_interruptionsBy
theorem dL_interruptionsBy_0 : decode cL_interruptionsBy 0 = .ok (.aload_n 2, 1) := by decide +kernel
theorem dL_interruptionsBy_1 : decode cL_interruptionsBy 1 = .ok (.iconst 0, 1) := by decide +kernel
theorem dL_interruptionsBy_2 : decode cL_interruptionsBy 2 = .ok (.aload_n 0, 1) := by decide +kernel
theorem dL_interruptionsBy_3 : decode cL_interruptionsBy 3 = .ok (.iload_n 1, 1) := by decide +kernel
theorem dL_interruptionsBy_4 : decode cL_interruptionsBy 4 = .ok (.invokevirtual 41, 3) := by decide +kernel
theorem dL_interruptionsBy_7 : decode cL_interruptionsBy 7 = .ok (.i2l, 1) := by decide +kernel
theorem dL_interruptionsBy_8 : decode cL_interruptionsBy 8 = .ok (.lastore, 1) := by decide +kernel
theorem dL_interruptionsBy_9 : decode cL_interruptionsBy 9 = .ok (.goto 6, 3) := by decide +kernel
theorem dL_interruptionsBy_12 : decode cL_interruptionsBy 12 = .ok (.astore_n 3, 1) := by decide +kernel
theorem dL_interruptionsBy_13 : decode cL_interruptionsBy 13 = .ok (.iconst 1, 1) := by decide +kernel
theorem dL_interruptionsBy_14 : decode cL_interruptionsBy 14 = .ok (.ireturn, 1) := by decide +kernel
theorem dL_interruptionsBy_15 : decode cL_interruptionsBy 15 = .ok (.iconst 0, 1) := by decide +kernel
theorem dL_interruptionsBy_16 : decode cL_interruptionsBy 16 = .ok (.ireturn, 1) := by decide +kernel
set_option maxRecDepth 20000 in
theorem ggL_coughsOf_X1_coughsOf : GoodIn wsL_coughsOf wsX1_coughsOf := goodIn_ca (goodIn_r _ [6, 7, 8, 9, 10, 11, 5, 12, 13, 14, 15, 16, 17, 18, 19, 20, 21, 22, 23, 24, 25, 26, 27, 28, 29, 30, 31, 32, 33, 34] (by decide +kernel) (by decide +kernel)) (goodIn_sub (fun _ h => List.mem_cons_of_mem _ (List.mem_append_right _ h)) (by decide +kernel))
set_option maxRecDepth 20000 in
theorem gL_coughsOf_X1_coughsOf : GoodIn wsL_coughsOf (wsV RL 44 RX1 yX1_coughsOf wsX1_coughsOf) := goodIn_app (goodIn_of _ (by decide +kernel)) ggL_coughsOf_X1_coughsOf
theorem dL_coughsOf_0 : decode cL_coughsOf 0 = .ok (.aload_n 2, 1) := by decide +kernel
theorem dL_coughsOf_1 : decode cL_coughsOf 1 = .ok (.iconst 0, 1) := by decide +kernel
theorem dL_coughsOf_2 : decode cL_coughsOf 2 = .ok (.aload_n 0, 1) := by decide +kernel
theorem dL_coughsOf_3 : decode cL_coughsOf 3 = .ok (.iload_n 1, 1) := by decide +kernel
theorem dL_coughsOf_4 : decode cL_coughsOf 4 = .ok (.invokevirtual 44, 3) := by decide +kernel
theorem dL_coughsOf_7 : decode cL_coughsOf 7 = .ok (.i2l, 1) := by decide +kernel
theorem dL_coughsOf_8 : decode cL_coughsOf 8 = .ok (.lastore, 1) := by decide +kernel
theorem dL_coughsOf_9 : decode cL_coughsOf 9 = .ok (.goto 6, 3) := by decide +kernel
theorem dL_coughsOf_12 : decode cL_coughsOf 12 = .ok (.astore_n 3, 1) := by decide +kernel
theorem dL_coughsOf_13 : decode cL_coughsOf 13 = .ok (.iconst 1, 1) := by decide +kernel
theorem dL_coughsOf_14 : decode cL_coughsOf 14 = .ok (.ireturn, 1) := by decide +kernel
theorem dL_coughsOf_15 : decode cL_coughsOf 15 = .ok (.iconst 0, 1) := by decide +kernel
theorem dL_coughsOf_16 : decode cL_coughsOf 16 = .ok (.ireturn, 1) := by decide +kernel
set_option maxRecDepth 20000 in
theorem ggL_unsaidBy_X1_unsaidBy : GoodIn wsL_unsaidBy wsX1_unsaidBy := goodIn_ca (goodIn_r _ [6, 7, 8, 9, 10, 11, 5, 12, 13, 14, 15, 16, 17, 18, 19, 20, 21, 22, 23, 24, 25, 26, 27, 28, 29, 30, 31, 32, 33, 34] (by decide +kernel) (by decide +kernel)) (goodIn_sub (fun _ h => List.mem_cons_of_mem _ (List.mem_append_right _ h)) (by decide +kernel))
set_option maxRecDepth 20000 in
theorem gL_unsaidBy_X1_unsaidBy : GoodIn wsL_unsaidBy (wsV RL 47 RX1 yX1_unsaidBy wsX1_unsaidBy) := goodIn_app (goodIn_of _ (by decide +kernel)) ggL_unsaidBy_X1_unsaidBy
theorem dL_unsaidBy_0 : decode cL_unsaidBy 0 = .ok (.aload_n 2, 1) := by decide +kernel
theorem dL_unsaidBy_1 : decode cL_unsaidBy 1 = .ok (.iconst 0, 1) := by decide +kernel
theorem dL_unsaidBy_2 : decode cL_unsaidBy 2 = .ok (.aload_n 0, 1) := by decide +kernel
theorem dL_unsaidBy_3 : decode cL_unsaidBy 3 = .ok (.iload_n 1, 1) := by decide +kernel
theorem dL_unsaidBy_4 : decode cL_unsaidBy 4 = .ok (.invokevirtual 47, 3) := by decide +kernel
theorem dL_unsaidBy_7 : decode cL_unsaidBy 7 = .ok (.i2l, 1) := by decide +kernel
theorem dL_unsaidBy_8 : decode cL_unsaidBy 8 = .ok (.lastore, 1) := by decide +kernel
theorem dL_unsaidBy_9 : decode cL_unsaidBy 9 = .ok (.goto 6, 3) := by decide +kernel
theorem dL_unsaidBy_12 : decode cL_unsaidBy 12 = .ok (.astore_n 3, 1) := by decide +kernel
theorem dL_unsaidBy_13 : decode cL_unsaidBy 13 = .ok (.iconst 1, 1) := by decide +kernel
theorem dL_unsaidBy_14 : decode cL_unsaidBy 14 = .ok (.ireturn, 1) := by decide +kernel
theorem dL_unsaidBy_15 : decode cL_unsaidBy 15 = .ok (.iconst 0, 1) := by decide +kernel
theorem dL_unsaidBy_16 : decode cL_unsaidBy 16 = .ok (.ireturn, 1) := by decide +kernel
set_option maxRecDepth 20000 in
theorem ggL_isUnderWay_X1_isUnderWay : GoodIn wsL_isUnderWay wsX1_isUnderWay := goodIn_ca (goodIn_r _ [6, 7, 8, 9, 10, 5, 11, 12, 13, 14, 15, 16, 17, 18, 19, 20, 21, 22, 23, 24, 25, 26, 27, 28, 29, 30, 31, 32, 33, 34, 35, 36, 37, 38, 39, 40, 41, 42] (by decide +kernel) (by decide +kernel)) (goodIn_sub (fun _ h => List.mem_cons_of_mem _ (List.mem_append_right _ h)) (by decide +kernel))
set_option maxRecDepth 20000 in
theorem gL_isUnderWay_X1_isUnderWay : GoodIn wsL_isUnderWay (wsV RL 50 RX1 yX1_isUnderWay wsX1_isUnderWay) := goodIn_app (goodIn_of _ (by decide +kernel)) ggL_isUnderWay_X1_isUnderWay
theorem dL_isUnderWay_0 : decode cL_isUnderWay 0 = .ok (.aload_n 3, 1) := by decide +kernel
theorem dL_isUnderWay_1 : decode cL_isUnderWay 1 = .ok (.iconst 0, 1) := by decide +kernel
theorem dL_isUnderWay_2 : decode cL_isUnderWay 2 = .ok (.aload_n 0, 1) := by decide +kernel
theorem dL_isUnderWay_3 : decode cL_isUnderWay 3 = .ok (.iload_n 1, 1) := by decide +kernel
theorem dL_isUnderWay_4 : decode cL_isUnderWay 4 = .ok (.iload_n 2, 1) := by decide +kernel
theorem dL_isUnderWay_5 : decode cL_isUnderWay 5 = .ok (.invokevirtual 50, 3) := by decide +kernel
theorem dL_isUnderWay_8 : decode cL_isUnderWay 8 = .ok (.ifCond .eq 7, 3) := by decide +kernel
theorem dL_isUnderWay_11 : decode cL_isUnderWay 11 = .ok (.lconst 1, 1) := by decide +kernel
theorem dL_isUnderWay_12 : decode cL_isUnderWay 12 = .ok (.goto 4, 3) := by decide +kernel
theorem dL_isUnderWay_15 : decode cL_isUnderWay 15 = .ok (.lconst 0, 1) := by decide +kernel
theorem dL_isUnderWay_16 : decode cL_isUnderWay 16 = .ok (.lastore, 1) := by decide +kernel
theorem dL_isUnderWay_17 : decode cL_isUnderWay 17 = .ok (.goto 7, 3) := by decide +kernel
theorem dL_isUnderWay_20 : decode cL_isUnderWay 20 = .ok (.astore 4, 2) := by decide +kernel
theorem dL_isUnderWay_22 : decode cL_isUnderWay 22 = .ok (.iconst 1, 1) := by decide +kernel
theorem dL_isUnderWay_23 : decode cL_isUnderWay 23 = .ok (.ireturn, 1) := by decide +kernel
theorem dL_isUnderWay_24 : decode cL_isUnderWay 24 = .ok (.iconst 0, 1) := by decide +kernel
theorem dL_isUnderWay_25 : decode cL_isUnderWay 25 = .ok (.ireturn, 1) := by decide +kernel
set_option maxRecDepth 20000 in
theorem ggL_secondsToGo_X1_secondsToGo : GoodIn wsL_secondsToGo wsX1_secondsToGo := goodIn_ca (goodIn_r _ [6, 7, 8, 9, 10, 5, 11, 12, 13, 14, 15, 16, 17, 18, 19, 20, 21, 22, 23, 24, 25, 26, 27, 28, 29, 30, 31, 32, 33, 34, 35, 36, 37, 38, 39, 40, 41, 42, 43, 44, 45, 46] (by decide +kernel) (by decide +kernel)) (goodIn_sub (fun _ h => List.mem_cons_of_mem _ (List.mem_append_right _ h)) (by decide +kernel))
set_option maxRecDepth 20000 in
theorem gL_secondsToGo_X1_secondsToGo : GoodIn wsL_secondsToGo (wsV RL 54 RX1 yX1_secondsToGo wsX1_secondsToGo) := goodIn_app (goodIn_of _ (by decide +kernel)) ggL_secondsToGo_X1_secondsToGo
theorem dL_secondsToGo_0 : decode cL_secondsToGo 0 = .ok (.aload_n 3, 1) := by decide +kernel
theorem dL_secondsToGo_1 : decode cL_secondsToGo 1 = .ok (.iconst 0, 1) := by decide +kernel
theorem dL_secondsToGo_2 : decode cL_secondsToGo 2 = .ok (.aload_n 0, 1) := by decide +kernel
theorem dL_secondsToGo_3 : decode cL_secondsToGo 3 = .ok (.iload_n 1, 1) := by decide +kernel
theorem dL_secondsToGo_4 : decode cL_secondsToGo 4 = .ok (.iload_n 2, 1) := by decide +kernel
theorem dL_secondsToGo_5 : decode cL_secondsToGo 5 = .ok (.invokevirtual 54, 3) := by decide +kernel
theorem dL_secondsToGo_8 : decode cL_secondsToGo 8 = .ok (.i2l, 1) := by decide +kernel
theorem dL_secondsToGo_9 : decode cL_secondsToGo 9 = .ok (.lastore, 1) := by decide +kernel
theorem dL_secondsToGo_10 : decode cL_secondsToGo 10 = .ok (.goto 7, 3) := by decide +kernel
theorem dL_secondsToGo_13 : decode cL_secondsToGo 13 = .ok (.astore 4, 2) := by decide +kernel
theorem dL_secondsToGo_15 : decode cL_secondsToGo 15 = .ok (.iconst 1, 1) := by decide +kernel
theorem dL_secondsToGo_16 : decode cL_secondsToGo 16 = .ok (.ireturn, 1) := by decide +kernel
theorem dL_secondsToGo_17 : decode cL_secondsToGo 17 = .ok (.iconst 0, 1) := by decide +kernel
theorem dL_secondsToGo_18 : decode cL_secondsToGo 18 = .ok (.ireturn, 1) := by decide +kernel
set_option maxRecDepth 20000 in
theorem ggL_caughtBy_X1_caughtBy : GoodIn wsL_caughtBy wsX1_caughtBy := goodIn_ca (goodIn_r _ [6, 7, 8, 9, 10, 11, 5, 12, 13, 14, 15, 16, 17, 18, 19, 20, 21, 22, 23, 24, 25, 26, 27, 28, 29, 30, 31, 32, 33, 34, 35, 36, 37] (by decide +kernel) (by decide +kernel)) (goodIn_sub (fun _ h => List.mem_cons_of_mem _ (List.mem_append_right _ h)) (by decide +kernel))
set_option maxRecDepth 20000 in
theorem gL_caughtBy_X1_caughtBy : GoodIn wsL_caughtBy (wsV RL 57 RX1 yX1_caughtBy wsX1_caughtBy) := goodIn_app (goodIn_of _ (by decide +kernel)) ggL_caughtBy_X1_caughtBy
theorem dL_caughtBy_0 : decode cL_caughtBy 0 = .ok (.aload_n 3, 1) := by decide +kernel
theorem dL_caughtBy_1 : decode cL_caughtBy 1 = .ok (.iconst 0, 1) := by decide +kernel
theorem dL_caughtBy_2 : decode cL_caughtBy 2 = .ok (.aload_n 0, 1) := by decide +kernel
theorem dL_caughtBy_3 : decode cL_caughtBy 3 = .ok (.iload_n 1, 1) := by decide +kernel
theorem dL_caughtBy_4 : decode cL_caughtBy 4 = .ok (.iload_n 2, 1) := by decide +kernel
theorem dL_caughtBy_5 : decode cL_caughtBy 5 = .ok (.invokevirtual 57, 3) := by decide +kernel
theorem dL_caughtBy_8 : decode cL_caughtBy 8 = .ok (.i2l, 1) := by decide +kernel
theorem dL_caughtBy_9 : decode cL_caughtBy 9 = .ok (.lastore, 1) := by decide +kernel
theorem dL_caughtBy_10 : decode cL_caughtBy 10 = .ok (.goto 7, 3) := by decide +kernel
theorem dL_caughtBy_13 : decode cL_caughtBy 13 = .ok (.astore 4, 2) := by decide +kernel
theorem dL_caughtBy_15 : decode cL_caughtBy 15 = .ok (.iconst 1, 1) := by decide +kernel
theorem dL_caughtBy_16 : decode cL_caughtBy 16 = .ok (.ireturn, 1) := by decide +kernel
theorem dL_caughtBy_17 : decode cL_caughtBy 17 = .ok (.iconst 0, 1) := by decide +kernel
theorem dL_caughtBy_18 : decode cL_caughtBy 18 = .ok (.ireturn, 1) := by decide +kernel
set_option maxRecDepth 20000 in
theorem ggL_allUnsaidIn_X1_allUnsaidIn : GoodIn wsL_allUnsaidIn wsX1_allUnsaidIn := goodIn_ca (goodIn_r _ [6, 7, 8, 9, 5, 10, 11, 12, 13, 14, 15, 16, 17, 18, 19, 20, 21, 22, 23, 24, 25, 26, 27, 28, 29, 30, 31, 32, 33, 34, 35, 36, 37, 38, 39, 40, 41, 42, 43, 44, 45, 46, 47, 48, 49, 50, 51, 52, 53, 54, 55, 56, 57, 58, 59, 60, 61, 62, 63, 64, 65, 66, 67, 68, 69, 70, 71, 72, 73, 74, 75, 76, 77, 78, 79, 80, 81, 82, 83, 84, 85, 86, 87, 88, 89, 90, 91, 92, 93, 94, 95, 96, 97, 98, 99, 100, 101, 102, 103, 104] (by decide +kernel) (by decide +kernel)) (goodIn_sub (fun _ h => List.mem_cons_of_mem _ (List.mem_append_right _ h)) (by decide +kernel))
set_option maxRecDepth 20000 in
theorem gL_allUnsaidIn_X1_allUnsaidIn : GoodIn wsL_allUnsaidIn (wsV RL 60 RX1 yX1_allUnsaidIn wsX1_allUnsaidIn) := goodIn_app (goodIn_of _ (by decide +kernel)) ggL_allUnsaidIn_X1_allUnsaidIn
theorem dL_allUnsaidIn_0 : decode cL_allUnsaidIn 0 = .ok (.aload_n 2, 1) := by decide +kernel
theorem dL_allUnsaidIn_1 : decode cL_allUnsaidIn 1 = .ok (.iconst 0, 1) := by decide +kernel
theorem dL_allUnsaidIn_2 : decode cL_allUnsaidIn 2 = .ok (.aload_n 0, 1) := by decide +kernel
theorem dL_allUnsaidIn_3 : decode cL_allUnsaidIn 3 = .ok (.iload_n 1, 1) := by decide +kernel
theorem dL_allUnsaidIn_4 : decode cL_allUnsaidIn 4 = .ok (.invokevirtual 60, 3) := by decide +kernel
theorem dL_allUnsaidIn_7 : decode cL_allUnsaidIn 7 = .ok (.i2l, 1) := by decide +kernel
theorem dL_allUnsaidIn_8 : decode cL_allUnsaidIn 8 = .ok (.lastore, 1) := by decide +kernel
theorem dL_allUnsaidIn_9 : decode cL_allUnsaidIn 9 = .ok (.goto 6, 3) := by decide +kernel
theorem dL_allUnsaidIn_12 : decode cL_allUnsaidIn 12 = .ok (.astore_n 3, 1) := by decide +kernel
theorem dL_allUnsaidIn_13 : decode cL_allUnsaidIn 13 = .ok (.iconst 1, 1) := by decide +kernel
theorem dL_allUnsaidIn_14 : decode cL_allUnsaidIn 14 = .ok (.ireturn, 1) := by decide +kernel
theorem dL_allUnsaidIn_15 : decode cL_allUnsaidIn 15 = .ok (.iconst 0, 1) := by decide +kernel
theorem dL_allUnsaidIn_16 : decode cL_allUnsaidIn 16 = .ok (.ireturn, 1) := by decide +kernel
set_option maxRecDepth 20000 in
theorem ggL_wouldLeave_X1_wouldLeave : GoodIn wsL_wouldLeave wsX1_wouldLeave := goodIn_ca (goodIn_ca (goodIn_ca (goodIn_r _ [8, 9, 10, 11, 12, 7, 13, 14, 15, 16, 17, 18, 19, 20, 21, 22, 23, 24, 25, 26, 27, 28, 29, 30, 31, 32, 33, 34, 35, 36, 37, 38, 39, 40, 41, 42, 43, 44, 45, 46, 47, 48, 49, 50, 51, 52, 53, 54, 55, 56, 57, 58, 59, 60, 61, 62, 63, 64, 65, 66, 67, 68, 69, 70, 71, 72, 73, 74, 75, 76, 77, 78, 79] (by decide +kernel) (by decide +kernel)) (goodIn_sub (fun _ h => List.mem_cons_of_mem _ (List.mem_append_left _ (List.mem_append_left _ (List.mem_append_right _ h)))) (by decide +kernel))) (goodIn_sub (fun _ h => List.mem_cons_of_mem _ (List.mem_append_left _ (List.mem_append_right _ h))) (by decide +kernel))) (goodIn_sub (fun _ h => List.mem_cons_of_mem _ (List.mem_append_right _ h)) (by decide +kernel))
set_option maxRecDepth 20000 in
theorem gL_wouldLeave_X1_wouldLeave : GoodIn wsL_wouldLeave (wsV RL 63 RX1 yX1_wouldLeave wsX1_wouldLeave) := goodIn_app (goodIn_of _ (by decide +kernel)) ggL_wouldLeave_X1_wouldLeave
theorem dL_wouldLeave_0 : decode cL_wouldLeave 0 = .ok (.aload_n 3, 1) := by decide +kernel
theorem dL_wouldLeave_1 : decode cL_wouldLeave 1 = .ok (.iconst 0, 1) := by decide +kernel
theorem dL_wouldLeave_2 : decode cL_wouldLeave 2 = .ok (.aload_n 0, 1) := by decide +kernel
theorem dL_wouldLeave_3 : decode cL_wouldLeave 3 = .ok (.iload_n 1, 1) := by decide +kernel
theorem dL_wouldLeave_4 : decode cL_wouldLeave 4 = .ok (.iload_n 2, 1) := by decide +kernel
theorem dL_wouldLeave_5 : decode cL_wouldLeave 5 = .ok (.invokevirtual 63, 3) := by decide +kernel
theorem dL_wouldLeave_8 : decode cL_wouldLeave 8 = .ok (.i2l, 1) := by decide +kernel
theorem dL_wouldLeave_9 : decode cL_wouldLeave 9 = .ok (.lastore, 1) := by decide +kernel
theorem dL_wouldLeave_10 : decode cL_wouldLeave 10 = .ok (.goto 15, 3) := by decide +kernel
theorem dL_wouldLeave_13 : decode cL_wouldLeave 13 = .ok (.astore 4, 2) := by decide +kernel
theorem dL_wouldLeave_15 : decode cL_wouldLeave 15 = .ok (.iconst 1, 1) := by decide +kernel
theorem dL_wouldLeave_16 : decode cL_wouldLeave 16 = .ok (.ireturn, 1) := by decide +kernel
theorem dL_wouldLeave_17 : decode cL_wouldLeave 17 = .ok (.astore 4, 2) := by decide +kernel
theorem dL_wouldLeave_19 : decode cL_wouldLeave 19 = .ok (.iconst 2, 1) := by decide +kernel
theorem dL_wouldLeave_20 : decode cL_wouldLeave 20 = .ok (.ireturn, 1) := by decide +kernel
theorem dL_wouldLeave_21 : decode cL_wouldLeave 21 = .ok (.astore 4, 2) := by decide +kernel
theorem dL_wouldLeave_23 : decode cL_wouldLeave 23 = .ok (.iconst 3, 1) := by decide +kernel
theorem dL_wouldLeave_24 : decode cL_wouldLeave 24 = .ok (.ireturn, 1) := by decide +kernel
theorem dL_wouldLeave_25 : decode cL_wouldLeave 25 = .ok (.iconst 0, 1) := by decide +kernel
theorem dL_wouldLeave_26 : decode cL_wouldLeave 26 = .ok (.ireturn, 1) := by decide +kernel
set_option maxRecDepth 20000 in
theorem ggL_bestMoment_X1_bestMoment : GoodIn wsL_bestMoment wsX1_bestMoment := goodIn_ca (goodIn_ca (goodIn_ca (goodIn_r _ [8, 9, 10, 11, 12, 7, 13, 14, 15, 16, 17, 18, 19, 20, 21, 22, 23, 24, 25, 26, 27, 28, 29, 30, 31, 32, 33, 34, 35, 36, 37, 38, 39, 40, 41, 42, 43, 44, 45, 46, 47, 48, 49, 50, 51, 52, 53, 54, 55, 56, 57, 58, 59, 60, 61, 62, 63, 64, 65, 66, 67, 68, 69, 70, 71, 72, 73, 74, 75, 76, 77, 78, 79] (by decide +kernel) (by decide +kernel)) (goodIn_sub (fun _ h => List.mem_cons_of_mem _ (List.mem_append_left _ (List.mem_append_left _ (List.mem_append_right _ h)))) (by decide +kernel))) (goodIn_sub (fun _ h => List.mem_cons_of_mem _ (List.mem_append_left _ (List.mem_append_right _ h))) (by decide +kernel))) (goodIn_sub (fun _ h => List.mem_cons_of_mem _ (List.mem_append_right _ h)) (by decide +kernel))
set_option maxRecDepth 20000 in
theorem gL_bestMoment_X1_bestMoment : GoodIn wsL_bestMoment (wsV RL 66 RX1 yX1_bestMoment wsX1_bestMoment) := goodIn_app (goodIn_of _ (by decide +kernel)) ggL_bestMoment_X1_bestMoment
theorem dL_bestMoment_0 : decode cL_bestMoment 0 = .ok (.aload_n 3, 1) := by decide +kernel
theorem dL_bestMoment_1 : decode cL_bestMoment 1 = .ok (.iconst 0, 1) := by decide +kernel
theorem dL_bestMoment_2 : decode cL_bestMoment 2 = .ok (.aload_n 0, 1) := by decide +kernel
theorem dL_bestMoment_3 : decode cL_bestMoment 3 = .ok (.iload_n 1, 1) := by decide +kernel
theorem dL_bestMoment_4 : decode cL_bestMoment 4 = .ok (.iload_n 2, 1) := by decide +kernel
theorem dL_bestMoment_5 : decode cL_bestMoment 5 = .ok (.invokevirtual 66, 3) := by decide +kernel
theorem dL_bestMoment_8 : decode cL_bestMoment 8 = .ok (.i2l, 1) := by decide +kernel
theorem dL_bestMoment_9 : decode cL_bestMoment 9 = .ok (.lastore, 1) := by decide +kernel
theorem dL_bestMoment_10 : decode cL_bestMoment 10 = .ok (.goto 15, 3) := by decide +kernel
theorem dL_bestMoment_13 : decode cL_bestMoment 13 = .ok (.astore 4, 2) := by decide +kernel
theorem dL_bestMoment_15 : decode cL_bestMoment 15 = .ok (.iconst 1, 1) := by decide +kernel
theorem dL_bestMoment_16 : decode cL_bestMoment 16 = .ok (.ireturn, 1) := by decide +kernel
theorem dL_bestMoment_17 : decode cL_bestMoment 17 = .ok (.astore 4, 2) := by decide +kernel
theorem dL_bestMoment_19 : decode cL_bestMoment 19 = .ok (.iconst 2, 1) := by decide +kernel
theorem dL_bestMoment_20 : decode cL_bestMoment 20 = .ok (.ireturn, 1) := by decide +kernel
theorem dL_bestMoment_21 : decode cL_bestMoment 21 = .ok (.astore 4, 2) := by decide +kernel
theorem dL_bestMoment_23 : decode cL_bestMoment 23 = .ok (.iconst 3, 1) := by decide +kernel
theorem dL_bestMoment_24 : decode cL_bestMoment 24 = .ok (.ireturn, 1) := by decide +kernel
theorem dL_bestMoment_25 : decode cL_bestMoment 25 = .ok (.iconst 0, 1) := by decide +kernel
theorem dL_bestMoment_26 : decode cL_bestMoment 26 = .ok (.ireturn, 1) := by decide +kernel
set_option maxRecDepth 20000 in
theorem ggL_ratingIn_X1_ratingIn : GoodIn wsL_ratingIn wsX1_ratingIn := goodIn_ca (goodIn_r _ [6, 7, 8, 9, 5, 10, 11, 12, 13, 14, 15, 16, 17, 18, 19, 20, 21, 22, 23, 24, 25, 26, 27, 28, 29, 30, 31, 32, 33, 34, 35, 36, 37, 38, 39, 40, 41, 42, 43, 44, 45, 46, 47, 48, 49, 50, 51, 52, 53, 54, 55, 56, 57, 58, 59, 60, 61, 62, 63, 64, 65, 66, 67, 68, 69, 70, 71, 72, 73, 74, 75, 76, 77, 78, 79, 80, 81, 82, 83, 84, 85, 86, 87, 88, 89, 90, 91, 92, 93, 94, 95, 96, 97, 98, 99, 100, 101, 102, 103, 104, 105, 106, 107, 108, 109, 110, 111, 112, 113, 114, 115] (by decide +kernel) (by decide +kernel)) (goodIn_sub (fun _ h => List.mem_cons_of_mem _ (List.mem_append_right _ h)) (by decide +kernel))
set_option maxRecDepth 20000 in
theorem gL_ratingIn_X1_ratingIn : GoodIn wsL_ratingIn (wsV RL 69 RX1 yX1_ratingIn wsX1_ratingIn) := goodIn_app (goodIn_of _ (by decide +kernel)) ggL_ratingIn_X1_ratingIn
theorem dL_ratingIn_0 : decode cL_ratingIn 0 = .ok (.aload_n 2, 1) := by decide +kernel
theorem dL_ratingIn_1 : decode cL_ratingIn 1 = .ok (.iconst 0, 1) := by decide +kernel
theorem dL_ratingIn_2 : decode cL_ratingIn 2 = .ok (.aload_n 0, 1) := by decide +kernel
theorem dL_ratingIn_3 : decode cL_ratingIn 3 = .ok (.iload_n 1, 1) := by decide +kernel
theorem dL_ratingIn_4 : decode cL_ratingIn 4 = .ok (.invokevirtual 69, 3) := by decide +kernel
theorem dL_ratingIn_7 : decode cL_ratingIn 7 = .ok (.i2l, 1) := by decide +kernel
theorem dL_ratingIn_8 : decode cL_ratingIn 8 = .ok (.lastore, 1) := by decide +kernel
theorem dL_ratingIn_9 : decode cL_ratingIn 9 = .ok (.goto 6, 3) := by decide +kernel
theorem dL_ratingIn_12 : decode cL_ratingIn 12 = .ok (.astore_n 3, 1) := by decide +kernel
theorem dL_ratingIn_13 : decode cL_ratingIn 13 = .ok (.iconst 1, 1) := by decide +kernel
theorem dL_ratingIn_14 : decode cL_ratingIn 14 = .ok (.ireturn, 1) := by decide +kernel
theorem dL_ratingIn_15 : decode cL_ratingIn 15 = .ok (.iconst 0, 1) := by decide +kernel
theorem dL_ratingIn_16 : decode cL_ratingIn 16 = .ok (.ireturn, 1) := by decide +kernel
