set_option maxRecDepth 20000 in
theorem ggX1_init_X0_init : GoodIn wsX1_init wsX0_init := goodIn_r _ [11, 12, 2, 3, 13, 14, 15, 16, 17, 18, 19, 20, 21, 22, 23, 24, 6, 25, 26, 27, 28, 29, 30, 31, 32, 33, 34, 35, 36, 37, 38, 39, 40, 41, 42, 43, 44, 45, 46, 47, 48, 49, 50, 51, 52, 53, 54, 55] (by decide +kernel) (by decide +kernel)
set_option maxRecDepth 20000 in
theorem gX1_init_X0_init : GoodIn wsX1_init (wsX0_init) := ggX1_init_X0_init
theorem dX1_init_0 : decode cX1_init 0 = .ok (.aload_n 0, 1) := by decide +kernel
theorem dX1_init_1 : decode cX1_init 1 = .ok (.invokespecial 3, 3) := by decide +kernel
theorem dX1_init_4 : decode cX1_init 4 = .ok (.aload_n 0, 1) := by decide +kernel
theorem dX1_init_5 : decode cX1_init 5 = .ok (.new 9, 3) := by decide +kernel
theorem dX1_init_8 : decode cX1_init 8 = .ok (.dup, 1) := by decide +kernel
theorem dX1_init_9 : decode cX1_init 9 = .ok (.invokespecial 11, 3) := by decide +kernel
theorem dX1_init_12 : decode cX1_init 12 = .ok (.putfield 12, 3) := by decide +kernel
theorem dX1_init_15 : decode cX1_init 15 = .ok (.aload_n 0, 1) := by decide +kernel
theorem dX1_init_16 : decode cX1_init 16 = .ok (.new 9, 3) := by decide +kernel
theorem dX1_init_19 : decode cX1_init 19 = .ok (.dup, 1) := by decide +kernel
theorem dX1_init_20 : decode cX1_init 20 = .ok (.invokespecial 11, 3) := by decide +kernel
theorem dX1_init_23 : decode cX1_init 23 = .ok (.putfield 16, 3) := by decide +kernel
theorem dX1_init_26 : decode cX1_init 26 = .ok (.return_, 1) := by decide +kernel
set_option maxRecDepth 20000 in
theorem ggX1_newDinner_X1_requireWithin : GoodIn wsX1_newDinner wsX1_requireWithin := goodIn_ca (goodIn_r _ [5, 6, 7] (by decide +kernel) (by decide +kernel)) (goodIn_sub (fun _ h => List.mem_cons_of_mem _ (List.mem_append_right _ h)) (by decide +kernel))
set_option maxRecDepth 20000 in
theorem gX1_newDinner_X1_requireWithin : GoodIn wsX1_newDinner (va_wsS RX1 19 yX1_requireWithin wsX1_requireWithin) := goodIn_app (goodIn_of _ (by decide +kernel)) ggX1_newDinner_X1_requireWithin
set_option maxRecDepth 20000 in
theorem ggX1_newDinner_X0_rate : GoodIn wsX1_newDinner wsX0_rate := goodIn_r _ [12, 13, 14, 15, 16, 17, 18, 19, 20, 21, 22, 23, 11, 24, 25, 26, 27, 28, 29, 30, 53, 54, 55, 56, 57, 58, 59, 60, 61, 62, 63, 64, 65, 66, 67, 68, 69] (by decide +kernel) (by decide +kernel)
set_option maxRecDepth 20000 in
theorem gX1_newDinner_X0_rate : GoodIn wsX1_newDinner (wsV RX1 23 RX0 yX0_rate wsX0_rate) := goodIn_app (goodIn_of _ (by decide +kernel)) ggX1_newDinner_X0_rate
set_option maxRecDepth 20000 in
theorem ggX1_newDinner_X0_begin : GoodIn wsX1_newDinner wsX0_begin := goodIn_r _ [34, 13, 35, 36, 37, 38, 25, 39, 40, 41, 42, 43, 44, 30, 45, 46, 47, 48, 49, 50, 53, 54, 55, 56, 57, 58, 59, 60, 61, 62, 63, 64, 65, 66, 67, 68, 69] (by decide +kernel) (by decide +kernel)
set_option maxRecDepth 20000 in
theorem gX1_newDinner_X0_begin : GoodIn wsX1_newDinner (wsV RX1 27 RX0 yX0_begin wsX0_begin) := goodIn_app (goodIn_of _ (by decide +kernel)) ggX1_newDinner_X0_begin
theorem dX1_newDinner_0 : decode cX1_newDinner 0 = .ok (.iload_n 1, 1) := by decide +kernel
theorem dX1_newDinner_1 : decode cX1_newDinner 1 = .ok (.iconst 2, 1) := by decide +kernel
theorem dX1_newDinner_2 : decode cX1_newDinner 2 = .ok (.bipush 10, 2) := by decide +kernel
theorem dX1_newDinner_4 : decode cX1_newDinner 4 = .ok (.invokestatic 19, 3) := by decide +kernel
theorem dX1_newDinner_7 : decode cX1_newDinner 7 = .ok (.aload_n 0, 1) := by decide +kernel
theorem dX1_newDinner_8 : decode cX1_newDinner 8 = .ok (.getfield 12, 3) := by decide +kernel
theorem dX1_newDinner_11 : decode cX1_newDinner 11 = .ok (.invokevirtual 23, 3) := by decide +kernel
theorem dX1_newDinner_14 : decode cX1_newDinner 14 = .ok (.istore_n 2, 1) := by decide +kernel
theorem dX1_newDinner_15 : decode cX1_newDinner 15 = .ok (.aload_n 0, 1) := by decide +kernel
theorem dX1_newDinner_16 : decode cX1_newDinner 16 = .ok (.getfield 12, 3) := by decide +kernel
theorem dX1_newDinner_19 : decode cX1_newDinner 19 = .ok (.iload_n 1, 1) := by decide +kernel
theorem dX1_newDinner_20 : decode cX1_newDinner 20 = .ok (.invokevirtual 27, 3) := by decide +kernel
theorem dX1_newDinner_23 : decode cX1_newDinner 23 = .ok (.iload_n 2, 1) := by decide +kernel
theorem dX1_newDinner_24 : decode cX1_newDinner 24 = .ok (.ireturn, 1) := by decide +kernel
set_option maxRecDepth 20000 in
theorem ggX1_setLimit_X1_requireWithin : GoodIn wsX1_setLimit wsX1_requireWithin := goodIn_ca (goodIn_r _ [6, 7, 8] (by decide +kernel) (by decide +kernel)) (goodIn_sub (fun _ h => List.mem_cons_of_mem _ (List.mem_append_right _ h)) (by decide +kernel))
set_option maxRecDepth 20000 in
theorem gX1_setLimit_X1_requireWithin : GoodIn wsX1_setLimit (va_wsS RX1 19 yX1_requireWithin wsX1_requireWithin) := goodIn_app (goodIn_of _ (by decide +kernel)) ggX1_setLimit_X1_requireWithin
theorem dX1_setLimit_0 : decode cX1_setLimit 0 = .ok (.iload_n 1, 1) := by decide +kernel
theorem dX1_setLimit_1 : decode cX1_setLimit 1 = .ok (.iconst 1, 1) := by decide +kernel
theorem dX1_setLimit_2 : decode cX1_setLimit 2 = .ok (.bipush 30, 2) := by decide +kernel
theorem dX1_setLimit_4 : decode cX1_setLimit 4 = .ok (.invokestatic 19, 3) := by decide +kernel
theorem dX1_setLimit_7 : decode cX1_setLimit 7 = .ok (.aload_n 0, 1) := by decide +kernel
theorem dX1_setLimit_8 : decode cX1_setLimit 8 = .ok (.getfield 12, 3) := by decide +kernel
theorem dX1_setLimit_11 : decode cX1_setLimit 11 = .ok (.getfield 31, 3) := by decide +kernel
theorem dX1_setLimit_14 : decode cX1_setLimit 14 = .ok (.istore_n 2, 1) := by decide +kernel
theorem dX1_setLimit_15 : decode cX1_setLimit 15 = .ok (.aload_n 0, 1) := by decide +kernel
theorem dX1_setLimit_16 : decode cX1_setLimit 16 = .ok (.getfield 12, 3) := by decide +kernel
theorem dX1_setLimit_19 : decode cX1_setLimit 19 = .ok (.iload_n 1, 1) := by decide +kernel
theorem dX1_setLimit_20 : decode cX1_setLimit 20 = .ok (.putfield 31, 3) := by decide +kernel
theorem dX1_setLimit_23 : decode cX1_setLimit 23 = .ok (.iload_n 2, 1) := by decide +kernel
theorem dX1_setLimit_24 : decode cX1_setLimit 24 = .ok (.ireturn, 1) := by decide +kernel
set_option maxRecDepth 20000 in
theorem ggX1_speak_X1_requireGuest : GoodIn wsX1_speak wsX1_requireGuest := goodIn_ca (goodIn_r _ [6, 7, 8, 1, 9, 23, 24, 25, 26, 27, 28, 29, 30, 31, 32, 33, 34, 35, 36, 37, 38, 39, 40, 41] (by decide +kernel) (by decide +kernel)) (goodIn_sub (fun _ h => List.mem_cons_of_mem _ (List.mem_append_left _ (List.mem_append_right _ h))) (by decide +kernel))
set_option maxRecDepth 20000 in
theorem gX1_speak_X1_requireGuest : GoodIn wsX1_speak (wsV RX1 35 RX1 yX1_requireGuest wsX1_requireGuest) := goodIn_app (goodIn_of _ (by decide +kernel)) ggX1_speak_X1_requireGuest
set_option maxRecDepth 20000 in
theorem ggX1_speak_X1_requireWithin : GoodIn wsX1_speak wsX1_requireWithin := goodIn_ca (goodIn_r _ [12, 13, 14] (by decide +kernel) (by decide +kernel)) (goodIn_sub (fun _ h => List.mem_cons_of_mem _ (List.mem_append_right _ h)) (by decide +kernel))
set_option maxRecDepth 20000 in
theorem gX1_speak_X1_requireWithin : GoodIn wsX1_speak (va_wsS RX1 19 yX1_requireWithin wsX1_requireWithin) := goodIn_app (goodIn_of _ (by decide +kernel)) ggX1_speak_X1_requireWithin
set_option maxRecDepth 20000 in
theorem ggX1_speak_X0_letSpeak : GoodIn wsX1_speak wsX0_letSpeak := goodIn_r _ [19, 20, 21, 22, 25, 26, 27, 28, 29, 30, 31, 32, 33, 34, 35, 36, 37, 38, 39, 40, 41] (by decide +kernel) (by decide +kernel)
set_option maxRecDepth 20000 in
theorem gX1_speak_X0_letSpeak : GoodIn wsX1_speak (wsV RX1 38 RX0 yX0_letSpeak wsX0_letSpeak) := goodIn_app (goodIn_of _ (by decide +kernel)) ggX1_speak_X0_letSpeak
theorem dX1_speak_0 : decode cX1_speak 0 = .ok (.aload_n 0, 1) := by decide +kernel
theorem dX1_speak_1 : decode cX1_speak 1 = .ok (.iload_n 1, 1) := by decide +kernel
theorem dX1_speak_2 : decode cX1_speak 2 = .ok (.invokevirtual 35, 3) := by decide +kernel
theorem dX1_speak_5 : decode cX1_speak 5 = .ok (.iload_n 2, 1) := by decide +kernel
theorem dX1_speak_6 : decode cX1_speak 6 = .ok (.iconst 1, 1) := by decide +kernel
theorem dX1_speak_7 : decode cX1_speak 7 = .ok (.bipush 60, 2) := by decide +kernel
theorem dX1_speak_9 : decode cX1_speak 9 = .ok (.invokestatic 19, 3) := by decide +kernel
theorem dX1_speak_12 : decode cX1_speak 12 = .ok (.aload_n 0, 1) := by decide +kernel
theorem dX1_speak_13 : decode cX1_speak 13 = .ok (.getfield 12, 3) := by decide +kernel
theorem dX1_speak_16 : decode cX1_speak 16 = .ok (.iload_n 1, 1) := by decide +kernel
theorem dX1_speak_17 : decode cX1_speak 17 = .ok (.iload_n 2, 1) := by decide +kernel
theorem dX1_speak_18 : decode cX1_speak 18 = .ok (.invokevirtual 38, 3) := by decide +kernel
theorem dX1_speak_21 : decode cX1_speak 21 = .ok (.ireturn, 1) := by decide +kernel
set_option maxRecDepth 20000 in
theorem ggX1_cough_X1_requireGuest : GoodIn wsX1_cough wsX1_requireGuest := goodIn_ca (goodIn_r _ [6, 7, 8, 1, 9, 27, 28, 29, 30, 31, 32, 33, 34, 35, 36, 37, 38, 39, 40, 41, 42, 43, 44, 45] (by decide +kernel) (by decide +kernel)) (goodIn_sub (fun _ h => List.mem_cons_of_mem _ (List.mem_append_left _ (List.mem_append_right _ h))) (by decide +kernel))
set_option maxRecDepth 20000 in
theorem gX1_cough_X1_requireGuest : GoodIn wsX1_cough (wsV RX1 35 RX1 yX1_requireGuest wsX1_requireGuest) := goodIn_app (goodIn_of _ (by decide +kernel)) ggX1_cough_X1_requireGuest
set_option maxRecDepth 20000 in
theorem ggX1_cough_X1_requireWithin : GoodIn wsX1_cough wsX1_requireWithin := goodIn_ca (goodIn_r _ [12, 13, 14] (by decide +kernel) (by decide +kernel)) (goodIn_sub (fun _ h => List.mem_cons_of_mem _ (List.mem_append_right _ h)) (by decide +kernel))
set_option maxRecDepth 20000 in
theorem gX1_cough_X1_requireWithin : GoodIn wsX1_cough (va_wsS RX1 19 yX1_requireWithin wsX1_requireWithin) := goodIn_app (goodIn_of _ (by decide +kernel)) ggX1_cough_X1_requireWithin
set_option maxRecDepth 20000 in
theorem ggX1_cough_X0_letCough : GoodIn wsX1_cough wsX0_letCough := goodIn_r _ [19, 20, 21, 22, 23, 24, 18, 25, 26, 29, 30, 31, 32, 33, 34, 35, 36, 37, 38, 39, 40, 41, 42, 43, 44, 45] (by decide +kernel) (by decide +kernel)
set_option maxRecDepth 20000 in
theorem gX1_cough_X0_letCough : GoodIn wsX1_cough (wsV RX1 42 RX0 yX0_letCough wsX0_letCough) := goodIn_app (goodIn_of _ (by decide +kernel)) ggX1_cough_X0_letCough
theorem dX1_cough_0 : decode cX1_cough 0 = .ok (.aload_n 0, 1) := by decide +kernel
theorem dX1_cough_1 : decode cX1_cough 1 = .ok (.iload_n 1, 1) := by decide +kernel
theorem dX1_cough_2 : decode cX1_cough 2 = .ok (.invokevirtual 35, 3) := by decide +kernel
theorem dX1_cough_5 : decode cX1_cough 5 = .ok (.iload_n 2, 1) := by decide +kernel
theorem dX1_cough_6 : decode cX1_cough 6 = .ok (.iconst 1, 1) := by decide +kernel
theorem dX1_cough_7 : decode cX1_cough 7 = .ok (.bipush 9, 2) := by decide +kernel
theorem dX1_cough_9 : decode cX1_cough 9 = .ok (.invokestatic 19, 3) := by decide +kernel
theorem dX1_cough_12 : decode cX1_cough 12 = .ok (.aload_n 0, 1) := by decide +kernel
theorem dX1_cough_13 : decode cX1_cough 13 = .ok (.getfield 12, 3) := by decide +kernel
theorem dX1_cough_16 : decode cX1_cough 16 = .ok (.iload_n 1, 1) := by decide +kernel
theorem dX1_cough_17 : decode cX1_cough 17 = .ok (.iload_n 2, 1) := by decide +kernel
theorem dX1_cough_18 : decode cX1_cough 18 = .ok (.invokevirtual 42, 3) := by decide +kernel
theorem dX1_cough_21 : decode cX1_cough 21 = .ok (.ireturn, 1) := by decide +kernel
set_option maxRecDepth 20000 in
theorem ggX1_glance_X1_requireFreeWay : GoodIn wsX1_glance wsX1_requireFreeWay := goodIn_ca (goodIn_ca (goodIn_ca (goodIn_r _ [6, 7, 8, 9, 10, 1, 11, 12, 13, 5, 14, 15, 16, 17, 18, 19, 20, 21, 22, 23, 24, 25, 26, 49, 50, 51, 52, 53, 54, 55, 56, 57, 58, 59, 60, 61, 62, 63, 64, 65, 66, 67] (by decide +kernel) (by decide +kernel)) (goodIn_sub (fun _ h => List.mem_cons_of_mem _ (List.mem_append_left _ (List.mem_append_left _ (List.mem_append_right _ h)))) (by decide +kernel))) (goodIn_sub (fun _ h => List.mem_cons_of_mem _ (List.mem_append_left _ (List.mem_append_right _ h))) (by decide +kernel))) (goodIn_sub (fun _ h => List.mem_cons_of_mem _ (List.mem_append_right _ h)) (by decide +kernel))
set_option maxRecDepth 20000 in
theorem gX1_glance_X1_requireFreeWay : GoodIn wsX1_glance (wsV RX1 45 RX1 yX1_requireFreeWay wsX1_requireFreeWay) := goodIn_app (goodIn_of _ (by decide +kernel)) ggX1_glance_X1_requireFreeWay
set_option maxRecDepth 20000 in
theorem ggX1_glance_X0_send : GoodIn wsX1_glance wsX0_send := goodIn_r _ [30, 31, 32, 26, 19, 5, 20, 33, 34, 35, 24, 36, 37, 38, 39, 40, 41, 42, 43, 44, 45, 46, 47, 48, 51, 52, 53, 54, 55, 56, 57, 58, 59, 60, 61, 62, 63, 64, 65, 66, 67] (by decide +kernel) (by decide +kernel)
set_option maxRecDepth 20000 in
theorem gX1_glance_X0_send : GoodIn wsX1_glance (wsV RX1 49 RX0 yX0_send wsX0_send) := goodIn_app (goodIn_of _ (by decide +kernel)) ggX1_glance_X0_send
theorem dX1_glance_0 : decode cX1_glance 0 = .ok (.aload_n 0, 1) := by decide +kernel
theorem dX1_glance_1 : decode cX1_glance 1 = .ok (.iload_n 1, 1) := by decide +kernel
theorem dX1_glance_2 : decode cX1_glance 2 = .ok (.iload_n 2, 1) := by decide +kernel
theorem dX1_glance_3 : decode cX1_glance 3 = .ok (.invokevirtual 45, 3) := by decide +kernel
theorem dX1_glance_6 : decode cX1_glance 6 = .ok (.aload_n 0, 1) := by decide +kernel
theorem dX1_glance_7 : decode cX1_glance 7 = .ok (.getfield 12, 3) := by decide +kernel
theorem dX1_glance_10 : decode cX1_glance 10 = .ok (.iload_n 1, 1) := by decide +kernel
theorem dX1_glance_11 : decode cX1_glance 11 = .ok (.iload_n 2, 1) := by decide +kernel
theorem dX1_glance_12 : decode cX1_glance 12 = .ok (.invokevirtual 49, 3) := by decide +kernel
theorem dX1_glance_15 : decode cX1_glance 15 = .ok (.ireturn, 1) := by decide +kernel
set_option maxRecDepth 20000 in
theorem ggX1_pass_X1_requireWithin : GoodIn wsX1_pass wsX1_requireWithin := goodIn_ca (goodIn_r _ [5, 6, 7] (by decide +kernel) (by decide +kernel)) (goodIn_sub (fun _ h => List.mem_cons_of_mem _ (List.mem_append_right _ h)) (by decide +kernel))
set_option maxRecDepth 20000 in
theorem gX1_pass_X1_requireWithin : GoodIn wsX1_pass (va_wsS RX1 19 yX1_requireWithin wsX1_requireWithin) := goodIn_app (goodIn_of _ (by decide +kernel)) ggX1_pass_X1_requireWithin
set_option maxRecDepth 20000 in
theorem ggX1_pass_X0_sumUnsaid : GoodIn wsX1_pass wsX0_sumUnsaid := goodIn_r _ [12, 13, 14, 15, 16, 11, 17, 18, 19, 68, 69, 70, 71, 72, 73, 74, 75, 76, 77, 78, 79, 80, 81, 82, 83, 84] (by decide +kernel) (by decide +kernel)
set_option maxRecDepth 20000 in
theorem gX1_pass_X0_sumUnsaid : GoodIn wsX1_pass (wsV RX1 52 RX0 yX0_sumUnsaid wsX0_sumUnsaid) := goodIn_app (goodIn_of _ (by decide +kernel)) ggX1_pass_X0_sumUnsaid
set_option maxRecDepth 20000 in
theorem ggX1_pass_X0_goBy : GoodIn wsX1_pass wsX0_goBy := goodIn_r _ [23, 24, 25, 26, 11, 27, 28, 29, 30, 31, 32, 33, 34, 13, 35, 36, 37, 38, 39, 40, 41, 42, 43, 44, 45, 46, 47, 48, 49, 50, 51, 52, 53, 19, 54, 55, 56, 4, 57, 58, 59, 60, 61, 62, 63, 64, 65, 68, 69, 70, 71, 72, 73, 74, 75, 76, 77, 78, 79, 80, 81, 82, 83, 84] (by decide +kernel) (by decide +kernel)
set_option maxRecDepth 20000 in
theorem gX1_pass_X0_goBy : GoodIn wsX1_pass (wsV RX1 55 RX0 yX0_goBy wsX0_goBy) := goodIn_app (goodIn_of _ (by decide +kernel)) ggX1_pass_X0_goBy
theorem dX1_pass_0 : decode cX1_pass 0 = .ok (.iload_n 1, 1) := by decide +kernel
theorem dX1_pass_1 : decode cX1_pass 1 = .ok (.iconst 1, 1) := by decide +kernel
theorem dX1_pass_2 : decode cX1_pass 2 = .ok (.bipush 120, 2) := by decide +kernel
theorem dX1_pass_4 : decode cX1_pass 4 = .ok (.invokestatic 19, 3) := by decide +kernel
theorem dX1_pass_7 : decode cX1_pass 7 = .ok (.aload_n 0, 1) := by decide +kernel
theorem dX1_pass_8 : decode cX1_pass 8 = .ok (.getfield 12, 3) := by decide +kernel
theorem dX1_pass_11 : decode cX1_pass 11 = .ok (.invokevirtual 52, 3) := by decide +kernel
theorem dX1_pass_14 : decode cX1_pass 14 = .ok (.istore_n 2, 1) := by decide +kernel
theorem dX1_pass_15 : decode cX1_pass 15 = .ok (.aload_n 0, 1) := by decide +kernel
theorem dX1_pass_16 : decode cX1_pass 16 = .ok (.getfield 12, 3) := by decide +kernel
theorem dX1_pass_19 : decode cX1_pass 19 = .ok (.iload_n 1, 1) := by decide +kernel
theorem dX1_pass_20 : decode cX1_pass 20 = .ok (.invokevirtual 55, 3) := by decide +kernel
theorem dX1_pass_23 : decode cX1_pass 23 = .ok (.aload_n 0, 1) := by decide +kernel
theorem dX1_pass_24 : decode cX1_pass 24 = .ok (.getfield 12, 3) := by decide +kernel
theorem dX1_pass_27 : decode cX1_pass 27 = .ok (.invokevirtual 52, 3) := by decide +kernel
theorem dX1_pass_30 : decode cX1_pass 30 = .ok (.iload_n 2, 1) := by decide +kernel
theorem dX1_pass_31 : decode cX1_pass 31 = .ok (.isub, 1) := by decide +kernel
theorem dX1_pass_32 : decode cX1_pass 32 = .ok (.ireturn, 1) := by decide +kernel
theorem dX1_guests_0 : decode cX1_guests 0 = .ok (.aload_n 0, 1) := by decide +kernel
theorem dX1_guests_1 : decode cX1_guests 1 = .ok (.getfield 12, 3) := by decide +kernel
theorem dX1_guests_4 : decode cX1_guests 4 = .ok (.getfield 58, 3) := by decide +kernel
theorem dX1_guests_7 : decode cX1_guests 7 = .ok (.ireturn, 1) := by decide +kernel
theorem dX1_seconds_0 : decode cX1_seconds 0 = .ok (.aload_n 0, 1) := by decide +kernel
theorem dX1_seconds_1 : decode cX1_seconds 1 = .ok (.getfield 12, 3) := by decide +kernel
theorem dX1_seconds_4 : decode cX1_seconds 4 = .ok (.getfield 61, 3) := by decide +kernel
theorem dX1_seconds_7 : decode cX1_seconds 7 = .ok (.ireturn, 1) := by decide +kernel
theorem dX1_limit_0 : decode cX1_limit 0 = .ok (.aload_n 0, 1) := by decide +kernel
theorem dX1_limit_1 : decode cX1_limit 1 = .ok (.getfield 12, 3) := by decide +kernel
theorem dX1_limit_4 : decode cX1_limit 4 = .ok (.getfield 31, 3) := by decide +kernel
theorem dX1_limit_7 : decode cX1_limit 7 = .ok (.ireturn, 1) := by decide +kernel
set_option maxRecDepth 20000 in
theorem ggX1_seatsApart_X1_requireGuest : GoodIn wsX1_seatsApart wsX1_requireGuest := goodIn_ca (goodIn_r _ [6, 7, 8, 1, 9, 23, 24, 25, 26, 27, 28, 29, 30, 31, 32, 33, 34, 35, 36, 37, 38, 39, 40, 41] (by decide +kernel) (by decide +kernel)) (goodIn_sub (fun _ h => List.mem_cons_of_mem _ (List.mem_append_right _ h)) (by decide +kernel))
set_option maxRecDepth 20000 in
theorem gX1_seatsApart_X1_requireGuest : GoodIn wsX1_seatsApart (wsV RX1 35 RX1 yX1_requireGuest wsX1_requireGuest) := goodIn_app (goodIn_of _ (by decide +kernel)) ggX1_seatsApart_X1_requireGuest
set_option maxRecDepth 20000 in
theorem ggX1_seatsApart_X0_seatsBetween : GoodIn wsX1_seatsApart wsX0_seatsBetween := goodIn_r _ [14, 15, 16, 17, 18, 19, 20, 21, 22, 25, 26, 27, 28, 29, 30, 31, 32, 33, 34, 35, 36, 37, 38, 39, 40, 41] (by decide +kernel) (by decide +kernel)
set_option maxRecDepth 20000 in
theorem gX1_seatsApart_X0_seatsBetween : GoodIn wsX1_seatsApart (wsV RX1 64 RX0 yX0_seatsBetween wsX0_seatsBetween) := goodIn_app (goodIn_of _ (by decide +kernel)) ggX1_seatsApart_X0_seatsBetween
theorem dX1_seatsApart_0 : decode cX1_seatsApart 0 = .ok (.aload_n 0, 1) := by decide +kernel
theorem dX1_seatsApart_1 : decode cX1_seatsApart 1 = .ok (.iload_n 1, 1) := by decide +kernel
theorem dX1_seatsApart_2 : decode cX1_seatsApart 2 = .ok (.invokevirtual 35, 3) := by decide +kernel
theorem dX1_seatsApart_5 : decode cX1_seatsApart 5 = .ok (.aload_n 0, 1) := by decide +kernel
theorem dX1_seatsApart_6 : decode cX1_seatsApart 6 = .ok (.iload_n 2, 1) := by decide +kernel
theorem dX1_seatsApart_7 : decode cX1_seatsApart 7 = .ok (.invokevirtual 35, 3) := by decide +kernel
theorem dX1_seatsApart_10 : decode cX1_seatsApart 10 = .ok (.aload_n 0, 1) := by decide +kernel
theorem dX1_seatsApart_11 : decode cX1_seatsApart 11 = .ok (.getfield 12, 3) := by decide +kernel
theorem dX1_seatsApart_14 : decode cX1_seatsApart 14 = .ok (.iload_n 1, 1) := by decide +kernel
theorem dX1_seatsApart_15 : decode cX1_seatsApart 15 = .ok (.iload_n 2, 1) := by decide +kernel
theorem dX1_seatsApart_16 : decode cX1_seatsApart 16 = .ok (.invokevirtual 64, 3) := by decide +kernel
theorem dX1_seatsApart_19 : decode cX1_seatsApart 19 = .ok (.ireturn, 1) := by decide +kernel
theorem dX1_speaker_0 : decode cX1_speaker 0 = .ok (.aload_n 0, 1) := by decide +kernel
theorem dX1_speaker_1 : decode cX1_speaker 1 = .ok (.getfield 12, 3) := by decide +kernel
theorem dX1_speaker_4 : decode cX1_speaker 4 = .ok (.getfield 67, 3) := by decide +kernel
theorem dX1_speaker_7 : decode cX1_speaker 7 = .ok (.ireturn, 1) := by decide +kernel
theorem dX1_secondsToSpeak_0 : decode cX1_secondsToSpeak 0 = .ok (.aload_n 0, 1) := by decide +kernel
theorem dX1_secondsToSpeak_1 : decode cX1_secondsToSpeak 1 = .ok (.getfield 12, 3) := by decide +kernel
theorem dX1_secondsToSpeak_4 : decode cX1_secondsToSpeak 4 = .ok (.getfield 70, 3) := by decide +kernel
theorem dX1_secondsToSpeak_7 : decode cX1_secondsToSpeak 7 = .ok (.ireturn, 1) := by decide +kernel
theorem dX1_pause_0 : decode cX1_pause 0 = .ok (.aload_n 0, 1) := by decide +kernel
theorem dX1_pause_1 : decode cX1_pause 1 = .ok (.getfield 12, 3) := by decide +kernel
theorem dX1_pause_4 : decode cX1_pause 4 = .ok (.getfield 73, 3) := by decide +kernel
theorem dX1_pause_7 : decode cX1_pause 7 = .ok (.ireturn, 1) := by decide +kernel
set_option maxRecDepth 20000 in
theorem ggX1_spokenBy_X1_requireGuest : GoodIn wsX1_spokenBy wsX1_requireGuest := goodIn_ca (goodIn_r _ [7, 8, 9, 1, 10, 11, 12, 13, 14, 15, 16, 17, 18, 19, 20, 21, 22, 23, 24, 25, 26, 27, 28, 29] (by decide +kernel) (by decide +kernel)) (goodIn_sub (fun _ h => List.mem_cons_of_mem _ (List.mem_append_right _ h)) (by decide +kernel))
set_option maxRecDepth 20000 in
theorem gX1_spokenBy_X1_requireGuest : GoodIn wsX1_spokenBy (wsV RX1 35 RX1 yX1_requireGuest wsX1_requireGuest) := goodIn_app (goodIn_of _ (by decide +kernel)) ggX1_spokenBy_X1_requireGuest
theorem dX1_spokenBy_0 : decode cX1_spokenBy 0 = .ok (.aload_n 0, 1) := by decide +kernel
theorem dX1_spokenBy_1 : decode cX1_spokenBy 1 = .ok (.iload_n 1, 1) := by decide +kernel
theorem dX1_spokenBy_2 : decode cX1_spokenBy 2 = .ok (.invokevirtual 35, 3) := by decide +kernel
theorem dX1_spokenBy_5 : decode cX1_spokenBy 5 = .ok (.aload_n 0, 1) := by decide +kernel
theorem dX1_spokenBy_6 : decode cX1_spokenBy 6 = .ok (.getfield 12, 3) := by decide +kernel
theorem dX1_spokenBy_9 : decode cX1_spokenBy 9 = .ok (.getfield 76, 3) := by decide +kernel
theorem dX1_spokenBy_12 : decode cX1_spokenBy 12 = .ok (.iload_n 1, 1) := by decide +kernel
theorem dX1_spokenBy_13 : decode cX1_spokenBy 13 = .ok (.iaload, 1) := by decide +kernel
theorem dX1_spokenBy_14 : decode cX1_spokenBy 14 = .ok (.ireturn, 1) := by decide +kernel
set_option maxRecDepth 20000 in
theorem ggX1_interruptionsBy_X1_requireGuest : GoodIn wsX1_interruptionsBy wsX1_requireGuest := goodIn_ca (goodIn_r _ [7, 8, 9, 1, 10, 11, 12, 13, 14, 15, 16, 17, 18, 19, 20, 21, 22, 23, 24, 25, 26, 27, 28, 29] (by decide +kernel) (by decide +kernel)) (goodIn_sub (fun _ h => List.mem_cons_of_mem _ (List.mem_append_right _ h)) (by decide +kernel))
set_option maxRecDepth 20000 in
theorem gX1_interruptionsBy_X1_requireGuest : GoodIn wsX1_interruptionsBy (wsV RX1 35 RX1 yX1_requireGuest wsX1_requireGuest) := goodIn_app (goodIn_of _ (by decide +kernel)) ggX1_interruptionsBy_X1_requireGuest
theorem dX1_interruptionsBy_0 : decode cX1_interruptionsBy 0 = .ok (.aload_n 0, 1) := by decide +kernel
theorem dX1_interruptionsBy_1 : decode cX1_interruptionsBy 1 = .ok (.iload_n 1, 1) := by decide +kernel
theorem dX1_interruptionsBy_2 : decode cX1_interruptionsBy 2 = .ok (.invokevirtual 35, 3) := by decide +kernel
theorem dX1_interruptionsBy_5 : decode cX1_interruptionsBy 5 = .ok (.aload_n 0, 1) := by decide +kernel
theorem dX1_interruptionsBy_6 : decode cX1_interruptionsBy 6 = .ok (.getfield 12, 3) := by decide +kernel
theorem dX1_interruptionsBy_9 : decode cX1_interruptionsBy 9 = .ok (.getfield 80, 3) := by decide +kernel
theorem dX1_interruptionsBy_12 : decode cX1_interruptionsBy 12 = .ok (.iload_n 1, 1) := by decide +kernel
theorem dX1_interruptionsBy_13 : decode cX1_interruptionsBy 13 = .ok (.iaload, 1) := by decide +kernel
theorem dX1_interruptionsBy_14 : decode cX1_interruptionsBy 14 = .ok (.ireturn, 1) := by decide +kernel
set_option maxRecDepth 20000 in
theorem ggX1_coughsOf_X1_requireGuest : GoodIn wsX1_coughsOf wsX1_requireGuest := goodIn_ca (goodIn_r _ [7, 8, 9, 1, 10, 11, 12, 13, 14, 15, 16, 17, 18, 19, 20, 21, 22, 23, 24, 25, 26, 27, 28, 29] (by decide +kernel) (by decide +kernel)) (goodIn_sub (fun _ h => List.mem_cons_of_mem _ (List.mem_append_right _ h)) (by decide +kernel))
set_option maxRecDepth 20000 in
theorem gX1_coughsOf_X1_requireGuest : GoodIn wsX1_coughsOf (wsV RX1 35 RX1 yX1_requireGuest wsX1_requireGuest) := goodIn_app (goodIn_of _ (by decide +kernel)) ggX1_coughsOf_X1_requireGuest
theorem dX1_coughsOf_0 : decode cX1_coughsOf 0 = .ok (.aload_n 0, 1) := by decide +kernel
theorem dX1_coughsOf_1 : decode cX1_coughsOf 1 = .ok (.iload_n 1, 1) := by decide +kernel
theorem dX1_coughsOf_2 : decode cX1_coughsOf 2 = .ok (.invokevirtual 35, 3) := by decide +kernel
theorem dX1_coughsOf_5 : decode cX1_coughsOf 5 = .ok (.aload_n 0, 1) := by decide +kernel
theorem dX1_coughsOf_6 : decode cX1_coughsOf 6 = .ok (.getfield 12, 3) := by decide +kernel
theorem dX1_coughsOf_9 : decode cX1_coughsOf 9 = .ok (.getfield 83, 3) := by decide +kernel
theorem dX1_coughsOf_12 : decode cX1_coughsOf 12 = .ok (.iload_n 1, 1) := by decide +kernel
theorem dX1_coughsOf_13 : decode cX1_coughsOf 13 = .ok (.iaload, 1) := by decide +kernel
theorem dX1_coughsOf_14 : decode cX1_coughsOf 14 = .ok (.ireturn, 1) := by decide +kernel
set_option maxRecDepth 20000 in
theorem ggX1_unsaidBy_X1_requireGuest : GoodIn wsX1_unsaidBy wsX1_requireGuest := goodIn_ca (goodIn_r _ [7, 8, 9, 1, 10, 11, 12, 13, 14, 15, 16, 17, 18, 19, 20, 21, 22, 23, 24, 25, 26, 27, 28, 29] (by decide +kernel) (by decide +kernel)) (goodIn_sub (fun _ h => List.mem_cons_of_mem _ (List.mem_append_right _ h)) (by decide +kernel))
set_option maxRecDepth 20000 in
theorem gX1_unsaidBy_X1_requireGuest : GoodIn wsX1_unsaidBy (wsV RX1 35 RX1 yX1_requireGuest wsX1_requireGuest) := goodIn_app (goodIn_of _ (by decide +kernel)) ggX1_unsaidBy_X1_requireGuest
theorem dX1_unsaidBy_0 : decode cX1_unsaidBy 0 = .ok (.aload_n 0, 1) := by decide +kernel
theorem dX1_unsaidBy_1 : decode cX1_unsaidBy 1 = .ok (.iload_n 1, 1) := by decide +kernel
theorem dX1_unsaidBy_2 : decode cX1_unsaidBy 2 = .ok (.invokevirtual 35, 3) := by decide +kernel
theorem dX1_unsaidBy_5 : decode cX1_unsaidBy 5 = .ok (.aload_n 0, 1) := by decide +kernel
theorem dX1_unsaidBy_6 : decode cX1_unsaidBy 6 = .ok (.getfield 12, 3) := by decide +kernel
theorem dX1_unsaidBy_9 : decode cX1_unsaidBy 9 = .ok (.getfield 86, 3) := by decide +kernel
theorem dX1_unsaidBy_12 : decode cX1_unsaidBy 12 = .ok (.iload_n 1, 1) := by decide +kernel
theorem dX1_unsaidBy_13 : decode cX1_unsaidBy 13 = .ok (.iaload, 1) := by decide +kernel
theorem dX1_unsaidBy_14 : decode cX1_unsaidBy 14 = .ok (.ireturn, 1) := by decide +kernel
set_option maxRecDepth 20000 in
theorem ggX1_isUnderWay_X1_requireGuest : GoodIn wsX1_isUnderWay wsX1_requireGuest := goodIn_ca (goodIn_r _ [6, 7, 8, 1, 9, 19, 20, 21, 22, 23, 24, 25, 26, 27, 28, 29, 30, 31, 32, 33, 34, 35, 36, 37] (by decide +kernel) (by decide +kernel)) (goodIn_sub (fun _ h => List.mem_cons_of_mem _ (List.mem_append_right _ h)) (by decide +kernel))
set_option maxRecDepth 20000 in
theorem gX1_isUnderWay_X1_requireGuest : GoodIn wsX1_isUnderWay (wsV RX1 35 RX1 yX1_requireGuest wsX1_requireGuest) := goodIn_app (goodIn_of _ (by decide +kernel)) ggX1_isUnderWay_X1_requireGuest
set_option maxRecDepth 20000 in
theorem ggX1_isUnderWay_X1_pairOf : GoodIn wsX1_isUnderWay wsX1_pairOf := goodIn_r _ [12] (by decide +kernel) (by decide +kernel)
set_option maxRecDepth 20000 in
theorem gX1_isUnderWay_X1_pairOf : GoodIn wsX1_isUnderWay (va_wsS RX1 89 yX1_pairOf wsX1_pairOf) := goodIn_app (goodIn_of _ (by decide +kernel)) ggX1_isUnderWay_X1_pairOf
set_option maxRecDepth 20000 in
theorem ggX1_isUnderWay_X0_isOnItsWay : GoodIn wsX1_isUnderWay wsX0_isOnItsWay := goodIn_r _ [17, 18, 21, 22, 23, 24, 25, 26, 27, 28, 29, 30, 31, 32, 33, 34, 35, 36, 37] (by decide +kernel) (by decide +kernel)
set_option maxRecDepth 20000 in
theorem gX1_isUnderWay_X0_isOnItsWay : GoodIn wsX1_isUnderWay (wsV RX1 92 RX0 yX0_isOnItsWay wsX0_isOnItsWay) := goodIn_app (goodIn_of _ (by decide +kernel)) ggX1_isUnderWay_X0_isOnItsWay
theorem dX1_isUnderWay_0 : decode cX1_isUnderWay 0 = .ok (.aload_n 0, 1) := by decide +kernel
theorem dX1_isUnderWay_1 : decode cX1_isUnderWay 1 = .ok (.iload_n 1, 1) := by decide +kernel
theorem dX1_isUnderWay_2 : decode cX1_isUnderWay 2 = .ok (.invokevirtual 35, 3) := by decide +kernel
theorem dX1_isUnderWay_5 : decode cX1_isUnderWay 5 = .ok (.aload_n 0, 1) := by decide +kernel
theorem dX1_isUnderWay_6 : decode cX1_isUnderWay 6 = .ok (.iload_n 2, 1) := by decide +kernel
theorem dX1_isUnderWay_7 : decode cX1_isUnderWay 7 = .ok (.invokevirtual 35, 3) := by decide +kernel
theorem dX1_isUnderWay_10 : decode cX1_isUnderWay 10 = .ok (.aload_n 0, 1) := by decide +kernel
theorem dX1_isUnderWay_11 : decode cX1_isUnderWay 11 = .ok (.getfield 12, 3) := by decide +kernel
theorem dX1_isUnderWay_14 : decode cX1_isUnderWay 14 = .ok (.iload_n 1, 1) := by decide +kernel
theorem dX1_isUnderWay_15 : decode cX1_isUnderWay 15 = .ok (.iload_n 2, 1) := by decide +kernel
theorem dX1_isUnderWay_16 : decode cX1_isUnderWay 16 = .ok (.invokestatic 89, 3) := by decide +kernel
theorem dX1_isUnderWay_19 : decode cX1_isUnderWay 19 = .ok (.invokevirtual 92, 3) := by decide +kernel
theorem dX1_isUnderWay_22 : decode cX1_isUnderWay 22 = .ok (.ireturn, 1) := by decide +kernel
set_option maxRecDepth 20000 in
theorem ggX1_secondsToGo_X1_requireGuest : GoodIn wsX1_secondsToGo wsX1_requireGuest := goodIn_ca (goodIn_r _ [6, 7, 8, 1, 9, 23, 24, 25, 26, 27, 28, 29, 30, 31, 32, 33, 34, 35, 36, 37, 38, 39, 40, 41] (by decide +kernel) (by decide +kernel)) (goodIn_sub (fun _ h => List.mem_cons_of_mem _ (List.mem_append_right _ h)) (by decide +kernel))
set_option maxRecDepth 20000 in
theorem gX1_secondsToGo_X1_requireGuest : GoodIn wsX1_secondsToGo (wsV RX1 35 RX1 yX1_requireGuest wsX1_requireGuest) := goodIn_app (goodIn_of _ (by decide +kernel)) ggX1_secondsToGo_X1_requireGuest
set_option maxRecDepth 20000 in
theorem ggX1_secondsToGo_X1_pairOf : GoodIn wsX1_secondsToGo wsX1_pairOf := goodIn_r _ [12] (by decide +kernel) (by decide +kernel)
set_option maxRecDepth 20000 in
theorem gX1_secondsToGo_X1_pairOf : GoodIn wsX1_secondsToGo (va_wsS RX1 89 yX1_pairOf wsX1_pairOf) := goodIn_app (goodIn_of _ (by decide +kernel)) ggX1_secondsToGo_X1_pairOf
set_option maxRecDepth 20000 in
theorem ggX1_secondsToGo_X0_timeToGo : GoodIn wsX1_secondsToGo wsX0_timeToGo := goodIn_r _ [17, 18, 19, 20, 21, 16, 22, 25, 26, 27, 28, 29, 30, 31, 32, 33, 34, 35, 36, 37, 38, 39, 40, 41] (by decide +kernel) (by decide +kernel)
set_option maxRecDepth 20000 in
theorem gX1_secondsToGo_X0_timeToGo : GoodIn wsX1_secondsToGo (wsV RX1 96 RX0 yX0_timeToGo wsX0_timeToGo) := goodIn_app (goodIn_of _ (by decide +kernel)) ggX1_secondsToGo_X0_timeToGo
theorem dX1_secondsToGo_0 : decode cX1_secondsToGo 0 = .ok (.aload_n 0, 1) := by decide +kernel
theorem dX1_secondsToGo_1 : decode cX1_secondsToGo 1 = .ok (.iload_n 1, 1) := by decide +kernel
theorem dX1_secondsToGo_2 : decode cX1_secondsToGo 2 = .ok (.invokevirtual 35, 3) := by decide +kernel
theorem dX1_secondsToGo_5 : decode cX1_secondsToGo 5 = .ok (.aload_n 0, 1) := by decide +kernel
theorem dX1_secondsToGo_6 : decode cX1_secondsToGo 6 = .ok (.iload_n 2, 1) := by decide +kernel
theorem dX1_secondsToGo_7 : decode cX1_secondsToGo 7 = .ok (.invokevirtual 35, 3) := by decide +kernel
theorem dX1_secondsToGo_10 : decode cX1_secondsToGo 10 = .ok (.aload_n 0, 1) := by decide +kernel
theorem dX1_secondsToGo_11 : decode cX1_secondsToGo 11 = .ok (.getfield 12, 3) := by decide +kernel
theorem dX1_secondsToGo_14 : decode cX1_secondsToGo 14 = .ok (.iload_n 1, 1) := by decide +kernel
theorem dX1_secondsToGo_15 : decode cX1_secondsToGo 15 = .ok (.iload_n 2, 1) := by decide +kernel
theorem dX1_secondsToGo_16 : decode cX1_secondsToGo 16 = .ok (.invokestatic 89, 3) := by decide +kernel
theorem dX1_secondsToGo_19 : decode cX1_secondsToGo 19 = .ok (.invokevirtual 96, 3) := by decide +kernel
theorem dX1_secondsToGo_22 : decode cX1_secondsToGo 22 = .ok (.ireturn, 1) := by decide +kernel
set_option maxRecDepth 20000 in
theorem ggX1_caughtBy_X1_requireGuest : GoodIn wsX1_caughtBy wsX1_requireGuest := goodIn_ca (goodIn_r _ [7, 8, 9, 1, 10, 14, 15, 16, 17, 18, 19, 20, 21, 22, 23, 24, 25, 26, 27, 28, 29, 30, 31, 32] (by decide +kernel) (by decide +kernel)) (goodIn_sub (fun _ h => List.mem_cons_of_mem _ (List.mem_append_right _ h)) (by decide +kernel))
set_option maxRecDepth 20000 in
theorem gX1_caughtBy_X1_requireGuest : GoodIn wsX1_caughtBy (wsV RX1 35 RX1 yX1_requireGuest wsX1_requireGuest) := goodIn_app (goodIn_of _ (by decide +kernel)) ggX1_caughtBy_X1_requireGuest
set_option maxRecDepth 20000 in
theorem ggX1_caughtBy_X1_pairOf : GoodIn wsX1_caughtBy wsX1_pairOf := goodIn_r _ [13] (by decide +kernel) (by decide +kernel)
set_option maxRecDepth 20000 in
theorem gX1_caughtBy_X1_pairOf : GoodIn wsX1_caughtBy (va_wsS RX1 89 yX1_pairOf wsX1_pairOf) := goodIn_app (goodIn_of _ (by decide +kernel)) ggX1_caughtBy_X1_pairOf
theorem dX1_caughtBy_0 : decode cX1_caughtBy 0 = .ok (.aload_n 0, 1) := by decide +kernel
theorem dX1_caughtBy_1 : decode cX1_caughtBy 1 = .ok (.iload_n 1, 1) := by decide +kernel
theorem dX1_caughtBy_2 : decode cX1_caughtBy 2 = .ok (.invokevirtual 35, 3) := by decide +kernel
theorem dX1_caughtBy_5 : decode cX1_caughtBy 5 = .ok (.aload_n 0, 1) := by decide +kernel
theorem dX1_caughtBy_6 : decode cX1_caughtBy 6 = .ok (.iload_n 2, 1) := by decide +kernel
theorem dX1_caughtBy_7 : decode cX1_caughtBy 7 = .ok (.invokevirtual 35, 3) := by decide +kernel
theorem dX1_caughtBy_10 : decode cX1_caughtBy 10 = .ok (.aload_n 0, 1) := by decide +kernel
theorem dX1_caughtBy_11 : decode cX1_caughtBy 11 = .ok (.getfield 12, 3) := by decide +kernel
theorem dX1_caughtBy_14 : decode cX1_caughtBy 14 = .ok (.getfield 100, 3) := by decide +kernel
theorem dX1_caughtBy_17 : decode cX1_caughtBy 17 = .ok (.iload_n 1, 1) := by decide +kernel
theorem dX1_caughtBy_18 : decode cX1_caughtBy 18 = .ok (.iload_n 2, 1) := by decide +kernel
theorem dX1_caughtBy_19 : decode cX1_caughtBy 19 = .ok (.invokestatic 89, 3) := by decide +kernel
theorem dX1_caughtBy_22 : decode cX1_caughtBy 22 = .ok (.iaload, 1) := by decide +kernel
theorem dX1_caughtBy_23 : decode cX1_caughtBy 23 = .ok (.ireturn, 1) := by decide +kernel
theorem dX1_unsaidInPauses_0 : decode cX1_unsaidInPauses 0 = .ok (.aload_n 0, 1) := by decide +kernel
theorem dX1_unsaidInPauses_1 : decode cX1_unsaidInPauses 1 = .ok (.getfield 12, 3) := by decide +kernel
theorem dX1_unsaidInPauses_4 : decode cX1_unsaidInPauses 4 = .ok (.getfield 103, 3) := by decide +kernel
theorem dX1_unsaidInPauses_7 : decode cX1_unsaidInPauses 7 = .ok (.ireturn, 1) := by decide +kernel
set_option maxRecDepth 20000 in
theorem ggX1_allUnsaid_X0_sumUnsaid : GoodIn wsX1_allUnsaid wsX0_sumUnsaid := goodIn_r _ [6, 7, 8, 9, 10, 5, 11, 12, 13, 16, 17, 18, 19, 20, 21, 22, 23, 24, 25, 26, 27, 28, 29, 30, 31, 32] (by decide +kernel) (by decide +kernel)
set_option maxRecDepth 20000 in
theorem gX1_allUnsaid_X0_sumUnsaid : GoodIn wsX1_allUnsaid (wsV RX1 52 RX0 yX0_sumUnsaid wsX0_sumUnsaid) := goodIn_app (goodIn_of _ (by decide +kernel)) ggX1_allUnsaid_X0_sumUnsaid
theorem dX1_allUnsaid_0 : decode cX1_allUnsaid 0 = .ok (.aload_n 0, 1) := by decide +kernel
theorem dX1_allUnsaid_1 : decode cX1_allUnsaid 1 = .ok (.getfield 12, 3) := by decide +kernel
theorem dX1_allUnsaid_4 : decode cX1_allUnsaid 4 = .ok (.invokevirtual 52, 3) := by decide +kernel
theorem dX1_allUnsaid_7 : decode cX1_allUnsaid 7 = .ok (.ireturn, 1) := by decide +kernel
theorem dX1_glancesUnderWay_0 : decode cX1_glancesUnderWay 0 = .ok (.aload_n 0, 1) := by decide +kernel
theorem dX1_glancesUnderWay_1 : decode cX1_glancesUnderWay 1 = .ok (.getfield 12, 3) := by decide +kernel
theorem dX1_glancesUnderWay_4 : decode cX1_glancesUnderWay 4 = .ok (.getfield 106, 3) := by decide +kernel
theorem dX1_glancesUnderWay_7 : decode cX1_glancesUnderWay 7 = .ok (.ireturn, 1) := by decide +kernel
theorem dX1_meetings_0 : decode cX1_meetings 0 = .ok (.aload_n 0, 1) := by decide +kernel
theorem dX1_meetings_1 : decode cX1_meetings 1 = .ok (.getfield 12, 3) := by decide +kernel
theorem dX1_meetings_4 : decode cX1_meetings 4 = .ok (.getfield 109, 3) := by decide +kernel
theorem dX1_meetings_7 : decode cX1_meetings 7 = .ok (.ireturn, 1) := by decide +kernel
theorem dX1_lostGlances_0 : decode cX1_lostGlances 0 = .ok (.aload_n 0, 1) := by decide +kernel
theorem dX1_lostGlances_1 : decode cX1_lostGlances 1 = .ok (.getfield 12, 3) := by decide +kernel
theorem dX1_lostGlances_4 : decode cX1_lostGlances 4 = .ok (.getfield 112, 3) := by decide +kernel
theorem dX1_lostGlances_7 : decode cX1_lostGlances 7 = .ok (.ireturn, 1) := by decide +kernel
theorem dX1_quietest_0 : decode cX1_quietest 0 = .ok (.iconst 0, 1) := by decide +kernel
theorem dX1_quietest_1 : decode cX1_quietest 1 = .ok (.istore_n 1, 1) := by decide +kernel
theorem dX1_quietest_2 : decode cX1_quietest 2 = .ok (.iconst 1, 1) := by decide +kernel
theorem dX1_quietest_3 : decode cX1_quietest 3 = .ok (.istore_n 2, 1) := by decide +kernel
theorem dX1_quietest_4 : decode cX1_quietest 4 = .ok (.iload_n 2, 1) := by decide +kernel
theorem dX1_quietest_5 : decode cX1_quietest 5 = .ok (.aload_n 0, 1) := by decide +kernel
theorem dX1_quietest_6 : decode cX1_quietest 6 = .ok (.getfield 12, 3) := by decide +kernel
theorem dX1_quietest_9 : decode cX1_quietest 9 = .ok (.getfield 58, 3) := by decide +kernel
theorem dX1_quietest_12 : decode cX1_quietest 12 = .ok (.if_icmp .ge 32, 3) := by decide +kernel
theorem dX1_quietest_15 : decode cX1_quietest 15 = .ok (.aload_n 0, 1) := by decide +kernel
theorem dX1_quietest_16 : decode cX1_quietest 16 = .ok (.getfield 12, 3) := by decide +kernel
theorem dX1_quietest_19 : decode cX1_quietest 19 = .ok (.getfield 86, 3) := by decide +kernel
theorem dX1_quietest_22 : decode cX1_quietest 22 = .ok (.iload_n 2, 1) := by decide +kernel
theorem dX1_quietest_23 : decode cX1_quietest 23 = .ok (.iaload, 1) := by decide +kernel
theorem dX1_quietest_24 : decode cX1_quietest 24 = .ok (.aload_n 0, 1) := by decide +kernel
theorem dX1_quietest_25 : decode cX1_quietest 25 = .ok (.getfield 12, 3) := by decide +kernel
theorem dX1_quietest_28 : decode cX1_quietest 28 = .ok (.getfield 86, 3) := by decide +kernel
theorem dX1_quietest_31 : decode cX1_quietest 31 = .ok (.iload_n 1, 1) := by decide +kernel
theorem dX1_quietest_32 : decode cX1_quietest 32 = .ok (.iaload, 1) := by decide +kernel
theorem dX1_quietest_33 : decode cX1_quietest 33 = .ok (.if_icmp .le 5, 3) := by decide +kernel
theorem dX1_quietest_36 : decode cX1_quietest 36 = .ok (.iload_n 2, 1) := by decide +kernel
theorem dX1_quietest_37 : decode cX1_quietest 37 = .ok (.istore_n 1, 1) := by decide +kernel
theorem dX1_quietest_38 : decode cX1_quietest 38 = .ok (.iinc 2 1, 3) := by decide +kernel
theorem dX1_quietest_41 : decode cX1_quietest 41 = .ok (.goto (-37), 3) := by decide +kernel
theorem dX1_quietest_44 : decode cX1_quietest 44 = .ok (.iload_n 1, 1) := by decide +kernel
theorem dX1_quietest_45 : decode cX1_quietest 45 = .ok (.ireturn, 1) := by decide +kernel
set_option maxRecDepth 20000 in
theorem ggX1_rating_X0_rate : GoodIn wsX1_rating wsX0_rate := goodIn_r _ [6, 7, 8, 9, 10, 11, 12, 13, 14, 15, 16, 17, 5, 18, 19, 20, 21, 22, 23, 24, 27, 28, 29, 30, 31, 32, 33, 34, 35, 36, 37, 38, 39, 40, 41, 42, 43] (by decide +kernel) (by decide +kernel)
set_option maxRecDepth 20000 in
theorem gX1_rating_X0_rate : GoodIn wsX1_rating (wsV RX1 23 RX0 yX0_rate wsX0_rate) := goodIn_app (goodIn_of _ (by decide +kernel)) ggX1_rating_X0_rate
theorem dX1_rating_0 : decode cX1_rating 0 = .ok (.aload_n 0, 1) := by decide +kernel
theorem dX1_rating_1 : decode cX1_rating 1 = .ok (.getfield 12, 3) := by decide +kernel
theorem dX1_rating_4 : decode cX1_rating 4 = .ok (.invokevirtual 23, 3) := by decide +kernel
theorem dX1_rating_7 : decode cX1_rating 7 = .ok (.ireturn, 1) := by decide +kernel
set_option maxRecDepth 20000 in
theorem ggX1_meanUnsaid_X0_sumUnsaidByGuests : GoodIn wsX1_meanUnsaid wsX0_sumUnsaidByGuests := goodIn_r _ [7, 8, 9, 12, 13, 14, 15, 16, 17, 18, 19, 20, 21, 22, 23, 24, 25, 26, 27, 28] (by decide +kernel) (by decide +kernel)
set_option maxRecDepth 20000 in
theorem gX1_meanUnsaid_X0_sumUnsaidByGuests : GoodIn wsX1_meanUnsaid (wsV RX1 125 RX0 yX0_sumUnsaidByGuests wsX0_sumUnsaidByGuests) := goodIn_app (goodIn_of _ (by decide +kernel)) ggX1_meanUnsaid_X0_sumUnsaidByGuests
theorem dX1_meanUnsaid_0 : decode cX1_meanUnsaid 0 = .ok (.aload_n 0, 1) := by decide +kernel
theorem dX1_meanUnsaid_1 : decode cX1_meanUnsaid 1 = .ok (.getfield 12, 3) := by decide +kernel
theorem dX1_meanUnsaid_4 : decode cX1_meanUnsaid 4 = .ok (.getfield 58, 3) := by decide +kernel
theorem dX1_meanUnsaid_7 : decode cX1_meanUnsaid 7 = .ok (.ifCond .le 23, 3) := by decide +kernel
theorem dX1_meanUnsaid_10 : decode cX1_meanUnsaid 10 = .ok (.aload_n 0, 1) := by decide +kernel
theorem dX1_meanUnsaid_11 : decode cX1_meanUnsaid 11 = .ok (.getfield 12, 3) := by decide +kernel
theorem dX1_meanUnsaid_14 : decode cX1_meanUnsaid 14 = .ok (.invokevirtual 125, 3) := by decide +kernel
theorem dX1_meanUnsaid_17 : decode cX1_meanUnsaid 17 = .ok (.i2d, 1) := by decide +kernel
theorem dX1_meanUnsaid_18 : decode cX1_meanUnsaid 18 = .ok (.aload_n 0, 1) := by decide +kernel
theorem dX1_meanUnsaid_19 : decode cX1_meanUnsaid 19 = .ok (.getfield 12, 3) := by decide +kernel
theorem dX1_meanUnsaid_22 : decode cX1_meanUnsaid 22 = .ok (.getfield 58, 3) := by decide +kernel
theorem dX1_meanUnsaid_25 : decode cX1_meanUnsaid 25 = .ok (.i2d, 1) := by decide +kernel
theorem dX1_meanUnsaid_26 : decode cX1_meanUnsaid 26 = .ok (.ddiv, 1) := by decide +kernel
theorem dX1_meanUnsaid_27 : decode cX1_meanUnsaid 27 = .ok (.goto 4, 3) := by decide +kernel
theorem dX1_meanUnsaid_30 : decode cX1_meanUnsaid 30 = .ok (.dconst 0, 1) := by decide +kernel
theorem dX1_meanUnsaid_31 : decode cX1_meanUnsaid 31 = .ok (.dreturn, 1) := by decide +kernel
theorem dX1_requireGuest_0 : decode cX1_requireGuest 0 = .ok (.iload_n 1, 1) := by decide +kernel
theorem dX1_requireGuest_1 : decode cX1_requireGuest 1 = .ok (.ifCond .lt 14, 3) := by decide +kernel
theorem dX1_requireGuest_4 : decode cX1_requireGuest 4 = .ok (.iload_n 1, 1) := by decide +kernel
theorem dX1_requireGuest_5 : decode cX1_requireGuest 5 = .ok (.aload_n 0, 1) := by decide +kernel
theorem dX1_requireGuest_6 : decode cX1_requireGuest 6 = .ok (.getfield 12, 3) := by decide +kernel
theorem dX1_requireGuest_9 : decode cX1_requireGuest 9 = .ok (.getfield 58, 3) := by decide +kernel
theorem dX1_requireGuest_12 : decode cX1_requireGuest 12 = .ok (.if_icmp .lt 13, 3) := by decide +kernel
theorem dX1_requireGuest_15 : decode cX1_requireGuest 15 = .ok (.new 147, 3) := by decide +kernel
theorem dX1_requireGuest_18 : decode cX1_requireGuest 18 = .ok (.dup, 1) := by decide +kernel
theorem dX1_requireGuest_19 : decode cX1_requireGuest 19 = .ok (.ldc 149, 2) := by decide +kernel
theorem dX1_requireGuest_21 : decode cX1_requireGuest 21 = .ok (.invokespecial 151, 3) := by decide +kernel
theorem dX1_requireGuest_24 : decode cX1_requireGuest 24 = .ok (.athrow, 1) := by decide +kernel
theorem dX1_requireGuest_25 : decode cX1_requireGuest 25 = .ok (.return_, 1) := by decide +kernel
theorem dX1_requireWithin_0 : decode cX1_requireWithin 0 = .ok (.iload_n 0, 1) := by decide +kernel
theorem dX1_requireWithin_1 : decode cX1_requireWithin 1 = .ok (.iload_n 1, 1) := by decide +kernel
theorem dX1_requireWithin_2 : decode cX1_requireWithin 2 = .ok (.if_icmp .lt 8, 3) := by decide +kernel
theorem dX1_requireWithin_5 : decode cX1_requireWithin 5 = .ok (.iload_n 0, 1) := by decide +kernel
theorem dX1_requireWithin_6 : decode cX1_requireWithin 6 = .ok (.iload_n 2, 1) := by decide +kernel
theorem dX1_requireWithin_7 : decode cX1_requireWithin 7 = .ok (.if_icmp .le 13, 3) := by decide +kernel
theorem dX1_requireWithin_10 : decode cX1_requireWithin 10 = .ok (.new 154, 3) := by decide +kernel
theorem dX1_requireWithin_13 : decode cX1_requireWithin 13 = .ok (.dup, 1) := by decide +kernel
theorem dX1_requireWithin_14 : decode cX1_requireWithin 14 = .ok (.ldc 156, 2) := by decide +kernel
theorem dX1_requireWithin_16 : decode cX1_requireWithin 16 = .ok (.invokespecial 158, 3) := by decide +kernel
theorem dX1_requireWithin_19 : decode cX1_requireWithin 19 = .ok (.athrow, 1) := by decide +kernel
theorem dX1_requireWithin_20 : decode cX1_requireWithin 20 = .ok (.return_, 1) := by decide +kernel
set_option maxRecDepth 20000 in
theorem ggX1_requireFreeWay_X1_requireGuest : GoodIn wsX1_requireFreeWay wsX1_requireGuest := goodIn_ca (goodIn_r _ [10, 11, 12, 5, 13, 23, 24, 25, 26, 27, 28, 29, 30, 31, 32, 33, 34, 35, 36, 37, 38, 39, 40, 41] (by decide +kernel) (by decide +kernel)) (goodIn_sub (fun _ h => List.mem_cons_of_mem _ (List.mem_append_right _ h)) (by decide +kernel))
set_option maxRecDepth 20000 in
theorem gX1_requireFreeWay_X1_requireGuest : GoodIn wsX1_requireFreeWay (wsV RX1 35 RX1 yX1_requireGuest wsX1_requireGuest) := goodIn_app (goodIn_of _ (by decide +kernel)) ggX1_requireFreeWay_X1_requireGuest
set_option maxRecDepth 20000 in
theorem ggX1_requireFreeWay_X1_pairOf : GoodIn wsX1_requireFreeWay wsX1_pairOf := goodIn_r _ [16] (by decide +kernel) (by decide +kernel)
set_option maxRecDepth 20000 in
theorem gX1_requireFreeWay_X1_pairOf : GoodIn wsX1_requireFreeWay (va_wsS RX1 89 yX1_pairOf wsX1_pairOf) := goodIn_app (goodIn_of _ (by decide +kernel)) ggX1_requireFreeWay_X1_pairOf
set_option maxRecDepth 20000 in
theorem ggX1_requireFreeWay_X0_isOnItsWay : GoodIn wsX1_requireFreeWay wsX0_isOnItsWay := goodIn_r _ [21, 22, 25, 26, 27, 28, 29, 30, 31, 32, 33, 34, 35, 36, 37, 38, 39, 40, 41] (by decide +kernel) (by decide +kernel)
set_option maxRecDepth 20000 in
theorem gX1_requireFreeWay_X0_isOnItsWay : GoodIn wsX1_requireFreeWay (wsV RX1 92 RX0 yX0_isOnItsWay wsX0_isOnItsWay) := goodIn_app (goodIn_of _ (by decide +kernel)) ggX1_requireFreeWay_X0_isOnItsWay
theorem dX1_requireFreeWay_0 : decode cX1_requireFreeWay 0 = .ok (.aload_n 0, 1) := by decide +kernel
theorem dX1_requireFreeWay_1 : decode cX1_requireFreeWay 1 = .ok (.iload_n 1, 1) := by decide +kernel
theorem dX1_requireFreeWay_2 : decode cX1_requireFreeWay 2 = .ok (.invokevirtual 35, 3) := by decide +kernel
theorem dX1_requireFreeWay_5 : decode cX1_requireFreeWay 5 = .ok (.aload_n 0, 1) := by decide +kernel
theorem dX1_requireFreeWay_6 : decode cX1_requireFreeWay 6 = .ok (.iload_n 2, 1) := by decide +kernel
theorem dX1_requireFreeWay_7 : decode cX1_requireFreeWay 7 = .ok (.invokevirtual 35, 3) := by decide +kernel
theorem dX1_requireFreeWay_10 : decode cX1_requireFreeWay 10 = .ok (.iload_n 1, 1) := by decide +kernel
theorem dX1_requireFreeWay_11 : decode cX1_requireFreeWay 11 = .ok (.iload_n 2, 1) := by decide +kernel
theorem dX1_requireFreeWay_12 : decode cX1_requireFreeWay 12 = .ok (.if_icmp .ne 13, 3) := by decide +kernel
theorem dX1_requireFreeWay_15 : decode cX1_requireFreeWay 15 = .ok (.new 154, 3) := by decide +kernel
theorem dX1_requireFreeWay_18 : decode cX1_requireFreeWay 18 = .ok (.dup, 1) := by decide +kernel
theorem dX1_requireFreeWay_19 : decode cX1_requireFreeWay 19 = .ok (.ldc 159, 2) := by decide +kernel
theorem dX1_requireFreeWay_21 : decode cX1_requireFreeWay 21 = .ok (.invokespecial 158, 3) := by decide +kernel
theorem dX1_requireFreeWay_24 : decode cX1_requireFreeWay 24 = .ok (.athrow, 1) := by decide +kernel
theorem dX1_requireFreeWay_25 : decode cX1_requireFreeWay 25 = .ok (.aload_n 0, 1) := by decide +kernel
theorem dX1_requireFreeWay_26 : decode cX1_requireFreeWay 26 = .ok (.getfield 12, 3) := by decide +kernel
theorem dX1_requireFreeWay_29 : decode cX1_requireFreeWay 29 = .ok (.iload_n 1, 1) := by decide +kernel
theorem dX1_requireFreeWay_30 : decode cX1_requireFreeWay 30 = .ok (.iload_n 2, 1) := by decide +kernel
theorem dX1_requireFreeWay_31 : decode cX1_requireFreeWay 31 = .ok (.invokestatic 89, 3) := by decide +kernel
theorem dX1_requireFreeWay_34 : decode cX1_requireFreeWay 34 = .ok (.invokevirtual 92, 3) := by decide +kernel
theorem dX1_requireFreeWay_37 : decode cX1_requireFreeWay 37 = .ok (.ifCond .eq 13, 3) := by decide +kernel
theorem dX1_requireFreeWay_40 : decode cX1_requireFreeWay 40 = .ok (.new 161, 3) := by decide +kernel
theorem dX1_requireFreeWay_43 : decode cX1_requireFreeWay 43 = .ok (.dup, 1) := by decide +kernel
theorem dX1_requireFreeWay_44 : decode cX1_requireFreeWay 44 = .ok (.ldc 163, 2) := by decide +kernel
theorem dX1_requireFreeWay_46 : decode cX1_requireFreeWay 46 = .ok (.invokespecial 165, 3) := by decide +kernel
theorem dX1_requireFreeWay_49 : decode cX1_requireFreeWay 49 = .ok (.athrow, 1) := by decide +kernel
theorem dX1_requireFreeWay_50 : decode cX1_requireFreeWay 50 = .ok (.return_, 1) := by decide +kernel
theorem dX1_pairOf_0 : decode cX1_pairOf 0 = .ok (.iload_n 0, 1) := by decide +kernel
theorem dX1_pairOf_1 : decode cX1_pairOf 1 = .ok (.bipush 10, 2) := by decide +kernel
theorem dX1_pairOf_3 : decode cX1_pairOf 3 = .ok (.imul, 1) := by decide +kernel
theorem dX1_pairOf_4 : decode cX1_pairOf 4 = .ok (.iload_n 1, 1) := by decide +kernel
theorem dX1_pairOf_5 : decode cX1_pairOf 5 = .ok (.iadd, 1) := by decide +kernel
theorem dX1_pairOf_6 : decode cX1_pairOf 6 = .ok (.ireturn, 1) := by decide +kernel
