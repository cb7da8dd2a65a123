set_option maxRecDepth 20000 in
theorem ggX0_init_X0_begin : GoodIn wsX0_init wsX0_begin := goodIn_r _ [17, 18, 19, 20, 21, 22, 23, 24, 25, 26, 5, 6, 7, 8, 9, 10, 27, 28, 29, 30, 31, 32, 33, 34, 35, 36, 37, 38, 39, 40, 41, 42, 43, 44, 45, 46, 47] (by decide +kernel) (by decide +kernel)
set_option maxRecDepth 20000 in
theorem gX0_init_X0_begin : GoodIn wsX0_init (wsV RX0 37 RX0 yX0_begin wsX0_begin) := goodIn_app (goodIn_of _ (by decide +kernel)) ggX0_init_X0_begin
theorem dX0_init_0 : decode cX0_init 0 = .ok (.aload_n 0, 1) := by decide +kernel
theorem dX0_init_1 : decode cX0_init 1 = .ok (.invokespecial 3, 3) := by decide +kernel
theorem dX0_init_4 : decode cX0_init 4 = .ok (.aload_n 0, 1) := by decide +kernel
theorem dX0_init_5 : decode cX0_init 5 = .ok (.bipush 10, 2) := by decide +kernel
theorem dX0_init_7 : decode cX0_init 7 = .ok (.newarray .int, 2) := by decide +kernel
theorem dX0_init_9 : decode cX0_init 9 = .ok (.putfield 9, 3) := by decide +kernel
theorem dX0_init_12 : decode cX0_init 12 = .ok (.aload_n 0, 1) := by decide +kernel
theorem dX0_init_13 : decode cX0_init 13 = .ok (.bipush 10, 2) := by decide +kernel
theorem dX0_init_15 : decode cX0_init 15 = .ok (.newarray .int, 2) := by decide +kernel
theorem dX0_init_17 : decode cX0_init 17 = .ok (.putfield 15, 3) := by decide +kernel
theorem dX0_init_20 : decode cX0_init 20 = .ok (.aload_n 0, 1) := by decide +kernel
theorem dX0_init_21 : decode cX0_init 21 = .ok (.bipush 10, 2) := by decide +kernel
theorem dX0_init_23 : decode cX0_init 23 = .ok (.newarray .int, 2) := by decide +kernel
theorem dX0_init_25 : decode cX0_init 25 = .ok (.putfield 18, 3) := by decide +kernel
theorem dX0_init_28 : decode cX0_init 28 = .ok (.aload_n 0, 1) := by decide +kernel
theorem dX0_init_29 : decode cX0_init 29 = .ok (.bipush 10, 2) := by decide +kernel
theorem dX0_init_31 : decode cX0_init 31 = .ok (.newarray .int, 2) := by decide +kernel
theorem dX0_init_33 : decode cX0_init 33 = .ok (.putfield 21, 3) := by decide +kernel
theorem dX0_init_36 : decode cX0_init 36 = .ok (.aload_n 0, 1) := by decide +kernel
theorem dX0_init_37 : decode cX0_init 37 = .ok (.bipush 100, 2) := by decide +kernel
theorem dX0_init_39 : decode cX0_init 39 = .ok (.newarray .int, 2) := by decide +kernel
theorem dX0_init_41 : decode cX0_init 41 = .ok (.putfield 24, 3) := by decide +kernel
theorem dX0_init_44 : decode cX0_init 44 = .ok (.aload_n 0, 1) := by decide +kernel
theorem dX0_init_45 : decode cX0_init 45 = .ok (.bipush 100, 2) := by decide +kernel
theorem dX0_init_47 : decode cX0_init 47 = .ok (.newarray .int, 2) := by decide +kernel
theorem dX0_init_49 : decode cX0_init 49 = .ok (.putfield 27, 3) := by decide +kernel
theorem dX0_init_52 : decode cX0_init 52 = .ok (.aload_n 0, 1) := by decide +kernel
theorem dX0_init_53 : decode cX0_init 53 = .ok (.bipush 100, 2) := by decide +kernel
theorem dX0_init_55 : decode cX0_init 55 = .ok (.newarray .int, 2) := by decide +kernel
theorem dX0_init_57 : decode cX0_init 57 = .ok (.putfield 30, 3) := by decide +kernel
theorem dX0_init_60 : decode cX0_init 60 = .ok (.aload_n 0, 1) := by decide +kernel
theorem dX0_init_61 : decode cX0_init 61 = .ok (.iconst 5, 1) := by decide +kernel
theorem dX0_init_62 : decode cX0_init 62 = .ok (.putfield 33, 3) := by decide +kernel
theorem dX0_init_65 : decode cX0_init 65 = .ok (.aload_n 0, 1) := by decide +kernel
theorem dX0_init_66 : decode cX0_init 66 = .ok (.iconst 4, 1) := by decide +kernel
theorem dX0_init_67 : decode cX0_init 67 = .ok (.invokevirtual 37, 3) := by decide +kernel
theorem dX0_init_70 : decode cX0_init 70 = .ok (.return_, 1) := by decide +kernel
set_option maxRecDepth 20000 in
theorem ggX0_begin_J7_fill_53178 : GoodIn wsX0_begin wsJ7_fill_53178 := goodIn_r _ [19] (by decide +kernel) (by decide +kernel)
set_option maxRecDepth 20000 in
theorem gX0_begin_J7_fill_53178 : GoodIn wsX0_begin (va_wsS RX0 68 yJ7_fill_53178 wsJ7_fill_53178) := goodIn_app (goodIn_of _ (by decide +kernel)) ggX0_begin_J7_fill_53178
theorem dX0_begin_0 : decode cX0_begin 0 = .ok (.aload_n 0, 1) := by decide +kernel
theorem dX0_begin_1 : decode cX0_begin 1 = .ok (.iload_n 1, 1) := by decide +kernel
theorem dX0_begin_2 : decode cX0_begin 2 = .ok (.putfield 41, 3) := by decide +kernel
theorem dX0_begin_5 : decode cX0_begin 5 = .ok (.aload_n 0, 1) := by decide +kernel
theorem dX0_begin_6 : decode cX0_begin 6 = .ok (.iconst 0, 1) := by decide +kernel
theorem dX0_begin_7 : decode cX0_begin 7 = .ok (.putfield 44, 3) := by decide +kernel
theorem dX0_begin_10 : decode cX0_begin 10 = .ok (.aload_n 0, 1) := by decide +kernel
theorem dX0_begin_11 : decode cX0_begin 11 = .ok (.iconst (-1), 1) := by decide +kernel
theorem dX0_begin_12 : decode cX0_begin 12 = .ok (.putfield 47, 3) := by decide +kernel
theorem dX0_begin_15 : decode cX0_begin 15 = .ok (.aload_n 0, 1) := by decide +kernel
theorem dX0_begin_16 : decode cX0_begin 16 = .ok (.iconst 0, 1) := by decide +kernel
theorem dX0_begin_17 : decode cX0_begin 17 = .ok (.putfield 50, 3) := by decide +kernel
theorem dX0_begin_20 : decode cX0_begin 20 = .ok (.aload_n 0, 1) := by decide +kernel
theorem dX0_begin_21 : decode cX0_begin 21 = .ok (.iconst 0, 1) := by decide +kernel
theorem dX0_begin_22 : decode cX0_begin 22 = .ok (.putfield 53, 3) := by decide +kernel
theorem dX0_begin_25 : decode cX0_begin 25 = .ok (.aload_n 0, 1) := by decide +kernel
theorem dX0_begin_26 : decode cX0_begin 26 = .ok (.iconst 0, 1) := by decide +kernel
theorem dX0_begin_27 : decode cX0_begin 27 = .ok (.putfield 56, 3) := by decide +kernel
theorem dX0_begin_30 : decode cX0_begin 30 = .ok (.aload_n 0, 1) := by decide +kernel
theorem dX0_begin_31 : decode cX0_begin 31 = .ok (.iconst 0, 1) := by decide +kernel
theorem dX0_begin_32 : decode cX0_begin 32 = .ok (.putfield 59, 3) := by decide +kernel
theorem dX0_begin_35 : decode cX0_begin 35 = .ok (.aload_n 0, 1) := by decide +kernel
theorem dX0_begin_36 : decode cX0_begin 36 = .ok (.iconst 0, 1) := by decide +kernel
theorem dX0_begin_37 : decode cX0_begin 37 = .ok (.putfield 62, 3) := by decide +kernel
theorem dX0_begin_40 : decode cX0_begin 40 = .ok (.aload_n 0, 1) := by decide +kernel
theorem dX0_begin_41 : decode cX0_begin 41 = .ok (.iconst 0, 1) := by decide +kernel
theorem dX0_begin_42 : decode cX0_begin 42 = .ok (.putfield 65, 3) := by decide +kernel
theorem dX0_begin_45 : decode cX0_begin 45 = .ok (.aload_n 0, 1) := by decide +kernel
theorem dX0_begin_46 : decode cX0_begin 46 = .ok (.getfield 9, 3) := by decide +kernel
theorem dX0_begin_49 : decode cX0_begin 49 = .ok (.iconst 0, 1) := by decide +kernel
theorem dX0_begin_50 : decode cX0_begin 50 = .ok (.invokestatic 68, 3) := by decide +kernel
theorem dX0_begin_53 : decode cX0_begin 53 = .ok (.aload_n 0, 1) := by decide +kernel
theorem dX0_begin_54 : decode cX0_begin 54 = .ok (.getfield 15, 3) := by decide +kernel
theorem dX0_begin_57 : decode cX0_begin 57 = .ok (.iconst 0, 1) := by decide +kernel
theorem dX0_begin_58 : decode cX0_begin 58 = .ok (.invokestatic 68, 3) := by decide +kernel
theorem dX0_begin_61 : decode cX0_begin 61 = .ok (.aload_n 0, 1) := by decide +kernel
theorem dX0_begin_62 : decode cX0_begin 62 = .ok (.getfield 18, 3) := by decide +kernel
theorem dX0_begin_65 : decode cX0_begin 65 = .ok (.iconst 0, 1) := by decide +kernel
theorem dX0_begin_66 : decode cX0_begin 66 = .ok (.invokestatic 68, 3) := by decide +kernel
theorem dX0_begin_69 : decode cX0_begin 69 = .ok (.aload_n 0, 1) := by decide +kernel
theorem dX0_begin_70 : decode cX0_begin 70 = .ok (.getfield 21, 3) := by decide +kernel
theorem dX0_begin_73 : decode cX0_begin 73 = .ok (.iconst 0, 1) := by decide +kernel
theorem dX0_begin_74 : decode cX0_begin 74 = .ok (.invokestatic 68, 3) := by decide +kernel
theorem dX0_begin_77 : decode cX0_begin 77 = .ok (.aload_n 0, 1) := by decide +kernel
theorem dX0_begin_78 : decode cX0_begin 78 = .ok (.getfield 24, 3) := by decide +kernel
theorem dX0_begin_81 : decode cX0_begin 81 = .ok (.iconst (-1), 1) := by decide +kernel
theorem dX0_begin_82 : decode cX0_begin 82 = .ok (.invokestatic 68, 3) := by decide +kernel
theorem dX0_begin_85 : decode cX0_begin 85 = .ok (.aload_n 0, 1) := by decide +kernel
theorem dX0_begin_86 : decode cX0_begin 86 = .ok (.getfield 27, 3) := by decide +kernel
theorem dX0_begin_89 : decode cX0_begin 89 = .ok (.iconst 0, 1) := by decide +kernel
theorem dX0_begin_90 : decode cX0_begin 90 = .ok (.invokestatic 68, 3) := by decide +kernel
theorem dX0_begin_93 : decode cX0_begin 93 = .ok (.return_, 1) := by decide +kernel
theorem dX0_letSpeak_0 : decode cX0_letSpeak 0 = .ok (.aload_n 0, 1) := by decide +kernel
theorem dX0_letSpeak_1 : decode cX0_letSpeak 1 = .ok (.getfield 47, 3) := by decide +kernel
theorem dX0_letSpeak_4 : decode cX0_letSpeak 4 = .ok (.iload_n 1, 1) := by decide +kernel
theorem dX0_letSpeak_5 : decode cX0_letSpeak 5 = .ok (.if_icmp .ne 7, 3) := by decide +kernel
theorem dX0_letSpeak_8 : decode cX0_letSpeak 8 = .ok (.iconst (-1), 1) := by decide +kernel
theorem dX0_letSpeak_9 : decode cX0_letSpeak 9 = .ok (.goto 7, 3) := by decide +kernel
theorem dX0_letSpeak_12 : decode cX0_letSpeak 12 = .ok (.aload_n 0, 1) := by decide +kernel
theorem dX0_letSpeak_13 : decode cX0_letSpeak 13 = .ok (.getfield 47, 3) := by decide +kernel
theorem dX0_letSpeak_16 : decode cX0_letSpeak 16 = .ok (.istore_n 3, 1) := by decide +kernel
theorem dX0_letSpeak_17 : decode cX0_letSpeak 17 = .ok (.iload_n 3, 1) := by decide +kernel
theorem dX0_letSpeak_18 : decode cX0_letSpeak 18 = .ok (.iconst (-1), 1) := by decide +kernel
theorem dX0_letSpeak_19 : decode cX0_letSpeak 19 = .ok (.if_icmp .eq 13, 3) := by decide +kernel
theorem dX0_letSpeak_22 : decode cX0_letSpeak 22 = .ok (.aload_n 0, 1) := by decide +kernel
theorem dX0_letSpeak_23 : decode cX0_letSpeak 23 = .ok (.getfield 15, 3) := by decide +kernel
theorem dX0_letSpeak_26 : decode cX0_letSpeak 26 = .ok (.iload_n 1, 1) := by decide +kernel
theorem dX0_letSpeak_27 : decode cX0_letSpeak 27 = .ok (.dup2, 1) := by decide +kernel
theorem dX0_letSpeak_28 : decode cX0_letSpeak 28 = .ok (.iaload, 1) := by decide +kernel
theorem dX0_letSpeak_29 : decode cX0_letSpeak 29 = .ok (.iconst 1, 1) := by decide +kernel
theorem dX0_letSpeak_30 : decode cX0_letSpeak 30 = .ok (.iadd, 1) := by decide +kernel
theorem dX0_letSpeak_31 : decode cX0_letSpeak 31 = .ok (.iastore, 1) := by decide +kernel
theorem dX0_letSpeak_32 : decode cX0_letSpeak 32 = .ok (.aload_n 0, 1) := by decide +kernel
theorem dX0_letSpeak_33 : decode cX0_letSpeak 33 = .ok (.iload_n 1, 1) := by decide +kernel
theorem dX0_letSpeak_34 : decode cX0_letSpeak 34 = .ok (.putfield 47, 3) := by decide +kernel
theorem dX0_letSpeak_37 : decode cX0_letSpeak 37 = .ok (.aload_n 0, 1) := by decide +kernel
theorem dX0_letSpeak_38 : decode cX0_letSpeak 38 = .ok (.iload_n 2, 1) := by decide +kernel
theorem dX0_letSpeak_39 : decode cX0_letSpeak 39 = .ok (.putfield 50, 3) := by decide +kernel
theorem dX0_letSpeak_42 : decode cX0_letSpeak 42 = .ok (.iload_n 3, 1) := by decide +kernel
theorem dX0_letSpeak_43 : decode cX0_letSpeak 43 = .ok (.ireturn, 1) := by decide +kernel
set_option maxRecDepth 20000 in
theorem ggX0_letCough_X0_unsaidByCough : GoodIn wsX0_letCough wsX0_unsaidByCough := goodIn_r _ [7, 8, 9, 10, 11, 12, 13, 14, 15, 16, 17, 18, 19, 20, 21, 22, 23, 24, 25] (by decide +kernel) (by decide +kernel)
set_option maxRecDepth 20000 in
theorem gX0_letCough_X0_unsaidByCough : GoodIn wsX0_letCough (wsV RX0 80 RX0 yX0_unsaidByCough wsX0_unsaidByCough) := goodIn_app (goodIn_of _ (by decide +kernel)) ggX0_letCough_X0_unsaidByCough
theorem dX0_letCough_0 : decode cX0_letCough 0 = .ok (.aload_n 0, 1) := by decide +kernel
theorem dX0_letCough_1 : decode cX0_letCough 1 = .ok (.iload_n 1, 1) := by decide +kernel
theorem dX0_letCough_2 : decode cX0_letCough 2 = .ok (.iload_n 2, 1) := by decide +kernel
theorem dX0_letCough_3 : decode cX0_letCough 3 = .ok (.invokevirtual 80, 3) := by decide +kernel
theorem dX0_letCough_6 : decode cX0_letCough 6 = .ok (.istore_n 3, 1) := by decide +kernel
theorem dX0_letCough_7 : decode cX0_letCough 7 = .ok (.aload_n 0, 1) := by decide +kernel
theorem dX0_letCough_8 : decode cX0_letCough 8 = .ok (.getfield 18, 3) := by decide +kernel
theorem dX0_letCough_11 : decode cX0_letCough 11 = .ok (.iload_n 1, 1) := by decide +kernel
theorem dX0_letCough_12 : decode cX0_letCough 12 = .ok (.dup2, 1) := by decide +kernel
theorem dX0_letCough_13 : decode cX0_letCough 13 = .ok (.iaload, 1) := by decide +kernel
theorem dX0_letCough_14 : decode cX0_letCough 14 = .ok (.iconst 1, 1) := by decide +kernel
theorem dX0_letCough_15 : decode cX0_letCough 15 = .ok (.iadd, 1) := by decide +kernel
theorem dX0_letCough_16 : decode cX0_letCough 16 = .ok (.iastore, 1) := by decide +kernel
theorem dX0_letCough_17 : decode cX0_letCough 17 = .ok (.aload_n 0, 1) := by decide +kernel
theorem dX0_letCough_18 : decode cX0_letCough 18 = .ok (.getfield 21, 3) := by decide +kernel
theorem dX0_letCough_21 : decode cX0_letCough 21 = .ok (.iload_n 1, 1) := by decide +kernel
theorem dX0_letCough_22 : decode cX0_letCough 22 = .ok (.dup2, 1) := by decide +kernel
theorem dX0_letCough_23 : decode cX0_letCough 23 = .ok (.iaload, 1) := by decide +kernel
theorem dX0_letCough_24 : decode cX0_letCough 24 = .ok (.iload_n 3, 1) := by decide +kernel
theorem dX0_letCough_25 : decode cX0_letCough 25 = .ok (.iadd, 1) := by decide +kernel
theorem dX0_letCough_26 : decode cX0_letCough 26 = .ok (.iastore, 1) := by decide +kernel
theorem dX0_letCough_27 : decode cX0_letCough 27 = .ok (.iload_n 3, 1) := by decide +kernel
theorem dX0_letCough_28 : decode cX0_letCough 28 = .ok (.ireturn, 1) := by decide +kernel
theorem dX0_unsaidByCough_0 : decode cX0_unsaidByCough 0 = .ok (.aload_n 0, 1) := by decide +kernel
theorem dX0_unsaidByCough_1 : decode cX0_unsaidByCough 1 = .ok (.getfield 47, 3) := by decide +kernel
theorem dX0_unsaidByCough_4 : decode cX0_unsaidByCough 4 = .ok (.iconst (-1), 1) := by decide +kernel
theorem dX0_unsaidByCough_5 : decode cX0_unsaidByCough 5 = .ok (.if_icmp .ne 5, 3) := by decide +kernel
theorem dX0_unsaidByCough_8 : decode cX0_unsaidByCough 8 = .ok (.iload_n 2, 1) := by decide +kernel
theorem dX0_unsaidByCough_9 : decode cX0_unsaidByCough 9 = .ok (.ireturn, 1) := by decide +kernel
theorem dX0_unsaidByCough_10 : decode cX0_unsaidByCough 10 = .ok (.aload_n 0, 1) := by decide +kernel
theorem dX0_unsaidByCough_11 : decode cX0_unsaidByCough 11 = .ok (.getfield 47, 3) := by decide +kernel
theorem dX0_unsaidByCough_14 : decode cX0_unsaidByCough 14 = .ok (.iload_n 1, 1) := by decide +kernel
theorem dX0_unsaidByCough_15 : decode cX0_unsaidByCough 15 = .ok (.if_icmp .ne 7, 3) := by decide +kernel
theorem dX0_unsaidByCough_18 : decode cX0_unsaidByCough 18 = .ok (.iconst 0, 1) := by decide +kernel
theorem dX0_unsaidByCough_19 : decode cX0_unsaidByCough 19 = .ok (.goto 6, 3) := by decide +kernel
theorem dX0_unsaidByCough_22 : decode cX0_unsaidByCough 22 = .ok (.iload_n 2, 1) := by decide +kernel
theorem dX0_unsaidByCough_23 : decode cX0_unsaidByCough 23 = .ok (.iconst 2, 1) := by decide +kernel
theorem dX0_unsaidByCough_24 : decode cX0_unsaidByCough 24 = .ok (.idiv, 1) := by decide +kernel
theorem dX0_unsaidByCough_25 : decode cX0_unsaidByCough 25 = .ok (.ireturn, 1) := by decide +kernel
set_option maxRecDepth 20000 in
theorem ggX0_send_X1_pairOf : GoodIn wsX0_send wsX1_pairOf := goodIn_r _ [6] (by decide +kernel) (by decide +kernel)
set_option maxRecDepth 20000 in
theorem gX0_send_X1_pairOf_n84 : GoodIn wsX0_send (wsX1_pairOf) := ggX0_send_X1_pairOf
set_option maxRecDepth 20000 in
theorem ggX0_send_X0_wayOf : GoodIn wsX0_send wsX0_wayOf := goodIn_r _ [11, 12, 13, 14, 10, 15, 16, 17, 18, 19, 20, 21, 22, 23, 24, 25, 26, 27, 28, 29, 30, 31, 32, 33, 34, 35, 36, 37, 38, 39, 40] (by decide +kernel) (by decide +kernel)
set_option maxRecDepth 20000 in
theorem gX0_send_X0_wayOf : GoodIn wsX0_send (wsV RX0 87 RX0 yX0_wayOf wsX0_wayOf) := goodIn_app (goodIn_of _ (by decide +kernel)) ggX0_send_X0_wayOf
theorem dX0_send_0 : decode cX0_send 0 = .ok (.iload_n 1, 1) := by decide +kernel
theorem dX0_send_1 : decode cX0_send 1 = .ok (.iload_n 2, 1) := by decide +kernel
theorem dX0_send_2 : decode cX0_send 2 = .ok (.invokestatic 84, 3) := by decide +kernel
theorem dX0_send_5 : decode cX0_send 5 = .ok (.istore_n 3, 1) := by decide +kernel
theorem dX0_send_6 : decode cX0_send 6 = .ok (.aload_n 0, 1) := by decide +kernel
theorem dX0_send_7 : decode cX0_send 7 = .ok (.getfield 65, 3) := by decide +kernel
theorem dX0_send_10 : decode cX0_send 10 = .ok (.aload_n 0, 1) := by decide +kernel
theorem dX0_send_11 : decode cX0_send 11 = .ok (.getfield 30, 3) := by decide +kernel
theorem dX0_send_14 : decode cX0_send 14 = .ok (.arraylength, 1) := by decide +kernel
theorem dX0_send_15 : decode cX0_send 15 = .ok (.if_icmp .ge 35, 3) := by decide +kernel
theorem dX0_send_18 : decode cX0_send 18 = .ok (.aload_n 0, 1) := by decide +kernel
theorem dX0_send_19 : decode cX0_send 19 = .ok (.getfield 30, 3) := by decide +kernel
theorem dX0_send_22 : decode cX0_send 22 = .ok (.aload_n 0, 1) := by decide +kernel
theorem dX0_send_23 : decode cX0_send 23 = .ok (.getfield 65, 3) := by decide +kernel
theorem dX0_send_26 : decode cX0_send 26 = .ok (.iload_n 3, 1) := by decide +kernel
theorem dX0_send_27 : decode cX0_send 27 = .ok (.iastore, 1) := by decide +kernel
theorem dX0_send_28 : decode cX0_send 28 = .ok (.aload_n 0, 1) := by decide +kernel
theorem dX0_send_29 : decode cX0_send 29 = .ok (.dup, 1) := by decide +kernel
theorem dX0_send_30 : decode cX0_send 30 = .ok (.getfield 65, 3) := by decide +kernel
theorem dX0_send_33 : decode cX0_send 33 = .ok (.iconst 1, 1) := by decide +kernel
theorem dX0_send_34 : decode cX0_send 34 = .ok (.iadd, 1) := by decide +kernel
theorem dX0_send_35 : decode cX0_send 35 = .ok (.putfield 65, 3) := by decide +kernel
theorem dX0_send_38 : decode cX0_send 38 = .ok (.aload_n 0, 1) := by decide +kernel
theorem dX0_send_39 : decode cX0_send 39 = .ok (.getfield 24, 3) := by decide +kernel
theorem dX0_send_42 : decode cX0_send 42 = .ok (.iload_n 3, 1) := by decide +kernel
theorem dX0_send_43 : decode cX0_send 43 = .ok (.aload_n 0, 1) := by decide +kernel
theorem dX0_send_44 : decode cX0_send 44 = .ok (.iload_n 1, 1) := by decide +kernel
theorem dX0_send_45 : decode cX0_send 45 = .ok (.iload_n 2, 1) := by decide +kernel
theorem dX0_send_46 : decode cX0_send 46 = .ok (.invokevirtual 87, 3) := by decide +kernel
theorem dX0_send_49 : decode cX0_send 49 = .ok (.iastore, 1) := by decide +kernel
theorem dX0_send_50 : decode cX0_send 50 = .ok (.aload_n 0, 1) := by decide +kernel
theorem dX0_send_51 : decode cX0_send 51 = .ok (.iload_n 1, 1) := by decide +kernel
theorem dX0_send_52 : decode cX0_send 52 = .ok (.iload_n 2, 1) := by decide +kernel
theorem dX0_send_53 : decode cX0_send 53 = .ok (.invokevirtual 87, 3) := by decide +kernel
theorem dX0_send_56 : decode cX0_send 56 = .ok (.ireturn, 1) := by decide +kernel
set_option maxRecDepth 20000 in
theorem ggX0_goBy_X0_goOneSecond : GoodIn wsX0_goBy wsX0_goOneSecond := goodIn_r _ [5, 6, 7, 8, 9, 4, 10, 11, 12, 13, 14, 15, 16, 17, 18, 19, 20, 21, 22, 23, 24, 25, 26, 27, 28, 29, 30, 31, 32, 33, 34, 35, 36, 37, 38, 39, 40, 41, 42, 43, 44, 45, 46, 47, 48, 49, 50, 51, 52, 53, 54, 55, 56, 57, 58, 59, 60, 61, 62, 63] (by decide +kernel) (by decide +kernel)
set_option maxRecDepth 20000 in
theorem gX0_goBy_X0_goOneSecond : GoodIn wsX0_goBy (wsV RX0 90 RX0 yX0_goOneSecond wsX0_goOneSecond) := goodIn_app (goodIn_of _ (by decide +kernel)) ggX0_goBy_X0_goOneSecond
theorem dX0_goBy_0 : decode cX0_goBy 0 = .ok (.iconst 0, 1) := by decide +kernel
theorem dX0_goBy_1 : decode cX0_goBy 1 = .ok (.istore_n 2, 1) := by decide +kernel
theorem dX0_goBy_2 : decode cX0_goBy 2 = .ok (.iload_n 2, 1) := by decide +kernel
theorem dX0_goBy_3 : decode cX0_goBy 3 = .ok (.iload_n 1, 1) := by decide +kernel
theorem dX0_goBy_4 : decode cX0_goBy 4 = .ok (.if_icmp .ge 13, 3) := by decide +kernel
theorem dX0_goBy_7 : decode cX0_goBy 7 = .ok (.aload_n 0, 1) := by decide +kernel
theorem dX0_goBy_8 : decode cX0_goBy 8 = .ok (.invokevirtual 90, 3) := by decide +kernel
theorem dX0_goBy_11 : decode cX0_goBy 11 = .ok (.iinc 2 1, 3) := by decide +kernel
theorem dX0_goBy_14 : decode cX0_goBy 14 = .ok (.goto (-12), 3) := by decide +kernel
theorem dX0_goBy_17 : decode cX0_goBy 17 = .ok (.return_, 1) := by decide +kernel
set_option maxRecDepth 20000 in
theorem ggX0_goOneSecond_X0_speakOrPause : GoodIn wsX0_goOneSecond wsX0_speakOrPause := goodIn_r _ [6, 7, 8, 9, 10, 11, 12, 13, 14, 5, 15, 16, 43, 44, 45, 46, 47, 48, 49, 50, 51, 52, 53, 54, 55, 56, 57, 58, 59] (by decide +kernel) (by decide +kernel)
set_option maxRecDepth 20000 in
theorem gX0_goOneSecond_X0_speakOrPause : GoodIn wsX0_goOneSecond (wsV RX0 93 RX0 yX0_speakOrPause wsX0_speakOrPause) := goodIn_app (goodIn_of _ (by decide +kernel)) ggX0_goOneSecond_X0_speakOrPause
set_option maxRecDepth 20000 in
theorem ggX0_goOneSecond_X0_moveGlances : GoodIn wsX0_goOneSecond wsX0_moveGlances := goodIn_r _ [20, 21, 22, 23, 24, 25, 26, 5, 27, 28, 29, 7, 30, 31, 32, 33, 34, 35, 36, 37, 38, 39, 40, 41, 42, 43, 44, 45, 46, 47, 48, 49, 50, 51, 52, 53, 54, 55, 56, 57, 58, 59] (by decide +kernel) (by decide +kernel)
set_option maxRecDepth 20000 in
theorem gX0_goOneSecond_X0_moveGlances : GoodIn wsX0_goOneSecond (wsV RX0 96 RX0 yX0_moveGlances wsX0_moveGlances) := goodIn_app (goodIn_of _ (by decide +kernel)) ggX0_goOneSecond_X0_moveGlances
theorem dX0_goOneSecond_0 : decode cX0_goOneSecond 0 = .ok (.aload_n 0, 1) := by decide +kernel
theorem dX0_goOneSecond_1 : decode cX0_goOneSecond 1 = .ok (.invokevirtual 93, 3) := by decide +kernel
theorem dX0_goOneSecond_4 : decode cX0_goOneSecond 4 = .ok (.aload_n 0, 1) := by decide +kernel
theorem dX0_goOneSecond_5 : decode cX0_goOneSecond 5 = .ok (.invokevirtual 96, 3) := by decide +kernel
theorem dX0_goOneSecond_8 : decode cX0_goOneSecond 8 = .ok (.aload_n 0, 1) := by decide +kernel
theorem dX0_goOneSecond_9 : decode cX0_goOneSecond 9 = .ok (.dup, 1) := by decide +kernel
theorem dX0_goOneSecond_10 : decode cX0_goOneSecond 10 = .ok (.getfield 44, 3) := by decide +kernel
theorem dX0_goOneSecond_13 : decode cX0_goOneSecond 13 = .ok (.iconst 1, 1) := by decide +kernel
theorem dX0_goOneSecond_14 : decode cX0_goOneSecond 14 = .ok (.iadd, 1) := by decide +kernel
theorem dX0_goOneSecond_15 : decode cX0_goOneSecond 15 = .ok (.putfield 44, 3) := by decide +kernel
theorem dX0_goOneSecond_18 : decode cX0_goOneSecond 18 = .ok (.return_, 1) := by decide +kernel
set_option maxRecDepth 20000 in
theorem ggX0_speakOrPause_X0_beyondMultipleOfLimit : GoodIn wsX0_speakOrPause wsX0_beyondMultipleOfLimit := goodIn_r _ [10, 11, 12, 13, 14, 15, 16, 17, 18, 19, 20, 21, 22, 23, 24, 25, 26, 27, 28] (by decide +kernel) (by decide +kernel)
set_option maxRecDepth 20000 in
theorem gX0_speakOrPause_X0_beyondMultipleOfLimit : GoodIn wsX0_speakOrPause (wsV RX0 99 RX0 yX0_beyondMultipleOfLimit wsX0_beyondMultipleOfLimit) := goodIn_app (goodIn_of _ (by decide +kernel)) ggX0_speakOrPause_X0_beyondMultipleOfLimit
theorem dX0_speakOrPause_0 : decode cX0_speakOrPause 0 = .ok (.aload_n 0, 1) := by decide +kernel
theorem dX0_speakOrPause_1 : decode cX0_speakOrPause 1 = .ok (.getfield 47, 3) := by decide +kernel
theorem dX0_speakOrPause_4 : decode cX0_speakOrPause 4 = .ok (.iconst (-1), 1) := by decide +kernel
theorem dX0_speakOrPause_5 : decode cX0_speakOrPause 5 = .ok (.if_icmp .ne 35, 3) := by decide +kernel
theorem dX0_speakOrPause_8 : decode cX0_speakOrPause 8 = .ok (.aload_n 0, 1) := by decide +kernel
theorem dX0_speakOrPause_9 : decode cX0_speakOrPause 9 = .ok (.dup, 1) := by decide +kernel
theorem dX0_speakOrPause_10 : decode cX0_speakOrPause 10 = .ok (.getfield 53, 3) := by decide +kernel
theorem dX0_speakOrPause_13 : decode cX0_speakOrPause 13 = .ok (.iconst 1, 1) := by decide +kernel
theorem dX0_speakOrPause_14 : decode cX0_speakOrPause 14 = .ok (.iadd, 1) := by decide +kernel
theorem dX0_speakOrPause_15 : decode cX0_speakOrPause 15 = .ok (.putfield 53, 3) := by decide +kernel
theorem dX0_speakOrPause_18 : decode cX0_speakOrPause 18 = .ok (.aload_n 0, 1) := by decide +kernel
theorem dX0_speakOrPause_19 : decode cX0_speakOrPause 19 = .ok (.aload_n 0, 1) := by decide +kernel
theorem dX0_speakOrPause_20 : decode cX0_speakOrPause 20 = .ok (.getfield 53, 3) := by decide +kernel
theorem dX0_speakOrPause_23 : decode cX0_speakOrPause 23 = .ok (.invokevirtual 99, 3) := by decide +kernel
theorem dX0_speakOrPause_26 : decode cX0_speakOrPause 26 = .ok (.ifCond .ne 13, 3) := by decide +kernel
theorem dX0_speakOrPause_29 : decode cX0_speakOrPause 29 = .ok (.aload_n 0, 1) := by decide +kernel
theorem dX0_speakOrPause_30 : decode cX0_speakOrPause 30 = .ok (.dup, 1) := by decide +kernel
theorem dX0_speakOrPause_31 : decode cX0_speakOrPause 31 = .ok (.getfield 56, 3) := by decide +kernel
theorem dX0_speakOrPause_34 : decode cX0_speakOrPause 34 = .ok (.iconst 1, 1) := by decide +kernel
theorem dX0_speakOrPause_35 : decode cX0_speakOrPause 35 = .ok (.iadd, 1) := by decide +kernel
theorem dX0_speakOrPause_36 : decode cX0_speakOrPause 36 = .ok (.putfield 56, 3) := by decide +kernel
theorem dX0_speakOrPause_39 : decode cX0_speakOrPause 39 = .ok (.return_, 1) := by decide +kernel
theorem dX0_speakOrPause_40 : decode cX0_speakOrPause 40 = .ok (.aload_n 0, 1) := by decide +kernel
theorem dX0_speakOrPause_41 : decode cX0_speakOrPause 41 = .ok (.iconst 0, 1) := by decide +kernel
theorem dX0_speakOrPause_42 : decode cX0_speakOrPause 42 = .ok (.putfield 53, 3) := by decide +kernel
theorem dX0_speakOrPause_45 : decode cX0_speakOrPause 45 = .ok (.aload_n 0, 1) := by decide +kernel
theorem dX0_speakOrPause_46 : decode cX0_speakOrPause 46 = .ok (.getfield 9, 3) := by decide +kernel
theorem dX0_speakOrPause_49 : decode cX0_speakOrPause 49 = .ok (.aload_n 0, 1) := by decide +kernel
theorem dX0_speakOrPause_50 : decode cX0_speakOrPause 50 = .ok (.getfield 47, 3) := by decide +kernel
theorem dX0_speakOrPause_53 : decode cX0_speakOrPause 53 = .ok (.dup2, 1) := by decide +kernel
theorem dX0_speakOrPause_54 : decode cX0_speakOrPause 54 = .ok (.iaload, 1) := by decide +kernel
theorem dX0_speakOrPause_55 : decode cX0_speakOrPause 55 = .ok (.iconst 1, 1) := by decide +kernel
theorem dX0_speakOrPause_56 : decode cX0_speakOrPause 56 = .ok (.iadd, 1) := by decide +kernel
theorem dX0_speakOrPause_57 : decode cX0_speakOrPause 57 = .ok (.iastore, 1) := by decide +kernel
theorem dX0_speakOrPause_58 : decode cX0_speakOrPause 58 = .ok (.aload_n 0, 1) := by decide +kernel
theorem dX0_speakOrPause_59 : decode cX0_speakOrPause 59 = .ok (.dup, 1) := by decide +kernel
theorem dX0_speakOrPause_60 : decode cX0_speakOrPause 60 = .ok (.getfield 50, 3) := by decide +kernel
theorem dX0_speakOrPause_63 : decode cX0_speakOrPause 63 = .ok (.iconst 1, 1) := by decide +kernel
theorem dX0_speakOrPause_64 : decode cX0_speakOrPause 64 = .ok (.isub, 1) := by decide +kernel
theorem dX0_speakOrPause_65 : decode cX0_speakOrPause 65 = .ok (.putfield 50, 3) := by decide +kernel
theorem dX0_speakOrPause_68 : decode cX0_speakOrPause 68 = .ok (.aload_n 0, 1) := by decide +kernel
theorem dX0_speakOrPause_69 : decode cX0_speakOrPause 69 = .ok (.getfield 50, 3) := by decide +kernel
theorem dX0_speakOrPause_72 : decode cX0_speakOrPause 72 = .ok (.ifCond .ne 8, 3) := by decide +kernel
theorem dX0_speakOrPause_75 : decode cX0_speakOrPause 75 = .ok (.aload_n 0, 1) := by decide +kernel
theorem dX0_speakOrPause_76 : decode cX0_speakOrPause 76 = .ok (.iconst (-1), 1) := by decide +kernel
theorem dX0_speakOrPause_77 : decode cX0_speakOrPause 77 = .ok (.putfield 47, 3) := by decide +kernel
theorem dX0_speakOrPause_80 : decode cX0_speakOrPause 80 = .ok (.return_, 1) := by decide +kernel
set_option maxRecDepth 20000 in
theorem ggX0_moveGlances_X0_arrive : GoodIn wsX0_moveGlances wsX0_arrive := goodIn_r _ [8, 9, 10, 2, 11, 12, 13, 14, 15, 16, 17, 18, 19, 7, 20, 25, 26, 27, 28, 29, 30, 31, 32, 33, 34, 35, 36, 37, 38, 39, 40, 41] (by decide +kernel) (by decide +kernel)
set_option maxRecDepth 20000 in
theorem gX0_moveGlances_X0_arrive : GoodIn wsX0_moveGlances (wsV RX0 103 RX0 yX0_arrive wsX0_arrive) := goodIn_app (goodIn_of _ (by decide +kernel)) ggX0_moveGlances_X0_arrive
set_option maxRecDepth 20000 in
theorem ggX0_moveGlances_X0_forgetThoseOver : GoodIn wsX0_moveGlances wsX0_forgetThoseOver := goodIn_r _ [24, 1, 3, 17, 18, 19, 7, 20, 2, 25, 26, 27, 28, 29, 30, 31, 32, 33, 34, 35, 36, 37, 38, 39, 40, 41] (by decide +kernel) (by decide +kernel)
set_option maxRecDepth 20000 in
theorem gX0_moveGlances_X0_forgetThoseOver : GoodIn wsX0_moveGlances (wsV RX0 107 RX0 yX0_forgetThoseOver wsX0_forgetThoseOver) := goodIn_app (goodIn_of _ (by decide +kernel)) ggX0_moveGlances_X0_forgetThoseOver
theorem dX0_moveGlances_0 : decode cX0_moveGlances 0 = .ok (.iconst 0, 1) := by decide +kernel
theorem dX0_moveGlances_1 : decode cX0_moveGlances 1 = .ok (.istore_n 1, 1) := by decide +kernel
theorem dX0_moveGlances_2 : decode cX0_moveGlances 2 = .ok (.iload_n 1, 1) := by decide +kernel
theorem dX0_moveGlances_3 : decode cX0_moveGlances 3 = .ok (.aload_n 0, 1) := by decide +kernel
theorem dX0_moveGlances_4 : decode cX0_moveGlances 4 = .ok (.getfield 65, 3) := by decide +kernel
theorem dX0_moveGlances_7 : decode cX0_moveGlances 7 = .ok (.if_icmp .ge 24, 3) := by decide +kernel
theorem dX0_moveGlances_10 : decode cX0_moveGlances 10 = .ok (.aload_n 0, 1) := by decide +kernel
theorem dX0_moveGlances_11 : decode cX0_moveGlances 11 = .ok (.getfield 24, 3) := by decide +kernel
theorem dX0_moveGlances_14 : decode cX0_moveGlances 14 = .ok (.aload_n 0, 1) := by decide +kernel
theorem dX0_moveGlances_15 : decode cX0_moveGlances 15 = .ok (.getfield 30, 3) := by decide +kernel
theorem dX0_moveGlances_18 : decode cX0_moveGlances 18 = .ok (.iload_n 1, 1) := by decide +kernel
theorem dX0_moveGlances_19 : decode cX0_moveGlances 19 = .ok (.iaload, 1) := by decide +kernel
theorem dX0_moveGlances_20 : decode cX0_moveGlances 20 = .ok (.dup2, 1) := by decide +kernel
theorem dX0_moveGlances_21 : decode cX0_moveGlances 21 = .ok (.iaload, 1) := by decide +kernel
theorem dX0_moveGlances_22 : decode cX0_moveGlances 22 = .ok (.iconst 1, 1) := by decide +kernel
theorem dX0_moveGlances_23 : decode cX0_moveGlances 23 = .ok (.isub, 1) := by decide +kernel
theorem dX0_moveGlances_24 : decode cX0_moveGlances 24 = .ok (.iastore, 1) := by decide +kernel
theorem dX0_moveGlances_25 : decode cX0_moveGlances 25 = .ok (.iinc 1 1, 3) := by decide +kernel
theorem dX0_moveGlances_28 : decode cX0_moveGlances 28 = .ok (.goto (-26), 3) := by decide +kernel
theorem dX0_moveGlances_31 : decode cX0_moveGlances 31 = .ok (.iconst 0, 1) := by decide +kernel
theorem dX0_moveGlances_32 : decode cX0_moveGlances 32 = .ok (.istore_n 1, 1) := by decide +kernel
theorem dX0_moveGlances_33 : decode cX0_moveGlances 33 = .ok (.iload_n 1, 1) := by decide +kernel
theorem dX0_moveGlances_34 : decode cX0_moveGlances 34 = .ok (.aload_n 0, 1) := by decide +kernel
theorem dX0_moveGlances_35 : decode cX0_moveGlances 35 = .ok (.getfield 65, 3) := by decide +kernel
theorem dX0_moveGlances_38 : decode cX0_moveGlances 38 = .ok (.if_icmp .ge 37, 3) := by decide +kernel
theorem dX0_moveGlances_41 : decode cX0_moveGlances 41 = .ok (.aload_n 0, 1) := by decide +kernel
theorem dX0_moveGlances_42 : decode cX0_moveGlances 42 = .ok (.getfield 30, 3) := by decide +kernel
theorem dX0_moveGlances_45 : decode cX0_moveGlances 45 = .ok (.iload_n 1, 1) := by decide +kernel
theorem dX0_moveGlances_46 : decode cX0_moveGlances 46 = .ok (.iaload, 1) := by decide +kernel
theorem dX0_moveGlances_47 : decode cX0_moveGlances 47 = .ok (.istore_n 2, 1) := by decide +kernel
theorem dX0_moveGlances_48 : decode cX0_moveGlances 48 = .ok (.aload_n 0, 1) := by decide +kernel
theorem dX0_moveGlances_49 : decode cX0_moveGlances 49 = .ok (.getfield 24, 3) := by decide +kernel
theorem dX0_moveGlances_52 : decode cX0_moveGlances 52 = .ok (.iload_n 2, 1) := by decide +kernel
theorem dX0_moveGlances_53 : decode cX0_moveGlances 53 = .ok (.iaload, 1) := by decide +kernel
theorem dX0_moveGlances_54 : decode cX0_moveGlances 54 = .ok (.ifCond .ne 15, 3) := by decide +kernel
theorem dX0_moveGlances_57 : decode cX0_moveGlances 57 = .ok (.aload_n 0, 1) := by decide +kernel
theorem dX0_moveGlances_58 : decode cX0_moveGlances 58 = .ok (.iload_n 2, 1) := by decide +kernel
theorem dX0_moveGlances_59 : decode cX0_moveGlances 59 = .ok (.bipush 10, 2) := by decide +kernel
theorem dX0_moveGlances_61 : decode cX0_moveGlances 61 = .ok (.idiv, 1) := by decide +kernel
theorem dX0_moveGlances_62 : decode cX0_moveGlances 62 = .ok (.iload_n 2, 1) := by decide +kernel
theorem dX0_moveGlances_63 : decode cX0_moveGlances 63 = .ok (.bipush 10, 2) := by decide +kernel
theorem dX0_moveGlances_65 : decode cX0_moveGlances 65 = .ok (.irem, 1) := by decide +kernel
theorem dX0_moveGlances_66 : decode cX0_moveGlances 66 = .ok (.invokevirtual 103, 3) := by decide +kernel
theorem dX0_moveGlances_69 : decode cX0_moveGlances 69 = .ok (.iinc 1 1, 3) := by decide +kernel
theorem dX0_moveGlances_72 : decode cX0_moveGlances 72 = .ok (.goto (-39), 3) := by decide +kernel
theorem dX0_moveGlances_75 : decode cX0_moveGlances 75 = .ok (.aload_n 0, 1) := by decide +kernel
theorem dX0_moveGlances_76 : decode cX0_moveGlances 76 = .ok (.invokevirtual 107, 3) := by decide +kernel
theorem dX0_moveGlances_79 : decode cX0_moveGlances 79 = .ok (.return_, 1) := by decide +kernel
set_option maxRecDepth 20000 in
theorem ggX0_arrive_X1_pairOf : GoodIn wsX0_arrive wsX1_pairOf := goodIn_r _ [9] (by decide +kernel) (by decide +kernel)
set_option maxRecDepth 20000 in
theorem gX0_arrive_X1_pairOf_n84 : GoodIn wsX0_arrive (wsX1_pairOf) := ggX0_arrive_X1_pairOf
set_option maxRecDepth 20000 in
theorem ggX0_arrive_X0_isOnItsWay : GoodIn wsX0_arrive wsX0_isOnItsWay := goodIn_r _ [14, 3, 15, 16, 17, 18, 19, 20, 21, 22, 23, 24, 25, 26, 27, 28, 29, 30, 31] (by decide +kernel) (by decide +kernel)
set_option maxRecDepth 20000 in
theorem gX0_arrive_X0_isOnItsWay : GoodIn wsX0_arrive (wsV RX0 110 RX0 yX0_isOnItsWay wsX0_isOnItsWay) := goodIn_app (goodIn_of _ (by decide +kernel)) ggX0_arrive_X0_isOnItsWay
theorem dX0_arrive_0 : decode cX0_arrive 0 = .ok (.iload_n 1, 1) := by decide +kernel
theorem dX0_arrive_1 : decode cX0_arrive 1 = .ok (.iload_n 2, 1) := by decide +kernel
theorem dX0_arrive_2 : decode cX0_arrive 2 = .ok (.invokestatic 84, 3) := by decide +kernel
theorem dX0_arrive_5 : decode cX0_arrive 5 = .ok (.istore_n 3, 1) := by decide +kernel
theorem dX0_arrive_6 : decode cX0_arrive 6 = .ok (.iload_n 2, 1) := by decide +kernel
theorem dX0_arrive_7 : decode cX0_arrive 7 = .ok (.iload_n 1, 1) := by decide +kernel
theorem dX0_arrive_8 : decode cX0_arrive 8 = .ok (.invokestatic 84, 3) := by decide +kernel
theorem dX0_arrive_11 : decode cX0_arrive 11 = .ok (.istore 4, 2) := by decide +kernel
theorem dX0_arrive_13 : decode cX0_arrive 13 = .ok (.aload_n 0, 1) := by decide +kernel
theorem dX0_arrive_14 : decode cX0_arrive 14 = .ok (.iload 4, 2) := by decide +kernel
theorem dX0_arrive_16 : decode cX0_arrive 16 = .ok (.invokevirtual 110, 3) := by decide +kernel
theorem dX0_arrive_19 : decode cX0_arrive 19 = .ok (.ifCond .eq 44, 3) := by decide +kernel
theorem dX0_arrive_22 : decode cX0_arrive 22 = .ok (.aload_n 0, 1) := by decide +kernel
theorem dX0_arrive_23 : decode cX0_arrive 23 = .ok (.dup, 1) := by decide +kernel
theorem dX0_arrive_24 : decode cX0_arrive 24 = .ok (.getfield 59, 3) := by decide +kernel
theorem dX0_arrive_27 : decode cX0_arrive 27 = .ok (.iconst 1, 1) := by decide +kernel
theorem dX0_arrive_28 : decode cX0_arrive 28 = .ok (.iadd, 1) := by decide +kernel
theorem dX0_arrive_29 : decode cX0_arrive 29 = .ok (.putfield 59, 3) := by decide +kernel
theorem dX0_arrive_32 : decode cX0_arrive 32 = .ok (.aload_n 0, 1) := by decide +kernel
theorem dX0_arrive_33 : decode cX0_arrive 33 = .ok (.getfield 21, 3) := by decide +kernel
theorem dX0_arrive_36 : decode cX0_arrive 36 = .ok (.iload_n 1, 1) := by decide +kernel
theorem dX0_arrive_37 : decode cX0_arrive 37 = .ok (.dup2, 1) := by decide +kernel
theorem dX0_arrive_38 : decode cX0_arrive 38 = .ok (.iaload, 1) := by decide +kernel
theorem dX0_arrive_39 : decode cX0_arrive 39 = .ok (.iconst 3, 1) := by decide +kernel
theorem dX0_arrive_40 : decode cX0_arrive 40 = .ok (.iadd, 1) := by decide +kernel
theorem dX0_arrive_41 : decode cX0_arrive 41 = .ok (.iastore, 1) := by decide +kernel
theorem dX0_arrive_42 : decode cX0_arrive 42 = .ok (.aload_n 0, 1) := by decide +kernel
theorem dX0_arrive_43 : decode cX0_arrive 43 = .ok (.getfield 21, 3) := by decide +kernel
theorem dX0_arrive_46 : decode cX0_arrive 46 = .ok (.iload_n 2, 1) := by decide +kernel
theorem dX0_arrive_47 : decode cX0_arrive 47 = .ok (.dup2, 1) := by decide +kernel
theorem dX0_arrive_48 : decode cX0_arrive 48 = .ok (.iaload, 1) := by decide +kernel
theorem dX0_arrive_49 : decode cX0_arrive 49 = .ok (.iconst 3, 1) := by decide +kernel
theorem dX0_arrive_50 : decode cX0_arrive 50 = .ok (.iadd, 1) := by decide +kernel
theorem dX0_arrive_51 : decode cX0_arrive 51 = .ok (.iastore, 1) := by decide +kernel
theorem dX0_arrive_52 : decode cX0_arrive 52 = .ok (.aload_n 0, 1) := by decide +kernel
theorem dX0_arrive_53 : decode cX0_arrive 53 = .ok (.getfield 24, 3) := by decide +kernel
theorem dX0_arrive_56 : decode cX0_arrive 56 = .ok (.iload 4, 2) := by decide +kernel
theorem dX0_arrive_58 : decode cX0_arrive 58 = .ok (.iconst (-1), 1) := by decide +kernel
theorem dX0_arrive_59 : decode cX0_arrive 59 = .ok (.iastore, 1) := by decide +kernel
theorem dX0_arrive_60 : decode cX0_arrive 60 = .ok (.goto 44, 3) := by decide +kernel
theorem dX0_arrive_63 : decode cX0_arrive 63 = .ok (.aload_n 0, 1) := by decide +kernel
theorem dX0_arrive_64 : decode cX0_arrive 64 = .ok (.getfield 47, 3) := by decide +kernel
theorem dX0_arrive_67 : decode cX0_arrive 67 = .ok (.iload_n 2, 1) := by decide +kernel
theorem dX0_arrive_68 : decode cX0_arrive 68 = .ok (.if_icmp .ne 16, 3) := by decide +kernel
theorem dX0_arrive_71 : decode cX0_arrive 71 = .ok (.aload_n 0, 1) := by decide +kernel
theorem dX0_arrive_72 : decode cX0_arrive 72 = .ok (.dup, 1) := by decide +kernel
theorem dX0_arrive_73 : decode cX0_arrive 73 = .ok (.getfield 62, 3) := by decide +kernel
theorem dX0_arrive_76 : decode cX0_arrive 76 = .ok (.iconst 1, 1) := by decide +kernel
theorem dX0_arrive_77 : decode cX0_arrive 77 = .ok (.iadd, 1) := by decide +kernel
theorem dX0_arrive_78 : decode cX0_arrive 78 = .ok (.putfield 62, 3) := by decide +kernel
theorem dX0_arrive_81 : decode cX0_arrive 81 = .ok (.goto 23, 3) := by decide +kernel
theorem dX0_arrive_84 : decode cX0_arrive 84 = .ok (.aload_n 0, 1) := by decide +kernel
theorem dX0_arrive_85 : decode cX0_arrive 85 = .ok (.getfield 27, 3) := by decide +kernel
theorem dX0_arrive_88 : decode cX0_arrive 88 = .ok (.iload_n 3, 1) := by decide +kernel
theorem dX0_arrive_89 : decode cX0_arrive 89 = .ok (.dup2, 1) := by decide +kernel
theorem dX0_arrive_90 : decode cX0_arrive 90 = .ok (.iaload, 1) := by decide +kernel
theorem dX0_arrive_91 : decode cX0_arrive 91 = .ok (.iconst 1, 1) := by decide +kernel
theorem dX0_arrive_92 : decode cX0_arrive 92 = .ok (.iadd, 1) := by decide +kernel
theorem dX0_arrive_93 : decode cX0_arrive 93 = .ok (.iastore, 1) := by decide +kernel
theorem dX0_arrive_94 : decode cX0_arrive 94 = .ok (.aload_n 0, 1) := by decide +kernel
theorem dX0_arrive_95 : decode cX0_arrive 95 = .ok (.getfield 21, 3) := by decide +kernel
theorem dX0_arrive_98 : decode cX0_arrive 98 = .ok (.iload_n 1, 1) := by decide +kernel
theorem dX0_arrive_99 : decode cX0_arrive 99 = .ok (.dup2, 1) := by decide +kernel
theorem dX0_arrive_100 : decode cX0_arrive 100 = .ok (.iaload, 1) := by decide +kernel
theorem dX0_arrive_101 : decode cX0_arrive 101 = .ok (.iconst 1, 1) := by decide +kernel
theorem dX0_arrive_102 : decode cX0_arrive 102 = .ok (.iadd, 1) := by decide +kernel
theorem dX0_arrive_103 : decode cX0_arrive 103 = .ok (.iastore, 1) := by decide +kernel
theorem dX0_arrive_104 : decode cX0_arrive 104 = .ok (.aload_n 0, 1) := by decide +kernel
theorem dX0_arrive_105 : decode cX0_arrive 105 = .ok (.getfield 24, 3) := by decide +kernel
theorem dX0_arrive_108 : decode cX0_arrive 108 = .ok (.iload_n 3, 1) := by decide +kernel
theorem dX0_arrive_109 : decode cX0_arrive 109 = .ok (.iconst (-1), 1) := by decide +kernel
theorem dX0_arrive_110 : decode cX0_arrive 110 = .ok (.iastore, 1) := by decide +kernel
theorem dX0_arrive_111 : decode cX0_arrive 111 = .ok (.return_, 1) := by decide +kernel
set_option maxRecDepth 20000 in
theorem ggX0_forgetThoseOver_X0_isOnItsWay : GoodIn wsX0_forgetThoseOver wsX0_isOnItsWay := goodIn_r _ [7, 8, 9, 10, 11, 12, 13, 14, 15, 16, 17, 18, 19, 20, 21, 22, 23, 24, 25] (by decide +kernel) (by decide +kernel)
set_option maxRecDepth 20000 in
theorem gX0_forgetThoseOver_X0_isOnItsWay : GoodIn wsX0_forgetThoseOver (wsV RX0 110 RX0 yX0_isOnItsWay wsX0_isOnItsWay) := goodIn_app (goodIn_of _ (by decide +kernel)) ggX0_forgetThoseOver_X0_isOnItsWay
theorem dX0_forgetThoseOver_0 : decode cX0_forgetThoseOver 0 = .ok (.iconst 0, 1) := by decide +kernel
theorem dX0_forgetThoseOver_1 : decode cX0_forgetThoseOver 1 = .ok (.istore_n 1, 1) := by decide +kernel
theorem dX0_forgetThoseOver_2 : decode cX0_forgetThoseOver 2 = .ok (.iconst 0, 1) := by decide +kernel
theorem dX0_forgetThoseOver_3 : decode cX0_forgetThoseOver 3 = .ok (.istore_n 2, 1) := by decide +kernel
theorem dX0_forgetThoseOver_4 : decode cX0_forgetThoseOver 4 = .ok (.iload_n 2, 1) := by decide +kernel
theorem dX0_forgetThoseOver_5 : decode cX0_forgetThoseOver 5 = .ok (.aload_n 0, 1) := by decide +kernel
theorem dX0_forgetThoseOver_6 : decode cX0_forgetThoseOver 6 = .ok (.getfield 65, 3) := by decide +kernel
theorem dX0_forgetThoseOver_9 : decode cX0_forgetThoseOver 9 = .ok (.if_icmp .ge 34, 3) := by decide +kernel
theorem dX0_forgetThoseOver_12 : decode cX0_forgetThoseOver 12 = .ok (.aload_n 0, 1) := by decide +kernel
theorem dX0_forgetThoseOver_13 : decode cX0_forgetThoseOver 13 = .ok (.getfield 30, 3) := by decide +kernel
theorem dX0_forgetThoseOver_16 : decode cX0_forgetThoseOver 16 = .ok (.iload_n 2, 1) := by decide +kernel
theorem dX0_forgetThoseOver_17 : decode cX0_forgetThoseOver 17 = .ok (.iaload, 1) := by decide +kernel
theorem dX0_forgetThoseOver_18 : decode cX0_forgetThoseOver 18 = .ok (.istore_n 3, 1) := by decide +kernel
theorem dX0_forgetThoseOver_19 : decode cX0_forgetThoseOver 19 = .ok (.aload_n 0, 1) := by decide +kernel
theorem dX0_forgetThoseOver_20 : decode cX0_forgetThoseOver 20 = .ok (.iload_n 3, 1) := by decide +kernel
theorem dX0_forgetThoseOver_21 : decode cX0_forgetThoseOver 21 = .ok (.invokevirtual 110, 3) := by decide +kernel
theorem dX0_forgetThoseOver_24 : decode cX0_forgetThoseOver 24 = .ok (.ifCond .eq 13, 3) := by decide +kernel
theorem dX0_forgetThoseOver_27 : decode cX0_forgetThoseOver 27 = .ok (.aload_n 0, 1) := by decide +kernel
theorem dX0_forgetThoseOver_28 : decode cX0_forgetThoseOver 28 = .ok (.getfield 30, 3) := by decide +kernel
theorem dX0_forgetThoseOver_31 : decode cX0_forgetThoseOver 31 = .ok (.iload_n 1, 1) := by decide +kernel
theorem dX0_forgetThoseOver_32 : decode cX0_forgetThoseOver 32 = .ok (.iload_n 3, 1) := by decide +kernel
theorem dX0_forgetThoseOver_33 : decode cX0_forgetThoseOver 33 = .ok (.iastore, 1) := by decide +kernel
theorem dX0_forgetThoseOver_34 : decode cX0_forgetThoseOver 34 = .ok (.iinc 1 1, 3) := by decide +kernel
theorem dX0_forgetThoseOver_37 : decode cX0_forgetThoseOver 37 = .ok (.iinc 2 1, 3) := by decide +kernel
theorem dX0_forgetThoseOver_40 : decode cX0_forgetThoseOver 40 = .ok (.goto (-36), 3) := by decide +kernel
theorem dX0_forgetThoseOver_43 : decode cX0_forgetThoseOver 43 = .ok (.aload_n 0, 1) := by decide +kernel
theorem dX0_forgetThoseOver_44 : decode cX0_forgetThoseOver 44 = .ok (.iload_n 1, 1) := by decide +kernel
theorem dX0_forgetThoseOver_45 : decode cX0_forgetThoseOver 45 = .ok (.putfield 65, 3) := by decide +kernel
theorem dX0_forgetThoseOver_48 : decode cX0_forgetThoseOver 48 = .ok (.return_, 1) := by decide +kernel
theorem dX0_isOnItsWay_0 : decode cX0_isOnItsWay 0 = .ok (.aload_n 0, 1) := by decide +kernel
theorem dX0_isOnItsWay_1 : decode cX0_isOnItsWay 1 = .ok (.getfield 24, 3) := by decide +kernel
theorem dX0_isOnItsWay_4 : decode cX0_isOnItsWay 4 = .ok (.iload_n 1, 1) := by decide +kernel
theorem dX0_isOnItsWay_5 : decode cX0_isOnItsWay 5 = .ok (.iaload, 1) := by decide +kernel
theorem dX0_isOnItsWay_6 : decode cX0_isOnItsWay 6 = .ok (.iconst (-1), 1) := by decide +kernel
theorem dX0_isOnItsWay_7 : decode cX0_isOnItsWay 7 = .ok (.if_icmp .eq 7, 3) := by decide +kernel
theorem dX0_isOnItsWay_10 : decode cX0_isOnItsWay 10 = .ok (.iconst 1, 1) := by decide +kernel
theorem dX0_isOnItsWay_11 : decode cX0_isOnItsWay 11 = .ok (.goto 4, 3) := by decide +kernel
theorem dX0_isOnItsWay_14 : decode cX0_isOnItsWay 14 = .ok (.iconst 0, 1) := by decide +kernel
theorem dX0_isOnItsWay_15 : decode cX0_isOnItsWay 15 = .ok (.ireturn, 1) := by decide +kernel
set_option maxRecDepth 20000 in
theorem ggX0_timeToGo_X0_isOnItsWay : GoodIn wsX0_timeToGo wsX0_isOnItsWay := goodIn_r _ [6, 1, 7, 8, 9, 10, 11, 12, 13, 14, 15, 16, 17, 18, 19, 20, 21, 22, 23] (by decide +kernel) (by decide +kernel)
set_option maxRecDepth 20000 in
theorem gX0_timeToGo_X0_isOnItsWay : GoodIn wsX0_timeToGo (wsV RX0 110 RX0 yX0_isOnItsWay wsX0_isOnItsWay) := goodIn_app (goodIn_of _ (by decide +kernel)) ggX0_timeToGo_X0_isOnItsWay
theorem dX0_timeToGo_0 : decode cX0_timeToGo 0 = .ok (.aload_n 0, 1) := by decide +kernel
theorem dX0_timeToGo_1 : decode cX0_timeToGo 1 = .ok (.iload_n 1, 1) := by decide +kernel
theorem dX0_timeToGo_2 : decode cX0_timeToGo 2 = .ok (.invokevirtual 110, 3) := by decide +kernel
theorem dX0_timeToGo_5 : decode cX0_timeToGo 5 = .ok (.ifCond .eq 12, 3) := by decide +kernel
theorem dX0_timeToGo_8 : decode cX0_timeToGo 8 = .ok (.aload_n 0, 1) := by decide +kernel
theorem dX0_timeToGo_9 : decode cX0_timeToGo 9 = .ok (.getfield 24, 3) := by decide +kernel
theorem dX0_timeToGo_12 : decode cX0_timeToGo 12 = .ok (.iload_n 1, 1) := by decide +kernel
theorem dX0_timeToGo_13 : decode cX0_timeToGo 13 = .ok (.iaload, 1) := by decide +kernel
theorem dX0_timeToGo_14 : decode cX0_timeToGo 14 = .ok (.goto 4, 3) := by decide +kernel
theorem dX0_timeToGo_17 : decode cX0_timeToGo 17 = .ok (.iconst 0, 1) := by decide +kernel
theorem dX0_timeToGo_18 : decode cX0_timeToGo 18 = .ok (.ireturn, 1) := by decide +kernel
theorem dX0_seatsBetween_0 : decode cX0_seatsBetween 0 = .ok (.iload_n 1, 1) := by decide +kernel
theorem dX0_seatsBetween_1 : decode cX0_seatsBetween 1 = .ok (.iload_n 2, 1) := by decide +kernel
theorem dX0_seatsBetween_2 : decode cX0_seatsBetween 2 = .ok (.isub, 1) := by decide +kernel
theorem dX0_seatsBetween_3 : decode cX0_seatsBetween 3 = .ok (.invokestatic 114, 3) := by decide +kernel
theorem dX0_seatsBetween_6 : decode cX0_seatsBetween 6 = .ok (.istore_n 3, 1) := by decide +kernel
theorem dX0_seatsBetween_7 : decode cX0_seatsBetween 7 = .ok (.iload_n 3, 1) := by decide +kernel
theorem dX0_seatsBetween_8 : decode cX0_seatsBetween 8 = .ok (.aload_n 0, 1) := by decide +kernel
theorem dX0_seatsBetween_9 : decode cX0_seatsBetween 9 = .ok (.getfield 41, 3) := by decide +kernel
theorem dX0_seatsBetween_12 : decode cX0_seatsBetween 12 = .ok (.iload_n 3, 1) := by decide +kernel
theorem dX0_seatsBetween_13 : decode cX0_seatsBetween 13 = .ok (.isub, 1) := by decide +kernel
theorem dX0_seatsBetween_14 : decode cX0_seatsBetween 14 = .ok (.invokestatic 119, 3) := by decide +kernel
theorem dX0_seatsBetween_17 : decode cX0_seatsBetween 17 = .ok (.ireturn, 1) := by decide +kernel
set_option maxRecDepth 20000 in
theorem ggX0_wayOf_X0_seatsBetween : GoodIn wsX0_wayOf wsX0_seatsBetween := goodIn_r _ [5, 6, 7, 8, 9, 10, 11, 12, 13, 14, 15, 16, 17, 18, 19, 20, 21, 22, 23, 24, 25, 26, 27, 28, 29, 30] (by decide +kernel) (by decide +kernel)
set_option maxRecDepth 20000 in
theorem gX0_wayOf_X0_seatsBetween : GoodIn wsX0_wayOf (wsV RX0 122 RX0 yX0_seatsBetween wsX0_seatsBetween) := goodIn_app (goodIn_of _ (by decide +kernel)) ggX0_wayOf_X0_seatsBetween
theorem dX0_wayOf_0 : decode cX0_wayOf 0 = .ok (.iconst 2, 1) := by decide +kernel
theorem dX0_wayOf_1 : decode cX0_wayOf 1 = .ok (.aload_n 0, 1) := by decide +kernel
theorem dX0_wayOf_2 : decode cX0_wayOf 2 = .ok (.iload_n 1, 1) := by decide +kernel
theorem dX0_wayOf_3 : decode cX0_wayOf 3 = .ok (.iload_n 2, 1) := by decide +kernel
theorem dX0_wayOf_4 : decode cX0_wayOf 4 = .ok (.invokevirtual 122, 3) := by decide +kernel
theorem dX0_wayOf_7 : decode cX0_wayOf 7 = .ok (.imul, 1) := by decide +kernel
theorem dX0_wayOf_8 : decode cX0_wayOf 8 = .ok (.ireturn, 1) := by decide +kernel
theorem dX0_beyondMultipleOfLimit_0 : decode cX0_beyondMultipleOfLimit 0 = .ok (.aload_n 0, 1) := by decide +kernel
theorem dX0_beyondMultipleOfLimit_1 : decode cX0_beyondMultipleOfLimit 1 = .ok (.getfield 33, 3) := by decide +kernel
theorem dX0_beyondMultipleOfLimit_4 : decode cX0_beyondMultipleOfLimit 4 = .ok (.ifCond .le 12, 3) := by decide +kernel
theorem dX0_beyondMultipleOfLimit_7 : decode cX0_beyondMultipleOfLimit 7 = .ok (.iload_n 1, 1) := by decide +kernel
theorem dX0_beyondMultipleOfLimit_8 : decode cX0_beyondMultipleOfLimit 8 = .ok (.aload_n 0, 1) := by decide +kernel
theorem dX0_beyondMultipleOfLimit_9 : decode cX0_beyondMultipleOfLimit 9 = .ok (.getfield 33, 3) := by decide +kernel
theorem dX0_beyondMultipleOfLimit_12 : decode cX0_beyondMultipleOfLimit 12 = .ok (.irem, 1) := by decide +kernel
theorem dX0_beyondMultipleOfLimit_13 : decode cX0_beyondMultipleOfLimit 13 = .ok (.goto 4, 3) := by decide +kernel
theorem dX0_beyondMultipleOfLimit_16 : decode cX0_beyondMultipleOfLimit 16 = .ok (.iconst 0, 1) := by decide +kernel
theorem dX0_beyondMultipleOfLimit_17 : decode cX0_beyondMultipleOfLimit 17 = .ok (.ireturn, 1) := by decide +kernel
theorem dX0_sumUnsaidByGuests_0 : decode cX0_sumUnsaidByGuests 0 = .ok (.iconst 0, 1) := by decide +kernel
theorem dX0_sumUnsaidByGuests_1 : decode cX0_sumUnsaidByGuests 1 = .ok (.istore_n 1, 1) := by decide +kernel
theorem dX0_sumUnsaidByGuests_2 : decode cX0_sumUnsaidByGuests 2 = .ok (.iconst 0, 1) := by decide +kernel
theorem dX0_sumUnsaidByGuests_3 : decode cX0_sumUnsaidByGuests 3 = .ok (.istore_n 2, 1) := by decide +kernel
theorem dX0_sumUnsaidByGuests_4 : decode cX0_sumUnsaidByGuests 4 = .ok (.iload_n 2, 1) := by decide +kernel
theorem dX0_sumUnsaidByGuests_5 : decode cX0_sumUnsaidByGuests 5 = .ok (.aload_n 0, 1) := by decide +kernel
theorem dX0_sumUnsaidByGuests_6 : decode cX0_sumUnsaidByGuests 6 = .ok (.getfield 41, 3) := by decide +kernel
theorem dX0_sumUnsaidByGuests_9 : decode cX0_sumUnsaidByGuests 9 = .ok (.if_icmp .ge 18, 3) := by decide +kernel
theorem dX0_sumUnsaidByGuests_12 : decode cX0_sumUnsaidByGuests 12 = .ok (.iload_n 1, 1) := by decide +kernel
theorem dX0_sumUnsaidByGuests_13 : decode cX0_sumUnsaidByGuests 13 = .ok (.aload_n 0, 1) := by decide +kernel
theorem dX0_sumUnsaidByGuests_14 : decode cX0_sumUnsaidByGuests 14 = .ok (.getfield 21, 3) := by decide +kernel
theorem dX0_sumUnsaidByGuests_17 : decode cX0_sumUnsaidByGuests 17 = .ok (.iload_n 2, 1) := by decide +kernel
theorem dX0_sumUnsaidByGuests_18 : decode cX0_sumUnsaidByGuests 18 = .ok (.iaload, 1) := by decide +kernel
theorem dX0_sumUnsaidByGuests_19 : decode cX0_sumUnsaidByGuests 19 = .ok (.iadd, 1) := by decide +kernel
theorem dX0_sumUnsaidByGuests_20 : decode cX0_sumUnsaidByGuests 20 = .ok (.istore_n 1, 1) := by decide +kernel
theorem dX0_sumUnsaidByGuests_21 : decode cX0_sumUnsaidByGuests 21 = .ok (.iinc 2 1, 3) := by decide +kernel
theorem dX0_sumUnsaidByGuests_24 : decode cX0_sumUnsaidByGuests 24 = .ok (.goto (-20), 3) := by decide +kernel
theorem dX0_sumUnsaidByGuests_27 : decode cX0_sumUnsaidByGuests 27 = .ok (.iload_n 1, 1) := by decide +kernel
theorem dX0_sumUnsaidByGuests_28 : decode cX0_sumUnsaidByGuests 28 = .ok (.ireturn, 1) := by decide +kernel
set_option maxRecDepth 20000 in
theorem ggX0_sumUnsaid_X0_sumUnsaidByGuests : GoodIn wsX0_sumUnsaid wsX0_sumUnsaidByGuests := goodIn_r _ [6, 7, 8, 9, 10, 11, 12, 13, 14, 15, 16, 17, 18, 19, 20, 21, 22, 23, 24, 25] (by decide +kernel) (by decide +kernel)
set_option maxRecDepth 20000 in
theorem gX0_sumUnsaid_X0_sumUnsaidByGuests : GoodIn wsX0_sumUnsaid (wsV RX0 128 RX0 yX0_sumUnsaidByGuests wsX0_sumUnsaidByGuests) := goodIn_app (goodIn_of _ (by decide +kernel)) ggX0_sumUnsaid_X0_sumUnsaidByGuests
theorem dX0_sumUnsaid_0 : decode cX0_sumUnsaid 0 = .ok (.aload_n 0, 1) := by decide +kernel
theorem dX0_sumUnsaid_1 : decode cX0_sumUnsaid 1 = .ok (.invokevirtual 128, 3) := by decide +kernel
theorem dX0_sumUnsaid_4 : decode cX0_sumUnsaid 4 = .ok (.aload_n 0, 1) := by decide +kernel
theorem dX0_sumUnsaid_5 : decode cX0_sumUnsaid 5 = .ok (.getfield 56, 3) := by decide +kernel
theorem dX0_sumUnsaid_8 : decode cX0_sumUnsaid 8 = .ok (.iadd, 1) := by decide +kernel
theorem dX0_sumUnsaid_9 : decode cX0_sumUnsaid 9 = .ok (.ireturn, 1) := by decide +kernel
set_option maxRecDepth 20000 in
theorem ggX0_rate_X0_sumUnsaid : GoodIn wsX0_rate wsX0_sumUnsaid := goodIn_r _ [13, 14, 15, 16, 17, 12, 18, 1, 19, 20, 21, 22, 23, 24, 25, 26, 27, 28, 29, 30, 31, 32, 33, 34, 35, 36] (by decide +kernel) (by decide +kernel)
set_option maxRecDepth 20000 in
theorem gX0_rate_X0_sumUnsaid : GoodIn wsX0_rate (wsV RX0 132 RX0 yX0_sumUnsaid wsX0_sumUnsaid) := goodIn_app (goodIn_of _ (by decide +kernel)) ggX0_rate_X0_sumUnsaid
theorem dX0_rate_0 : decode cX0_rate 0 = .ok (.aload_n 0, 1) := by decide +kernel
theorem dX0_rate_1 : decode cX0_rate 1 = .ok (.getfield 41, 3) := by decide +kernel
theorem dX0_rate_4 : decode cX0_rate 4 = .ok (.ifCond .le 15, 3) := by decide +kernel
theorem dX0_rate_7 : decode cX0_rate 7 = .ok (.aload_n 0, 1) := by decide +kernel
theorem dX0_rate_8 : decode cX0_rate 8 = .ok (.invokevirtual 132, 3) := by decide +kernel
theorem dX0_rate_11 : decode cX0_rate 11 = .ok (.aload_n 0, 1) := by decide +kernel
theorem dX0_rate_12 : decode cX0_rate 12 = .ok (.getfield 41, 3) := by decide +kernel
theorem dX0_rate_15 : decode cX0_rate 15 = .ok (.idiv, 1) := by decide +kernel
theorem dX0_rate_16 : decode cX0_rate 16 = .ok (.goto 4, 3) := by decide +kernel
theorem dX0_rate_19 : decode cX0_rate 19 = .ok (.iconst 0, 1) := by decide +kernel
theorem dX0_rate_20 : decode cX0_rate 20 = .ok (.istore_n 1, 1) := by decide +kernel
theorem dX0_rate_21 : decode cX0_rate 21 = .ok (.iconst 0, 1) := by decide +kernel
theorem dX0_rate_22 : decode cX0_rate 22 = .ok (.bipush 10, 2) := by decide +kernel
theorem dX0_rate_24 : decode cX0_rate 24 = .ok (.iload_n 1, 1) := by decide +kernel
theorem dX0_rate_25 : decode cX0_rate 25 = .ok (.iconst 4, 1) := by decide +kernel
theorem dX0_rate_26 : decode cX0_rate 26 = .ok (.isub, 1) := by decide +kernel
theorem dX0_rate_27 : decode cX0_rate 27 = .ok (.invokestatic 114, 3) := by decide +kernel
theorem dX0_rate_30 : decode cX0_rate 30 = .ok (.isub, 1) := by decide +kernel
theorem dX0_rate_31 : decode cX0_rate 31 = .ok (.invokestatic 135, 3) := by decide +kernel
theorem dX0_rate_34 : decode cX0_rate 34 = .ok (.ireturn, 1) := by decide +kernel
theorem dJ9_abs_0f7a4_0 : decode cJ9_abs_0f7a4 0 = .ok (.iload_n 0, 1) := by decide +kernel
theorem dJ9_abs_0f7a4_1 : decode cJ9_abs_0f7a4 1 = .ok (.ifCond .ge 8, 3) := by decide +kernel
theorem dJ9_abs_0f7a4_4 : decode cJ9_abs_0f7a4 4 = .ok (.iload_n 0, 1) := by decide +kernel
theorem dJ9_abs_0f7a4_5 : decode cJ9_abs_0f7a4 5 = .ok (.ineg, 1) := by decide +kernel
theorem dJ9_abs_0f7a4_6 : decode cJ9_abs_0f7a4 6 = .ok (.goto 4, 3) := by decide +kernel
theorem dJ9_abs_0f7a4_9 : decode cJ9_abs_0f7a4 9 = .ok (.iload_n 0, 1) := by decide +kernel
theorem dJ9_abs_0f7a4_10 : decode cJ9_abs_0f7a4 10 = .ok (.ireturn, 1) := by decide +kernel
theorem dJ9_max_7cf53_0 : decode cJ9_max_7cf53 0 = .ok (.iload_n 0, 1) := by decide +kernel
theorem dJ9_max_7cf53_1 : decode cJ9_max_7cf53 1 = .ok (.iload_n 1, 1) := by decide +kernel
theorem dJ9_max_7cf53_2 : decode cJ9_max_7cf53 2 = .ok (.if_icmp .lt 7, 3) := by decide +kernel
theorem dJ9_max_7cf53_5 : decode cJ9_max_7cf53 5 = .ok (.iload_n 0, 1) := by decide +kernel
theorem dJ9_max_7cf53_6 : decode cJ9_max_7cf53 6 = .ok (.goto 4, 3) := by decide +kernel
theorem dJ9_max_7cf53_9 : decode cJ9_max_7cf53 9 = .ok (.iload_n 1, 1) := by decide +kernel
theorem dJ9_max_7cf53_10 : decode cJ9_max_7cf53 10 = .ok (.ireturn, 1) := by decide +kernel
theorem dJ9_min_7cf53_0 : decode cJ9_min_7cf53 0 = .ok (.iload_n 0, 1) := by decide +kernel
theorem dJ9_min_7cf53_1 : decode cJ9_min_7cf53 1 = .ok (.iload_n 1, 1) := by decide +kernel
theorem dJ9_min_7cf53_2 : decode cJ9_min_7cf53 2 = .ok (.if_icmp .gt 7, 3) := by decide +kernel
theorem dJ9_min_7cf53_5 : decode cJ9_min_7cf53 5 = .ok (.iload_n 0, 1) := by decide +kernel
theorem dJ9_min_7cf53_6 : decode cJ9_min_7cf53 6 = .ok (.goto 4, 3) := by decide +kernel
theorem dJ9_min_7cf53_9 : decode cJ9_min_7cf53 9 = .ok (.iload_n 1, 1) := by decide +kernel
theorem dJ9_min_7cf53_10 : decode cJ9_min_7cf53 10 = .ok (.ireturn, 1) := by decide +kernel
theorem dJ7_fill_53178_0 : decode cJ7_fill_53178 0 = .ok (.iconst 0, 1) := by decide +kernel
theorem dJ7_fill_53178_1 : decode cJ7_fill_53178 1 = .ok (.istore_n 2, 1) := by decide +kernel
theorem dJ7_fill_53178_2 : decode cJ7_fill_53178 2 = .ok (.aload_n 0, 1) := by decide +kernel
theorem dJ7_fill_53178_3 : decode cJ7_fill_53178 3 = .ok (.arraylength, 1) := by decide +kernel
theorem dJ7_fill_53178_4 : decode cJ7_fill_53178 4 = .ok (.istore_n 3, 1) := by decide +kernel
theorem dJ7_fill_53178_5 : decode cJ7_fill_53178 5 = .ok (.iload_n 2, 1) := by decide +kernel
theorem dJ7_fill_53178_6 : decode cJ7_fill_53178 6 = .ok (.iload_n 3, 1) := by decide +kernel
theorem dJ7_fill_53178_7 : decode cJ7_fill_53178 7 = .ok (.if_icmp .ge 13, 3) := by decide +kernel
theorem dJ7_fill_53178_10 : decode cJ7_fill_53178 10 = .ok (.aload_n 0, 1) := by decide +kernel
theorem dJ7_fill_53178_11 : decode cJ7_fill_53178 11 = .ok (.iload_n 2, 1) := by decide +kernel
theorem dJ7_fill_53178_12 : decode cJ7_fill_53178 12 = .ok (.iload_n 1, 1) := by decide +kernel
theorem dJ7_fill_53178_13 : decode cJ7_fill_53178 13 = .ok (.iastore, 1) := by decide +kernel
theorem dJ7_fill_53178_14 : decode cJ7_fill_53178 14 = .ok (.iinc 2 1, 3) := by decide +kernel
theorem dJ7_fill_53178_17 : decode cJ7_fill_53178 17 = .ok (.goto (-12), 3) := by decide +kernel
theorem dJ7_fill_53178_20 : decode cJ7_fill_53178 20 = .ok (.return_, 1) := by decide +kernel
