theorem dX2_init_0 : decode cX2_init 0 = .ok (.aload_n 0, 1) := by decide +kernel
theorem dX2_init_1 : decode cX2_init 1 = .ok (.invokespecial 1, 3) := by decide +kernel
theorem dX2_init_4 : decode cX2_init 4 = .ok (.aload_n 0, 1) := by decide +kernel
theorem dX2_init_5 : decode cX2_init 5 = .ok (.iconst 5, 1) := by decide +kernel
theorem dX2_init_6 : decode cX2_init 6 = .ok (.putfield 7, 3) := by decide +kernel
theorem dX2_init_9 : decode cX2_init 9 = .ok (.aload_n 0, 1) := by decide +kernel
theorem dX2_init_10 : decode cX2_init 10 = .ok (.iconst (-1), 1) := by decide +kernel
theorem dX2_init_11 : decode cX2_init 11 = .ok (.putfield 13, 3) := by decide +kernel
theorem dX2_init_14 : decode cX2_init 14 = .ok (.aload_n 0, 1) := by decide +kernel
theorem dX2_init_15 : decode cX2_init 15 = .ok (.iconst 0, 1) := by decide +kernel
theorem dX2_init_16 : decode cX2_init 16 = .ok (.anewarray 16, 3) := by decide +kernel
theorem dX2_init_19 : decode cX2_init 19 = .ok (.putfield 18, 3) := by decide +kernel
theorem dX2_init_22 : decode cX2_init 22 = .ok (.aload_n 0, 1) := by decide +kernel
theorem dX2_init_23 : decode cX2_init 23 = .ok (.iload_n 1, 1) := by decide +kernel
theorem dX2_init_24 : decode cX2_init 24 = .ok (.putfield 22, 3) := by decide +kernel
theorem dX2_init_27 : decode cX2_init 27 = .ok (.aload_n 0, 1) := by decide +kernel
theorem dX2_init_28 : decode cX2_init 28 = .ok (.iload_n 1, 1) := by decide +kernel
theorem dX2_init_29 : decode cX2_init 29 = .ok (.newarray .int, 2) := by decide +kernel
theorem dX2_init_31 : decode cX2_init 31 = .ok (.putfield 25, 3) := by decide +kernel
theorem dX2_init_34 : decode cX2_init 34 = .ok (.aload_n 0, 1) := by decide +kernel
theorem dX2_init_35 : decode cX2_init 35 = .ok (.iload_n 1, 1) := by decide +kernel
theorem dX2_init_36 : decode cX2_init 36 = .ok (.newarray .int, 2) := by decide +kernel
theorem dX2_init_38 : decode cX2_init 38 = .ok (.putfield 28, 3) := by decide +kernel
theorem dX2_init_41 : decode cX2_init 41 = .ok (.aload_n 0, 1) := by decide +kernel
theorem dX2_init_42 : decode cX2_init 42 = .ok (.iload_n 1, 1) := by decide +kernel
theorem dX2_init_43 : decode cX2_init 43 = .ok (.newarray .int, 2) := by decide +kernel
theorem dX2_init_45 : decode cX2_init 45 = .ok (.putfield 31, 3) := by decide +kernel
theorem dX2_init_48 : decode cX2_init 48 = .ok (.aload_n 0, 1) := by decide +kernel
theorem dX2_init_49 : decode cX2_init 49 = .ok (.iload_n 1, 1) := by decide +kernel
theorem dX2_init_50 : decode cX2_init 50 = .ok (.newarray .int, 2) := by decide +kernel
theorem dX2_init_52 : decode cX2_init 52 = .ok (.putfield 34, 3) := by decide +kernel
theorem dX2_init_55 : decode cX2_init 55 = .ok (.aload_n 0, 1) := by decide +kernel
theorem dX2_init_56 : decode cX2_init 56 = .ok (.iload_n 1, 1) := by decide +kernel
theorem dX2_init_57 : decode cX2_init 57 = .ok (.iload_n 1, 1) := by decide +kernel
theorem dX2_init_58 : decode cX2_init 58 = .ok (.multianewarray 37 2, 4) := by decide +kernel
theorem dX2_init_62 : decode cX2_init 62 = .ok (.putfield 38, 3) := by decide +kernel
theorem dX2_init_65 : decode cX2_init 65 = .ok (.return_, 1) := by decide +kernel
theorem dX2_apart_0 : decode cX2_apart 0 = .ok (.iconst 0, 1) := by decide +kernel
theorem dX2_apart_1 : decode cX2_apart 1 = .ok (.istore_n 3, 1) := by decide +kernel
theorem dX2_apart_2 : decode cX2_apart 2 = .ok (.iload_n 1, 1) := by decide +kernel
theorem dX2_apart_3 : decode cX2_apart 3 = .ok (.iload_n 3, 1) := by decide +kernel
theorem dX2_apart_4 : decode cX2_apart 4 = .ok (.iadd, 1) := by decide +kernel
theorem dX2_apart_5 : decode cX2_apart 5 = .ok (.aload_n 0, 1) := by decide +kernel
theorem dX2_apart_6 : decode cX2_apart 6 = .ok (.getfield 22, 3) := by decide +kernel
theorem dX2_apart_9 : decode cX2_apart 9 = .ok (.irem, 1) := by decide +kernel
theorem dX2_apart_10 : decode cX2_apart 10 = .ok (.iload_n 2, 1) := by decide +kernel
theorem dX2_apart_11 : decode cX2_apart 11 = .ok (.if_icmp .eq 21, 3) := by decide +kernel
theorem dX2_apart_14 : decode cX2_apart 14 = .ok (.iload_n 2, 1) := by decide +kernel
theorem dX2_apart_15 : decode cX2_apart 15 = .ok (.iload_n 3, 1) := by decide +kernel
theorem dX2_apart_16 : decode cX2_apart 16 = .ok (.iadd, 1) := by decide +kernel
theorem dX2_apart_17 : decode cX2_apart 17 = .ok (.aload_n 0, 1) := by decide +kernel
theorem dX2_apart_18 : decode cX2_apart 18 = .ok (.getfield 22, 3) := by decide +kernel
theorem dX2_apart_21 : decode cX2_apart 21 = .ok (.irem, 1) := by decide +kernel
theorem dX2_apart_22 : decode cX2_apart 22 = .ok (.iload_n 1, 1) := by decide +kernel
theorem dX2_apart_23 : decode cX2_apart 23 = .ok (.if_icmp .eq 9, 3) := by decide +kernel
theorem dX2_apart_26 : decode cX2_apart 26 = .ok (.iinc 3 1, 3) := by decide +kernel
theorem dX2_apart_29 : decode cX2_apart 29 = .ok (.goto (-27), 3) := by decide +kernel
theorem dX2_apart_32 : decode cX2_apart 32 = .ok (.iload_n 3, 1) := by decide +kernel
theorem dX2_apart_33 : decode cX2_apart 33 = .ok (.ireturn, 1) := by decide +kernel
theorem dX2_all_0 : decode cX2_all 0 = .ok (.aload_n 0, 1) := by decide +kernel
theorem dX2_all_1 : decode cX2_all 1 = .ok (.getfield 53, 3) := by decide +kernel
theorem dX2_all_4 : decode cX2_all 4 = .ok (.istore_n 1, 1) := by decide +kernel
theorem dX2_all_5 : decode cX2_all 5 = .ok (.aload_n 0, 1) := by decide +kernel
theorem dX2_all_6 : decode cX2_all 6 = .ok (.getfield 34, 3) := by decide +kernel
theorem dX2_all_9 : decode cX2_all 9 = .ok (.astore_n 2, 1) := by decide +kernel
theorem dX2_all_10 : decode cX2_all 10 = .ok (.aload_n 2, 1) := by decide +kernel
theorem dX2_all_11 : decode cX2_all 11 = .ok (.arraylength, 1) := by decide +kernel
theorem dX2_all_12 : decode cX2_all 12 = .ok (.istore_n 3, 1) := by decide +kernel
theorem dX2_all_13 : decode cX2_all 13 = .ok (.iconst 0, 1) := by decide +kernel
theorem dX2_all_14 : decode cX2_all 14 = .ok (.istore 4, 2) := by decide +kernel
theorem dX2_all_16 : decode cX2_all 16 = .ok (.iload 4, 2) := by decide +kernel
theorem dX2_all_18 : decode cX2_all 18 = .ok (.iload_n 3, 1) := by decide +kernel
theorem dX2_all_19 : decode cX2_all 19 = .ok (.if_icmp .ge 20, 3) := by decide +kernel
theorem dX2_all_22 : decode cX2_all 22 = .ok (.aload_n 2, 1) := by decide +kernel
theorem dX2_all_23 : decode cX2_all 23 = .ok (.iload 4, 2) := by decide +kernel
theorem dX2_all_25 : decode cX2_all 25 = .ok (.iaload, 1) := by decide +kernel
theorem dX2_all_26 : decode cX2_all 26 = .ok (.istore 5, 2) := by decide +kernel
theorem dX2_all_28 : decode cX2_all 28 = .ok (.iload_n 1, 1) := by decide +kernel
theorem dX2_all_29 : decode cX2_all 29 = .ok (.iload 5, 2) := by decide +kernel
theorem dX2_all_31 : decode cX2_all 31 = .ok (.iadd, 1) := by decide +kernel
theorem dX2_all_32 : decode cX2_all 32 = .ok (.istore_n 1, 1) := by decide +kernel
theorem dX2_all_33 : decode cX2_all 33 = .ok (.iinc 4 1, 3) := by decide +kernel
theorem dX2_all_36 : decode cX2_all 36 = .ok (.goto (-20), 3) := by decide +kernel
theorem dX2_all_39 : decode cX2_all 39 = .ok (.iload_n 1, 1) := by decide +kernel
theorem dX2_all_40 : decode cX2_all 40 = .ok (.ireturn, 1) := by decide +kernel
set_option maxRecDepth 20000 in
theorem ggX2_rated_X2_all : GoodIn wsX2_rated wsX2_all := goodIn_r _ [6, 7, 8, 9, 10, 11, 12, 13, 14, 15, 16, 17, 18, 19, 20, 21, 22, 23] (by decide +kernel) (by decide +kernel)
set_option maxRecDepth 20000 in
theorem gX2_rated_X2_all : GoodIn wsX2_rated (wsV RX2 66 RX2 yX2_all wsX2_all) := goodIn_app (goodIn_of _ (by decide +kernel)) ggX2_rated_X2_all
theorem dX2_rated_0 : decode cX2_rated 0 = .ok (.aload_n 0, 1) := by decide +kernel
theorem dX2_rated_1 : decode cX2_rated 1 = .ok (.invokevirtual 66, 3) := by decide +kernel
theorem dX2_rated_4 : decode cX2_rated 4 = .ok (.aload_n 0, 1) := by decide +kernel
theorem dX2_rated_5 : decode cX2_rated 5 = .ok (.getfield 22, 3) := by decide +kernel
theorem dX2_rated_8 : decode cX2_rated 8 = .ok (.idiv, 1) := by decide +kernel
theorem dX2_rated_9 : decode cX2_rated 9 = .ok (.istore_n 1, 1) := by decide +kernel
theorem dX2_rated_10 : decode cX2_rated 10 = .ok (.iload_n 1, 1) := by decide +kernel
theorem dX2_rated_11 : decode cX2_rated 11 = .ok (.iconst 4, 1) := by decide +kernel
theorem dX2_rated_12 : decode cX2_rated 12 = .ok (.if_icmp .ge 10, 3) := by decide +kernel
theorem dX2_rated_15 : decode cX2_rated 15 = .ok (.bipush 6, 2) := by decide +kernel
theorem dX2_rated_17 : decode cX2_rated 17 = .ok (.iload_n 1, 1) := by decide +kernel
theorem dX2_rated_18 : decode cX2_rated 18 = .ok (.iadd, 1) := by decide +kernel
theorem dX2_rated_19 : decode cX2_rated 19 = .ok (.goto 7, 3) := by decide +kernel
theorem dX2_rated_22 : decode cX2_rated 22 = .ok (.bipush 14, 2) := by decide +kernel
theorem dX2_rated_24 : decode cX2_rated 24 = .ok (.iload_n 1, 1) := by decide +kernel
theorem dX2_rated_25 : decode cX2_rated 25 = .ok (.isub, 1) := by decide +kernel
theorem dX2_rated_26 : decode cX2_rated 26 = .ok (.istore_n 2, 1) := by decide +kernel
theorem dX2_rated_27 : decode cX2_rated 27 = .ok (.iload_n 2, 1) := by decide +kernel
theorem dX2_rated_28 : decode cX2_rated 28 = .ok (.ifCond .ge 7, 3) := by decide +kernel
theorem dX2_rated_31 : decode cX2_rated 31 = .ok (.iconst 0, 1) := by decide +kernel
theorem dX2_rated_32 : decode cX2_rated 32 = .ok (.goto 4, 3) := by decide +kernel
theorem dX2_rated_35 : decode cX2_rated 35 = .ok (.iload_n 2, 1) := by decide +kernel
theorem dX2_rated_36 : decode cX2_rated 36 = .ok (.ireturn, 1) := by decide +kernel
theorem dX2_find_0 : decode cX2_find 0 = .ok (.iconst 0, 1) := by decide +kernel
theorem dX2_find_1 : decode cX2_find 1 = .ok (.istore_n 3, 1) := by decide +kernel
theorem dX2_find_2 : decode cX2_find 2 = .ok (.iload_n 3, 1) := by decide +kernel
theorem dX2_find_3 : decode cX2_find 3 = .ok (.aload_n 0, 1) := by decide +kernel
theorem dX2_find_4 : decode cX2_find 4 = .ok (.getfield 18, 3) := by decide +kernel
theorem dX2_find_7 : decode cX2_find 7 = .ok (.arraylength, 1) := by decide +kernel
theorem dX2_find_8 : decode cX2_find 8 = .ok (.if_icmp .ge 46, 3) := by decide +kernel
theorem dX2_find_11 : decode cX2_find 11 = .ok (.aload_n 0, 1) := by decide +kernel
theorem dX2_find_12 : decode cX2_find 12 = .ok (.getfield 18, 3) := by decide +kernel
theorem dX2_find_15 : decode cX2_find 15 = .ok (.iload_n 3, 1) := by decide +kernel
theorem dX2_find_16 : decode cX2_find 16 = .ok (.aaload, 1) := by decide +kernel
theorem dX2_find_17 : decode cX2_find 17 = .ok (.iconst 0, 1) := by decide +kernel
theorem dX2_find_18 : decode cX2_find 18 = .ok (.iaload, 1) := by decide +kernel
theorem dX2_find_19 : decode cX2_find 19 = .ok (.iload_n 1, 1) := by decide +kernel
theorem dX2_find_20 : decode cX2_find 20 = .ok (.if_icmp .ne 28, 3) := by decide +kernel
theorem dX2_find_23 : decode cX2_find 23 = .ok (.aload_n 0, 1) := by decide +kernel
theorem dX2_find_24 : decode cX2_find 24 = .ok (.getfield 18, 3) := by decide +kernel
theorem dX2_find_27 : decode cX2_find 27 = .ok (.iload_n 3, 1) := by decide +kernel
theorem dX2_find_28 : decode cX2_find 28 = .ok (.aaload, 1) := by decide +kernel
theorem dX2_find_29 : decode cX2_find 29 = .ok (.iconst 1, 1) := by decide +kernel
theorem dX2_find_30 : decode cX2_find 30 = .ok (.iaload, 1) := by decide +kernel
theorem dX2_find_31 : decode cX2_find 31 = .ok (.iload_n 2, 1) := by decide +kernel
theorem dX2_find_32 : decode cX2_find 32 = .ok (.if_icmp .ne 16, 3) := by decide +kernel
theorem dX2_find_35 : decode cX2_find 35 = .ok (.aload_n 0, 1) := by decide +kernel
theorem dX2_find_36 : decode cX2_find 36 = .ok (.getfield 18, 3) := by decide +kernel
theorem dX2_find_39 : decode cX2_find 39 = .ok (.iload_n 3, 1) := by decide +kernel
theorem dX2_find_40 : decode cX2_find 40 = .ok (.aaload, 1) := by decide +kernel
theorem dX2_find_41 : decode cX2_find 41 = .ok (.iconst 2, 1) := by decide +kernel
theorem dX2_find_42 : decode cX2_find 42 = .ok (.iaload, 1) := by decide +kernel
theorem dX2_find_43 : decode cX2_find 43 = .ok (.ifCond .lt 5, 3) := by decide +kernel
theorem dX2_find_46 : decode cX2_find 46 = .ok (.iload_n 3, 1) := by decide +kernel
theorem dX2_find_47 : decode cX2_find 47 = .ok (.ireturn, 1) := by decide +kernel
theorem dX2_find_48 : decode cX2_find 48 = .ok (.iinc 3 1, 3) := by decide +kernel
theorem dX2_find_51 : decode cX2_find 51 = .ok (.goto (-49), 3) := by decide +kernel
theorem dX2_find_54 : decode cX2_find 54 = .ok (.iconst (-1), 1) := by decide +kernel
theorem dX2_find_55 : decode cX2_find 55 = .ok (.ireturn, 1) := by decide +kernel
set_option maxRecDepth 20000 in
theorem ggX2_send_X2_apart : GoodIn wsX2_send wsX2_apart := goodIn_r _ [8, 9, 10, 11, 12, 13, 14, 15, 16, 17, 18, 19, 20, 21, 22, 23, 24] (by decide +kernel) (by decide +kernel)
set_option maxRecDepth 20000 in
theorem gX2_send_X2_apart : GoodIn wsX2_send (wsV RX2 70 RX2 yX2_apart wsX2_apart) := goodIn_app (goodIn_of _ (by decide +kernel)) ggX2_send_X2_apart
theorem dX2_send_0 : decode cX2_send 0 = .ok (.iconst 0, 1) := by decide +kernel
theorem dX2_send_1 : decode cX2_send 1 = .ok (.istore_n 3, 1) := by decide +kernel
theorem dX2_send_2 : decode cX2_send 2 = .ok (.aload_n 0, 1) := by decide +kernel
theorem dX2_send_3 : decode cX2_send 3 = .ok (.getfield 18, 3) := by decide +kernel
theorem dX2_send_6 : decode cX2_send 6 = .ok (.astore 4, 2) := by decide +kernel
theorem dX2_send_8 : decode cX2_send 8 = .ok (.aload 4, 2) := by decide +kernel
theorem dX2_send_10 : decode cX2_send 10 = .ok (.arraylength, 1) := by decide +kernel
theorem dX2_send_11 : decode cX2_send 11 = .ok (.istore 5, 2) := by decide +kernel
theorem dX2_send_13 : decode cX2_send 13 = .ok (.iconst 0, 1) := by decide +kernel
theorem dX2_send_14 : decode cX2_send 14 = .ok (.istore 6, 2) := by decide +kernel
theorem dX2_send_16 : decode cX2_send 16 = .ok (.iload 6, 2) := by decide +kernel
theorem dX2_send_18 : decode cX2_send 18 = .ok (.iload 5, 2) := by decide +kernel
theorem dX2_send_20 : decode cX2_send 20 = .ok (.if_icmp .ge 31, 3) := by decide +kernel
theorem dX2_send_23 : decode cX2_send 23 = .ok (.aload 4, 2) := by decide +kernel
theorem dX2_send_25 : decode cX2_send 25 = .ok (.iload 6, 2) := by decide +kernel
theorem dX2_send_27 : decode cX2_send 27 = .ok (.aaload, 1) := by decide +kernel
theorem dX2_send_28 : decode cX2_send 28 = .ok (.astore 7, 2) := by decide +kernel
theorem dX2_send_30 : decode cX2_send 30 = .ok (.iload_n 3, 1) := by decide +kernel
theorem dX2_send_31 : decode cX2_send 31 = .ok (.aload 7, 2) := by decide +kernel
theorem dX2_send_33 : decode cX2_send 33 = .ok (.iconst 2, 1) := by decide +kernel
theorem dX2_send_34 : decode cX2_send 34 = .ok (.iaload, 1) := by decide +kernel
theorem dX2_send_35 : decode cX2_send 35 = .ok (.ifCond .lt 7, 3) := by decide +kernel
theorem dX2_send_38 : decode cX2_send 38 = .ok (.iconst 1, 1) := by decide +kernel
theorem dX2_send_39 : decode cX2_send 39 = .ok (.goto 4, 3) := by decide +kernel
theorem dX2_send_42 : decode cX2_send 42 = .ok (.iconst 0, 1) := by decide +kernel
theorem dX2_send_43 : decode cX2_send 43 = .ok (.iadd, 1) := by decide +kernel
theorem dX2_send_44 : decode cX2_send 44 = .ok (.istore_n 3, 1) := by decide +kernel
theorem dX2_send_45 : decode cX2_send 45 = .ok (.iinc 6 1, 3) := by decide +kernel
theorem dX2_send_48 : decode cX2_send 48 = .ok (.goto (-32), 3) := by decide +kernel
theorem dX2_send_51 : decode cX2_send 51 = .ok (.iload_n 3, 1) := by decide +kernel
theorem dX2_send_52 : decode cX2_send 52 = .ok (.iconst 1, 1) := by decide +kernel
theorem dX2_send_53 : decode cX2_send 53 = .ok (.iadd, 1) := by decide +kernel
theorem dX2_send_54 : decode cX2_send 54 = .ok (.anewarray 16, 3) := by decide +kernel
theorem dX2_send_57 : decode cX2_send 57 = .ok (.astore 4, 2) := by decide +kernel
theorem dX2_send_59 : decode cX2_send 59 = .ok (.iconst 0, 1) := by decide +kernel
theorem dX2_send_60 : decode cX2_send 60 = .ok (.istore 5, 2) := by decide +kernel
theorem dX2_send_62 : decode cX2_send 62 = .ok (.aload_n 0, 1) := by decide +kernel
theorem dX2_send_63 : decode cX2_send 63 = .ok (.getfield 18, 3) := by decide +kernel
theorem dX2_send_66 : decode cX2_send 66 = .ok (.astore 6, 2) := by decide +kernel
theorem dX2_send_68 : decode cX2_send 68 = .ok (.aload 6, 2) := by decide +kernel
theorem dX2_send_70 : decode cX2_send 70 = .ok (.arraylength, 1) := by decide +kernel
theorem dX2_send_71 : decode cX2_send 71 = .ok (.istore 7, 2) := by decide +kernel
theorem dX2_send_73 : decode cX2_send 73 = .ok (.iconst 0, 1) := by decide +kernel
theorem dX2_send_74 : decode cX2_send 74 = .ok (.istore 8, 2) := by decide +kernel
theorem dX2_send_76 : decode cX2_send 76 = .ok (.iload 8, 2) := by decide +kernel
theorem dX2_send_78 : decode cX2_send 78 = .ok (.iload 7, 2) := by decide +kernel
theorem dX2_send_80 : decode cX2_send 80 = .ok (.if_icmp .ge 36, 3) := by decide +kernel
theorem dX2_send_83 : decode cX2_send 83 = .ok (.aload 6, 2) := by decide +kernel
theorem dX2_send_85 : decode cX2_send 85 = .ok (.iload 8, 2) := by decide +kernel
theorem dX2_send_87 : decode cX2_send 87 = .ok (.aaload, 1) := by decide +kernel
theorem dX2_send_88 : decode cX2_send 88 = .ok (.astore 9, 2) := by decide +kernel
theorem dX2_send_90 : decode cX2_send 90 = .ok (.aload 9, 2) := by decide +kernel
theorem dX2_send_92 : decode cX2_send 92 = .ok (.iconst 2, 1) := by decide +kernel
theorem dX2_send_93 : decode cX2_send 93 = .ok (.iaload, 1) := by decide +kernel
theorem dX2_send_94 : decode cX2_send 94 = .ok (.ifCond .ge 6, 3) := by decide +kernel
theorem dX2_send_97 : decode cX2_send 97 = .ok (.goto 13, 3) := by decide +kernel
theorem dX2_send_100 : decode cX2_send 100 = .ok (.aload 4, 2) := by decide +kernel
theorem dX2_send_102 : decode cX2_send 102 = .ok (.iload 5, 2) := by decide +kernel
theorem dX2_send_104 : decode cX2_send 104 = .ok (.aload 9, 2) := by decide +kernel
theorem dX2_send_106 : decode cX2_send 106 = .ok (.aastore, 1) := by decide +kernel
theorem dX2_send_107 : decode cX2_send 107 = .ok (.iinc 5 1, 3) := by decide +kernel
theorem dX2_send_110 : decode cX2_send 110 = .ok (.iinc 8 1, 3) := by decide +kernel
theorem dX2_send_113 : decode cX2_send 113 = .ok (.goto (-37), 3) := by decide +kernel
theorem dX2_send_116 : decode cX2_send 116 = .ok (.aload 4, 2) := by decide +kernel
theorem dX2_send_118 : decode cX2_send 118 = .ok (.iload_n 3, 1) := by decide +kernel
theorem dX2_send_119 : decode cX2_send 119 = .ok (.iconst 3, 1) := by decide +kernel
theorem dX2_send_120 : decode cX2_send 120 = .ok (.newarray .int, 2) := by decide +kernel
theorem dX2_send_122 : decode cX2_send 122 = .ok (.dup, 1) := by decide +kernel
theorem dX2_send_123 : decode cX2_send 123 = .ok (.iconst 0, 1) := by decide +kernel
theorem dX2_send_124 : decode cX2_send 124 = .ok (.iload_n 1, 1) := by decide +kernel
theorem dX2_send_125 : decode cX2_send 125 = .ok (.iastore, 1) := by decide +kernel
theorem dX2_send_126 : decode cX2_send 126 = .ok (.dup, 1) := by decide +kernel
theorem dX2_send_127 : decode cX2_send 127 = .ok (.iconst 1, 1) := by decide +kernel
theorem dX2_send_128 : decode cX2_send 128 = .ok (.iload_n 2, 1) := by decide +kernel
theorem dX2_send_129 : decode cX2_send 129 = .ok (.iastore, 1) := by decide +kernel
theorem dX2_send_130 : decode cX2_send 130 = .ok (.dup, 1) := by decide +kernel
theorem dX2_send_131 : decode cX2_send 131 = .ok (.iconst 2, 1) := by decide +kernel
theorem dX2_send_132 : decode cX2_send 132 = .ok (.iconst 2, 1) := by decide +kernel
theorem dX2_send_133 : decode cX2_send 133 = .ok (.aload_n 0, 1) := by decide +kernel
theorem dX2_send_134 : decode cX2_send 134 = .ok (.iload_n 1, 1) := by decide +kernel
theorem dX2_send_135 : decode cX2_send 135 = .ok (.iload_n 2, 1) := by decide +kernel
theorem dX2_send_136 : decode cX2_send 136 = .ok (.invokevirtual 70, 3) := by decide +kernel
theorem dX2_send_139 : decode cX2_send 139 = .ok (.imul, 1) := by decide +kernel
theorem dX2_send_140 : decode cX2_send 140 = .ok (.iastore, 1) := by decide +kernel
theorem dX2_send_141 : decode cX2_send 141 = .ok (.aastore, 1) := by decide +kernel
theorem dX2_send_142 : decode cX2_send 142 = .ok (.aload_n 0, 1) := by decide +kernel
theorem dX2_send_143 : decode cX2_send 143 = .ok (.aload 4, 2) := by decide +kernel
theorem dX2_send_145 : decode cX2_send 145 = .ok (.putfield 18, 3) := by decide +kernel
theorem dX2_send_148 : decode cX2_send 148 = .ok (.aload 4, 2) := by decide +kernel
theorem dX2_send_150 : decode cX2_send 150 = .ok (.iload_n 3, 1) := by decide +kernel
theorem dX2_send_151 : decode cX2_send 151 = .ok (.aaload, 1) := by decide +kernel
theorem dX2_send_152 : decode cX2_send 152 = .ok (.iconst 2, 1) := by decide +kernel
theorem dX2_send_153 : decode cX2_send 153 = .ok (.iaload, 1) := by decide +kernel
theorem dX2_send_154 : decode cX2_send 154 = .ok (.ireturn, 1) := by decide +kernel
set_option maxRecDepth 20000 in
theorem ggX2_pass_X2_find : GoodIn wsX2_pass wsX2_find := goodIn_r _ [17, 7, 18, 19, 20, 21, 22, 23, 24, 25, 26, 27, 28, 29, 30, 31, 32] (by decide +kernel) (by decide +kernel)
set_option maxRecDepth 20000 in
theorem gX2_pass_X2_find : GoodIn wsX2_pass (wsV RX2 74 RX2 yX2_find wsX2_find) := goodIn_app (goodIn_of _ (by decide +kernel)) ggX2_pass_X2_find
theorem dX2_pass_0 : decode cX2_pass 0 = .ok (.aload_n 0, 1) := by decide +kernel
theorem dX2_pass_1 : decode cX2_pass 1 = .ok (.getfield 13, 3) := by decide +kernel
theorem dX2_pass_4 : decode cX2_pass 4 = .ok (.ifCond .ge 38, 3) := by decide +kernel
theorem dX2_pass_7 : decode cX2_pass 7 = .ok (.aload_n 0, 1) := by decide +kernel
theorem dX2_pass_8 : decode cX2_pass 8 = .ok (.dup, 1) := by decide +kernel
theorem dX2_pass_9 : decode cX2_pass 9 = .ok (.getfield 50, 3) := by decide +kernel
theorem dX2_pass_12 : decode cX2_pass 12 = .ok (.iconst 1, 1) := by decide +kernel
theorem dX2_pass_13 : decode cX2_pass 13 = .ok (.iadd, 1) := by decide +kernel
theorem dX2_pass_14 : decode cX2_pass 14 = .ok (.putfield 50, 3) := by decide +kernel
theorem dX2_pass_17 : decode cX2_pass 17 = .ok (.aload_n 0, 1) := by decide +kernel
theorem dX2_pass_18 : decode cX2_pass 18 = .ok (.getfield 50, 3) := by decide +kernel
theorem dX2_pass_21 : decode cX2_pass 21 = .ok (.aload_n 0, 1) := by decide +kernel
theorem dX2_pass_22 : decode cX2_pass 22 = .ok (.getfield 7, 3) := by decide +kernel
theorem dX2_pass_25 : decode cX2_pass 25 = .ok (.irem, 1) := by decide +kernel
theorem dX2_pass_26 : decode cX2_pass 26 = .ok (.ifCond .ne 56, 3) := by decide +kernel
theorem dX2_pass_29 : decode cX2_pass 29 = .ok (.aload_n 0, 1) := by decide +kernel
theorem dX2_pass_30 : decode cX2_pass 30 = .ok (.dup, 1) := by decide +kernel
theorem dX2_pass_31 : decode cX2_pass 31 = .ok (.getfield 53, 3) := by decide +kernel
theorem dX2_pass_34 : decode cX2_pass 34 = .ok (.iconst 1, 1) := by decide +kernel
theorem dX2_pass_35 : decode cX2_pass 35 = .ok (.iadd, 1) := by decide +kernel
theorem dX2_pass_36 : decode cX2_pass 36 = .ok (.putfield 53, 3) := by decide +kernel
theorem dX2_pass_39 : decode cX2_pass 39 = .ok (.goto 43, 3) := by decide +kernel
theorem dX2_pass_42 : decode cX2_pass 42 = .ok (.aload_n 0, 1) := by decide +kernel
theorem dX2_pass_43 : decode cX2_pass 43 = .ok (.iconst 0, 1) := by decide +kernel
theorem dX2_pass_44 : decode cX2_pass 44 = .ok (.putfield 50, 3) := by decide +kernel
theorem dX2_pass_47 : decode cX2_pass 47 = .ok (.aload_n 0, 1) := by decide +kernel
theorem dX2_pass_48 : decode cX2_pass 48 = .ok (.getfield 25, 3) := by decide +kernel
theorem dX2_pass_51 : decode cX2_pass 51 = .ok (.aload_n 0, 1) := by decide +kernel
theorem dX2_pass_52 : decode cX2_pass 52 = .ok (.getfield 13, 3) := by decide +kernel
theorem dX2_pass_55 : decode cX2_pass 55 = .ok (.dup2, 1) := by decide +kernel
theorem dX2_pass_56 : decode cX2_pass 56 = .ok (.iaload, 1) := by decide +kernel
theorem dX2_pass_57 : decode cX2_pass 57 = .ok (.iconst 1, 1) := by decide +kernel
theorem dX2_pass_58 : decode cX2_pass 58 = .ok (.iadd, 1) := by decide +kernel
theorem dX2_pass_59 : decode cX2_pass 59 = .ok (.iastore, 1) := by decide +kernel
theorem dX2_pass_60 : decode cX2_pass 60 = .ok (.aload_n 0, 1) := by decide +kernel
theorem dX2_pass_61 : decode cX2_pass 61 = .ok (.dup, 1) := by decide +kernel
theorem dX2_pass_62 : decode cX2_pass 62 = .ok (.getfield 47, 3) := by decide +kernel
theorem dX2_pass_65 : decode cX2_pass 65 = .ok (.iconst 1, 1) := by decide +kernel
theorem dX2_pass_66 : decode cX2_pass 66 = .ok (.isub, 1) := by decide +kernel
theorem dX2_pass_67 : decode cX2_pass 67 = .ok (.putfield 47, 3) := by decide +kernel
theorem dX2_pass_70 : decode cX2_pass 70 = .ok (.aload_n 0, 1) := by decide +kernel
theorem dX2_pass_71 : decode cX2_pass 71 = .ok (.getfield 47, 3) := by decide +kernel
theorem dX2_pass_74 : decode cX2_pass 74 = .ok (.ifCond .ne 8, 3) := by decide +kernel
theorem dX2_pass_77 : decode cX2_pass 77 = .ok (.aload_n 0, 1) := by decide +kernel
theorem dX2_pass_78 : decode cX2_pass 78 = .ok (.iconst (-1), 1) := by decide +kernel
theorem dX2_pass_79 : decode cX2_pass 79 = .ok (.putfield 13, 3) := by decide +kernel
theorem dX2_pass_82 : decode cX2_pass 82 = .ok (.aload_n 0, 1) := by decide +kernel
theorem dX2_pass_83 : decode cX2_pass 83 = .ok (.getfield 18, 3) := by decide +kernel
theorem dX2_pass_86 : decode cX2_pass 86 = .ok (.arraylength, 1) := by decide +kernel
theorem dX2_pass_87 : decode cX2_pass 87 = .ok (.ifCond .ne 7, 3) := by decide +kernel
theorem dX2_pass_90 : decode cX2_pass 90 = .ok (.aconst_null, 1) := by decide +kernel
theorem dX2_pass_91 : decode cX2_pass 91 = .ok (.goto 15, 3) := by decide +kernel
theorem dX2_pass_94 : decode cX2_pass 94 = .ok (.aload_n 0, 1) := by decide +kernel
theorem dX2_pass_95 : decode cX2_pass 95 = .ok (.getfield 18, 3) := by decide +kernel
theorem dX2_pass_98 : decode cX2_pass 98 = .ok (.aload_n 0, 1) := by decide +kernel
theorem dX2_pass_99 : decode cX2_pass 99 = .ok (.getfield 18, 3) := by decide +kernel
theorem dX2_pass_102 : decode cX2_pass 102 = .ok (.arraylength, 1) := by decide +kernel
theorem dX2_pass_103 : decode cX2_pass 103 = .ok (.iconst 1, 1) := by decide +kernel
theorem dX2_pass_104 : decode cX2_pass 104 = .ok (.isub, 1) := by decide +kernel
theorem dX2_pass_105 : decode cX2_pass 105 = .ok (.aaload, 1) := by decide +kernel
theorem dX2_pass_106 : decode cX2_pass 106 = .ok (.astore_n 1, 1) := by decide +kernel
theorem dX2_pass_107 : decode cX2_pass 107 = .ok (.iconst (-1), 1) := by decide +kernel
theorem dX2_pass_108 : decode cX2_pass 108 = .ok (.istore_n 2, 1) := by decide +kernel
theorem dX2_pass_109 : decode cX2_pass 109 = .ok (.aload_n 0, 1) := by decide +kernel
theorem dX2_pass_110 : decode cX2_pass 110 = .ok (.getfield 18, 3) := by decide +kernel
theorem dX2_pass_113 : decode cX2_pass 113 = .ok (.astore_n 3, 1) := by decide +kernel
theorem dX2_pass_114 : decode cX2_pass 114 = .ok (.aload_n 3, 1) := by decide +kernel
theorem dX2_pass_115 : decode cX2_pass 115 = .ok (.arraylength, 1) := by decide +kernel
theorem dX2_pass_116 : decode cX2_pass 116 = .ok (.istore 4, 2) := by decide +kernel
theorem dX2_pass_118 : decode cX2_pass 118 = .ok (.iconst 0, 1) := by decide +kernel
theorem dX2_pass_119 : decode cX2_pass 119 = .ok (.istore 5, 2) := by decide +kernel
theorem dX2_pass_121 : decode cX2_pass 121 = .ok (.iload 5, 2) := by decide +kernel
theorem dX2_pass_123 : decode cX2_pass 123 = .ok (.iload 4, 2) := by decide +kernel
theorem dX2_pass_125 : decode cX2_pass 125 = .ok (.if_icmp .ge 30, 3) := by decide +kernel
theorem dX2_pass_128 : decode cX2_pass 128 = .ok (.aload_n 3, 1) := by decide +kernel
theorem dX2_pass_129 : decode cX2_pass 129 = .ok (.iload 5, 2) := by decide +kernel
theorem dX2_pass_131 : decode cX2_pass 131 = .ok (.aaload, 1) := by decide +kernel
theorem dX2_pass_132 : decode cX2_pass 132 = .ok (.astore 6, 2) := by decide +kernel
theorem dX2_pass_134 : decode cX2_pass 134 = .ok (.aload 6, 2) := by decide +kernel
theorem dX2_pass_136 : decode cX2_pass 136 = .ok (.iconst 2, 1) := by decide +kernel
theorem dX2_pass_137 : decode cX2_pass 137 = .ok (.iaload, 1) := by decide +kernel
theorem dX2_pass_138 : decode cX2_pass 138 = .ok (.ifCond .le 11, 3) := by decide +kernel
theorem dX2_pass_141 : decode cX2_pass 141 = .ok (.aload 6, 2) := by decide +kernel
theorem dX2_pass_143 : decode cX2_pass 143 = .ok (.iconst 2, 1) := by decide +kernel
theorem dX2_pass_144 : decode cX2_pass 144 = .ok (.dup2, 1) := by decide +kernel
theorem dX2_pass_145 : decode cX2_pass 145 = .ok (.iaload, 1) := by decide +kernel
theorem dX2_pass_146 : decode cX2_pass 146 = .ok (.iconst 1, 1) := by decide +kernel
theorem dX2_pass_147 : decode cX2_pass 147 = .ok (.isub, 1) := by decide +kernel
theorem dX2_pass_148 : decode cX2_pass 148 = .ok (.iastore, 1) := by decide +kernel
theorem dX2_pass_149 : decode cX2_pass 149 = .ok (.iinc 5 1, 3) := by decide +kernel
theorem dX2_pass_152 : decode cX2_pass 152 = .ok (.goto (-31), 3) := by decide +kernel
theorem dX2_pass_155 : decode cX2_pass 155 = .ok (.aload_n 0, 1) := by decide +kernel
theorem dX2_pass_156 : decode cX2_pass 156 = .ok (.getfield 18, 3) := by decide +kernel
theorem dX2_pass_159 : decode cX2_pass 159 = .ok (.astore_n 3, 1) := by decide +kernel
theorem dX2_pass_160 : decode cX2_pass 160 = .ok (.aload_n 3, 1) := by decide +kernel
theorem dX2_pass_161 : decode cX2_pass 161 = .ok (.arraylength, 1) := by decide +kernel
theorem dX2_pass_162 : decode cX2_pass 162 = .ok (.istore 4, 2) := by decide +kernel
theorem dX2_pass_164 : decode cX2_pass 164 = .ok (.iconst 0, 1) := by decide +kernel
theorem dX2_pass_165 : decode cX2_pass 165 = .ok (.istore 5, 2) := by decide +kernel
theorem dX2_pass_167 : decode cX2_pass 167 = .ok (.iload 5, 2) := by decide +kernel
theorem dX2_pass_169 : decode cX2_pass 169 = .ok (.iload 4, 2) := by decide +kernel
theorem dX2_pass_171 : decode cX2_pass 171 = .ok (.if_icmp .ge 187, 3) := by decide +kernel
theorem dX2_pass_174 : decode cX2_pass 174 = .ok (.aload_n 3, 1) := by decide +kernel
theorem dX2_pass_175 : decode cX2_pass 175 = .ok (.iload 5, 2) := by decide +kernel
theorem dX2_pass_177 : decode cX2_pass 177 = .ok (.aaload, 1) := by decide +kernel
theorem dX2_pass_178 : decode cX2_pass 178 = .ok (.astore 6, 2) := by decide +kernel
theorem dX2_pass_180 : decode cX2_pass 180 = .ok (.aload 6, 2) := by decide +kernel
theorem dX2_pass_182 : decode cX2_pass 182 = .ok (.iconst 2, 1) := by decide +kernel
theorem dX2_pass_183 : decode cX2_pass 183 = .ok (.iaload, 1) := by decide +kernel
theorem dX2_pass_184 : decode cX2_pass 184 = .ok (.ifCond .eq 6, 3) := by decide +kernel
theorem dX2_pass_187 : decode cX2_pass 187 = .ok (.goto 165, 3) := by decide +kernel
theorem dX2_pass_190 : decode cX2_pass 190 = .ok (.aload_n 0, 1) := by decide +kernel
theorem dX2_pass_191 : decode cX2_pass 191 = .ok (.aload 6, 2) := by decide +kernel
theorem dX2_pass_193 : decode cX2_pass 193 = .ok (.iconst 1, 1) := by decide +kernel
theorem dX2_pass_194 : decode cX2_pass 194 = .ok (.iaload, 1) := by decide +kernel
theorem dX2_pass_195 : decode cX2_pass 195 = .ok (.aload 6, 2) := by decide +kernel
theorem dX2_pass_197 : decode cX2_pass 197 = .ok (.iconst 0, 1) := by decide +kernel
theorem dX2_pass_198 : decode cX2_pass 198 = .ok (.iaload, 1) := by decide +kernel
theorem dX2_pass_199 : decode cX2_pass 199 = .ok (.invokevirtual 74, 3) := by decide +kernel
theorem dX2_pass_202 : decode cX2_pass 202 = .ok (.istore 7, 2) := by decide +kernel
theorem dX2_pass_204 : decode cX2_pass 204 = .ok (.aload 6, 2) := by decide +kernel
theorem dX2_pass_206 : decode cX2_pass 206 = .ok (.iconst 2, 1) := by decide +kernel
theorem dX2_pass_207 : decode cX2_pass 207 = .ok (.iconst (-1), 1) := by decide +kernel
theorem dX2_pass_208 : decode cX2_pass 208 = .ok (.iastore, 1) := by decide +kernel
theorem dX2_pass_209 : decode cX2_pass 209 = .ok (.iload 7, 2) := by decide +kernel
theorem dX2_pass_211 : decode cX2_pass 211 = .ok (.ifCond .lt 70, 3) := by decide +kernel
theorem dX2_pass_214 : decode cX2_pass 214 = .ok (.aload_n 0, 1) := by decide +kernel
theorem dX2_pass_215 : decode cX2_pass 215 = .ok (.getfield 18, 3) := by decide +kernel
theorem dX2_pass_218 : decode cX2_pass 218 = .ok (.iload 7, 2) := by decide +kernel
theorem dX2_pass_220 : decode cX2_pass 220 = .ok (.aaload, 1) := by decide +kernel
theorem dX2_pass_221 : decode cX2_pass 221 = .ok (.astore 8, 2) := by decide +kernel
theorem dX2_pass_223 : decode cX2_pass 223 = .ok (.aload 8, 2) := by decide +kernel
theorem dX2_pass_225 : decode cX2_pass 225 = .ok (.iconst 2, 1) := by decide +kernel
theorem dX2_pass_226 : decode cX2_pass 226 = .ok (.iconst (-1), 1) := by decide +kernel
theorem dX2_pass_227 : decode cX2_pass 227 = .ok (.iastore, 1) := by decide +kernel
theorem dX2_pass_228 : decode cX2_pass 228 = .ok (.aload_n 0, 1) := by decide +kernel
theorem dX2_pass_229 : decode cX2_pass 229 = .ok (.getfield 34, 3) := by decide +kernel
theorem dX2_pass_232 : decode cX2_pass 232 = .ok (.aload 6, 2) := by decide +kernel
theorem dX2_pass_234 : decode cX2_pass 234 = .ok (.iconst 0, 1) := by decide +kernel
theorem dX2_pass_235 : decode cX2_pass 235 = .ok (.iaload, 1) := by decide +kernel
theorem dX2_pass_236 : decode cX2_pass 236 = .ok (.dup2, 1) := by decide +kernel
theorem dX2_pass_237 : decode cX2_pass 237 = .ok (.iaload, 1) := by decide +kernel
theorem dX2_pass_238 : decode cX2_pass 238 = .ok (.iconst 3, 1) := by decide +kernel
theorem dX2_pass_239 : decode cX2_pass 239 = .ok (.iadd, 1) := by decide +kernel
theorem dX2_pass_240 : decode cX2_pass 240 = .ok (.iastore, 1) := by decide +kernel
theorem dX2_pass_241 : decode cX2_pass 241 = .ok (.aload_n 0, 1) := by decide +kernel
theorem dX2_pass_242 : decode cX2_pass 242 = .ok (.getfield 34, 3) := by decide +kernel
theorem dX2_pass_245 : decode cX2_pass 245 = .ok (.aload 6, 2) := by decide +kernel
theorem dX2_pass_247 : decode cX2_pass 247 = .ok (.iconst 1, 1) := by decide +kernel
theorem dX2_pass_248 : decode cX2_pass 248 = .ok (.iaload, 1) := by decide +kernel
theorem dX2_pass_249 : decode cX2_pass 249 = .ok (.dup2, 1) := by decide +kernel
theorem dX2_pass_250 : decode cX2_pass 250 = .ok (.iaload, 1) := by decide +kernel
theorem dX2_pass_251 : decode cX2_pass 251 = .ok (.iconst 3, 1) := by decide +kernel
theorem dX2_pass_252 : decode cX2_pass 252 = .ok (.iadd, 1) := by decide +kernel
theorem dX2_pass_253 : decode cX2_pass 253 = .ok (.iastore, 1) := by decide +kernel
theorem dX2_pass_254 : decode cX2_pass 254 = .ok (.aload_n 0, 1) := by decide +kernel
theorem dX2_pass_255 : decode cX2_pass 255 = .ok (.dup, 1) := by decide +kernel
theorem dX2_pass_256 : decode cX2_pass 256 = .ok (.getfield 56, 3) := by decide +kernel
theorem dX2_pass_259 : decode cX2_pass 259 = .ok (.iconst 1, 1) := by decide +kernel
theorem dX2_pass_260 : decode cX2_pass 260 = .ok (.iadd, 1) := by decide +kernel
theorem dX2_pass_261 : decode cX2_pass 261 = .ok (.putfield 56, 3) := by decide +kernel
theorem dX2_pass_264 : decode cX2_pass 264 = .ok (.aload 6, 2) := by decide +kernel
theorem dX2_pass_266 : decode cX2_pass 266 = .ok (.aload_n 1, 1) := by decide +kernel
theorem dX2_pass_267 : decode cX2_pass 267 = .ok (.if_acmp .eq 9, 3) := by decide +kernel
theorem dX2_pass_270 : decode cX2_pass 270 = .ok (.aload 8, 2) := by decide +kernel
theorem dX2_pass_272 : decode cX2_pass 272 = .ok (.aload_n 1, 1) := by decide +kernel
theorem dX2_pass_273 : decode cX2_pass 273 = .ok (.if_acmp .ne 5, 3) := by decide +kernel
theorem dX2_pass_276 : decode cX2_pass 276 = .ok (.iconst 3, 1) := by decide +kernel
theorem dX2_pass_277 : decode cX2_pass 277 = .ok (.istore_n 2, 1) := by decide +kernel
theorem dX2_pass_278 : decode cX2_pass 278 = .ok (.goto 74, 3) := by decide +kernel
theorem dX2_pass_281 : decode cX2_pass 281 = .ok (.aload_n 0, 1) := by decide +kernel
theorem dX2_pass_282 : decode cX2_pass 282 = .ok (.getfield 13, 3) := by decide +kernel
theorem dX2_pass_285 : decode cX2_pass 285 = .ok (.aload 6, 2) := by decide +kernel
theorem dX2_pass_287 : decode cX2_pass 287 = .ok (.iconst 1, 1) := by decide +kernel
theorem dX2_pass_288 : decode cX2_pass 288 = .ok (.iaload, 1) := by decide +kernel
theorem dX2_pass_289 : decode cX2_pass 289 = .ok (.if_icmp .ne 24, 3) := by decide +kernel
theorem dX2_pass_292 : decode cX2_pass 292 = .ok (.aload_n 0, 1) := by decide +kernel
theorem dX2_pass_293 : decode cX2_pass 293 = .ok (.dup, 1) := by decide +kernel
theorem dX2_pass_294 : decode cX2_pass 294 = .ok (.getfield 59, 3) := by decide +kernel
theorem dX2_pass_297 : decode cX2_pass 297 = .ok (.iconst 1, 1) := by decide +kernel
theorem dX2_pass_298 : decode cX2_pass 298 = .ok (.iadd, 1) := by decide +kernel
theorem dX2_pass_299 : decode cX2_pass 299 = .ok (.putfield 59, 3) := by decide +kernel
theorem dX2_pass_302 : decode cX2_pass 302 = .ok (.aload 6, 2) := by decide +kernel
theorem dX2_pass_304 : decode cX2_pass 304 = .ok (.aload_n 1, 1) := by decide +kernel
theorem dX2_pass_305 : decode cX2_pass 305 = .ok (.if_acmp .ne 47, 3) := by decide +kernel
theorem dX2_pass_308 : decode cX2_pass 308 = .ok (.iconst 0, 1) := by decide +kernel
theorem dX2_pass_309 : decode cX2_pass 309 = .ok (.istore_n 2, 1) := by decide +kernel
theorem dX2_pass_310 : decode cX2_pass 310 = .ok (.goto 42, 3) := by decide +kernel
theorem dX2_pass_313 : decode cX2_pass 313 = .ok (.aload_n 0, 1) := by decide +kernel
theorem dX2_pass_314 : decode cX2_pass 314 = .ok (.getfield 38, 3) := by decide +kernel
theorem dX2_pass_317 : decode cX2_pass 317 = .ok (.aload 6, 2) := by decide +kernel
theorem dX2_pass_319 : decode cX2_pass 319 = .ok (.iconst 0, 1) := by decide +kernel
theorem dX2_pass_320 : decode cX2_pass 320 = .ok (.iaload, 1) := by decide +kernel
theorem dX2_pass_321 : decode cX2_pass 321 = .ok (.aaload, 1) := by decide +kernel
theorem dX2_pass_322 : decode cX2_pass 322 = .ok (.aload 6, 2) := by decide +kernel
theorem dX2_pass_324 : decode cX2_pass 324 = .ok (.iconst 1, 1) := by decide +kernel
theorem dX2_pass_325 : decode cX2_pass 325 = .ok (.iaload, 1) := by decide +kernel
theorem dX2_pass_326 : decode cX2_pass 326 = .ok (.dup2, 1) := by decide +kernel
theorem dX2_pass_327 : decode cX2_pass 327 = .ok (.iaload, 1) := by decide +kernel
theorem dX2_pass_328 : decode cX2_pass 328 = .ok (.iconst 1, 1) := by decide +kernel
theorem dX2_pass_329 : decode cX2_pass 329 = .ok (.iadd, 1) := by decide +kernel
theorem dX2_pass_330 : decode cX2_pass 330 = .ok (.iastore, 1) := by decide +kernel
theorem dX2_pass_331 : decode cX2_pass 331 = .ok (.aload_n 0, 1) := by decide +kernel
theorem dX2_pass_332 : decode cX2_pass 332 = .ok (.getfield 34, 3) := by decide +kernel
theorem dX2_pass_335 : decode cX2_pass 335 = .ok (.aload 6, 2) := by decide +kernel
theorem dX2_pass_337 : decode cX2_pass 337 = .ok (.iconst 0, 1) := by decide +kernel
theorem dX2_pass_338 : decode cX2_pass 338 = .ok (.iaload, 1) := by decide +kernel
theorem dX2_pass_339 : decode cX2_pass 339 = .ok (.dup2, 1) := by decide +kernel
theorem dX2_pass_340 : decode cX2_pass 340 = .ok (.iaload, 1) := by decide +kernel
theorem dX2_pass_341 : decode cX2_pass 341 = .ok (.iconst 1, 1) := by decide +kernel
theorem dX2_pass_342 : decode cX2_pass 342 = .ok (.iadd, 1) := by decide +kernel
theorem dX2_pass_343 : decode cX2_pass 343 = .ok (.iastore, 1) := by decide +kernel
theorem dX2_pass_344 : decode cX2_pass 344 = .ok (.aload 6, 2) := by decide +kernel
theorem dX2_pass_346 : decode cX2_pass 346 = .ok (.aload_n 1, 1) := by decide +kernel
theorem dX2_pass_347 : decode cX2_pass 347 = .ok (.if_acmp .ne 5, 3) := by decide +kernel
theorem dX2_pass_350 : decode cX2_pass 350 = .ok (.iconst 1, 1) := by decide +kernel
theorem dX2_pass_351 : decode cX2_pass 351 = .ok (.istore_n 2, 1) := by decide +kernel
theorem dX2_pass_352 : decode cX2_pass 352 = .ok (.iinc 5 1, 3) := by decide +kernel
theorem dX2_pass_355 : decode cX2_pass 355 = .ok (.goto (-188), 3) := by decide +kernel
theorem dX2_pass_358 : decode cX2_pass 358 = .ok (.aload_n 0, 1) := by decide +kernel
theorem dX2_pass_359 : decode cX2_pass 359 = .ok (.dup, 1) := by decide +kernel
theorem dX2_pass_360 : decode cX2_pass 360 = .ok (.getfield 44, 3) := by decide +kernel
theorem dX2_pass_363 : decode cX2_pass 363 = .ok (.iconst 1, 1) := by decide +kernel
theorem dX2_pass_364 : decode cX2_pass 364 = .ok (.iadd, 1) := by decide +kernel
theorem dX2_pass_365 : decode cX2_pass 365 = .ok (.putfield 44, 3) := by decide +kernel
theorem dX2_pass_368 : decode cX2_pass 368 = .ok (.iload_n 2, 1) := by decide +kernel
theorem dX2_pass_369 : decode cX2_pass 369 = .ok (.ireturn, 1) := by decide +kernel
set_option maxRecDepth 20000 in
theorem ggX2_behind_X2_pass : GoodIn wsX2_behind wsX2_pass := goodIn_r _ [5, 6, 7, 8, 9, 10, 11, 12, 13, 14, 15, 16, 17, 18, 19, 20, 4, 21, 22, 23, 24, 25, 26, 27, 28, 29, 30, 31, 32, 33, 34, 35, 36] (by decide +kernel) (by decide +kernel)
set_option maxRecDepth 20000 in
theorem gX2_behind_X2_pass : GoodIn wsX2_behind (wsV RX2 77 RX2 yX2_pass wsX2_pass) := goodIn_app (goodIn_of _ (by decide +kernel)) ggX2_behind_X2_pass
theorem dX2_behind_0 : decode cX2_behind 0 = .ok (.iconst 0, 1) := by decide +kernel
theorem dX2_behind_1 : decode cX2_behind 1 = .ok (.istore_n 2, 1) := by decide +kernel
theorem dX2_behind_2 : decode cX2_behind 2 = .ok (.iload_n 2, 1) := by decide +kernel
theorem dX2_behind_3 : decode cX2_behind 3 = .ok (.iload_n 1, 1) := by decide +kernel
theorem dX2_behind_4 : decode cX2_behind 4 = .ok (.if_icmp .ge 14, 3) := by decide +kernel
theorem dX2_behind_7 : decode cX2_behind 7 = .ok (.aload_n 0, 1) := by decide +kernel
theorem dX2_behind_8 : decode cX2_behind 8 = .ok (.invokevirtual 77, 3) := by decide +kernel
theorem dX2_behind_11 : decode cX2_behind 11 = .ok (.pop, 1) := by decide +kernel
theorem dX2_behind_12 : decode cX2_behind 12 = .ok (.iinc 2 1, 3) := by decide +kernel
theorem dX2_behind_15 : decode cX2_behind 15 = .ok (.goto (-13), 3) := by decide +kernel
theorem dX2_behind_18 : decode cX2_behind 18 = .ok (.aload_n 0, 1) := by decide +kernel
theorem dX2_behind_19 : decode cX2_behind 19 = .ok (.areturn, 1) := by decide +kernel
set_option maxRecDepth 20000 in
theorem ggX2_isSame_X1_guests : GoodIn wsX2_isSame wsX1_guests := goodIn_r _ [20, 21, 22, 189, 190, 191, 192, 193, 194, 195, 196, 197, 198, 199, 200, 201, 202, 203, 204, 205, 206, 207] (by decide +kernel) (by decide +kernel)
set_option maxRecDepth 20000 in
theorem gX2_isSame_X1_guests : GoodIn wsX2_isSame (wsV RX2 83 RX1 yX1_guests wsX1_guests) := goodIn_app (goodIn_of _ (by decide +kernel)) ggX2_isSame_X1_guests
set_option maxRecDepth 20000 in
theorem ggX2_isSame_X1_seconds : GoodIn wsX2_isSame wsX1_seconds := goodIn_r _ [26, 21, 27, 189, 190, 191, 192, 193, 194, 195, 196, 197, 198, 199, 200, 201, 202, 203, 204, 205, 206, 207] (by decide +kernel) (by decide +kernel)
set_option maxRecDepth 20000 in
theorem gX2_isSame_X1_seconds : GoodIn wsX2_isSame (wsV RX2 87 RX1 yX1_seconds wsX1_seconds) := goodIn_app (goodIn_of _ (by decide +kernel)) ggX2_isSame_X1_seconds
set_option maxRecDepth 20000 in
theorem ggX2_isSame_X1_limit : GoodIn wsX2_isSame wsX1_limit := goodIn_r _ [31, 21, 32, 189, 190, 191, 192, 193, 194, 195, 196, 197, 198, 199, 200, 201, 202, 203, 204, 205, 206, 207] (by decide +kernel) (by decide +kernel)
set_option maxRecDepth 20000 in
theorem gX2_isSame_X1_limit : GoodIn wsX2_isSame (wsV RX2 90 RX1 yX1_limit wsX1_limit) := goodIn_app (goodIn_of _ (by decide +kernel)) ggX2_isSame_X1_limit
set_option maxRecDepth 20000 in
theorem ggX2_isSame_X1_speaker : GoodIn wsX2_isSame wsX1_speaker := goodIn_r _ [36, 21, 37, 189, 190, 191, 192, 193, 194, 195, 196, 197, 198, 199, 200, 201, 202, 203, 204, 205, 206, 207] (by decide +kernel) (by decide +kernel)
set_option maxRecDepth 20000 in
theorem gX2_isSame_X1_speaker : GoodIn wsX2_isSame (wsV RX2 92 RX1 yX1_speaker wsX1_speaker) := goodIn_app (goodIn_of _ (by decide +kernel)) ggX2_isSame_X1_speaker
set_option maxRecDepth 20000 in
theorem ggX2_isSame_X1_secondsToSpeak : GoodIn wsX2_isSame wsX1_secondsToSpeak := goodIn_r _ [41, 21, 42, 189, 190, 191, 192, 193, 194, 195, 196, 197, 198, 199, 200, 201, 202, 203, 204, 205, 206, 207] (by decide +kernel) (by decide +kernel)
set_option maxRecDepth 20000 in
theorem gX2_isSame_X1_secondsToSpeak : GoodIn wsX2_isSame (wsV RX2 94 RX1 yX1_secondsToSpeak wsX1_secondsToSpeak) := goodIn_app (goodIn_of _ (by decide +kernel)) ggX2_isSame_X1_secondsToSpeak
set_option maxRecDepth 20000 in
theorem ggX2_isSame_X1_pause : GoodIn wsX2_isSame wsX1_pause := goodIn_r _ [46, 21, 47, 189, 190, 191, 192, 193, 194, 195, 196, 197, 198, 199, 200, 201, 202, 203, 204, 205, 206, 207] (by decide +kernel) (by decide +kernel)
set_option maxRecDepth 20000 in
theorem gX2_isSame_X1_pause : GoodIn wsX2_isSame (wsV RX2 97 RX1 yX1_pause wsX1_pause) := goodIn_app (goodIn_of _ (by decide +kernel)) ggX2_isSame_X1_pause
set_option maxRecDepth 20000 in
theorem ggX2_isSame_X1_unsaidInPauses : GoodIn wsX2_isSame wsX1_unsaidInPauses := goodIn_r _ [51, 21, 52, 189, 190, 191, 192, 193, 194, 195, 196, 197, 198, 199, 200, 201, 202, 203, 204, 205, 206, 207] (by decide +kernel) (by decide +kernel)
set_option maxRecDepth 20000 in
theorem gX2_isSame_X1_unsaidInPauses : GoodIn wsX2_isSame (wsV RX2 99 RX1 yX1_unsaidInPauses wsX1_unsaidInPauses) := goodIn_app (goodIn_of _ (by decide +kernel)) ggX2_isSame_X1_unsaidInPauses
set_option maxRecDepth 20000 in
theorem ggX2_isSame_X1_allUnsaid : GoodIn wsX2_isSame wsX1_allUnsaid := goodIn_r _ [56, 21, 57, 58, 59, 60, 61, 62, 63, 64, 65, 66, 67, 68, 189, 190, 191, 192, 193, 194, 195, 196, 197, 198, 199, 200, 201, 202, 203, 204, 205, 206, 207] (by decide +kernel) (by decide +kernel)
set_option maxRecDepth 20000 in
theorem gX2_isSame_X1_allUnsaid : GoodIn wsX2_isSame (wsV RX2 102 RX1 yX1_allUnsaid wsX1_allUnsaid) := goodIn_app (goodIn_of _ (by decide +kernel)) ggX2_isSame_X1_allUnsaid
set_option maxRecDepth 20000 in
theorem ggX2_isSame_X2_all : GoodIn wsX2_isSame wsX2_all := goodIn_r _ [73, 8, 14, 174, 175, 176, 177, 178, 179, 180, 181, 182, 183, 184, 185, 186, 187, 188] (by decide +kernel) (by decide +kernel)
set_option maxRecDepth 20000 in
theorem gX2_isSame_X2_all : GoodIn wsX2_isSame (wsV RX2 66 RX2 yX2_all wsX2_all) := goodIn_app (goodIn_of _ (by decide +kernel)) ggX2_isSame_X2_all
set_option maxRecDepth 20000 in
theorem ggX2_isSame_X1_glancesUnderWay : GoodIn wsX2_isSame wsX1_glancesUnderWay := goodIn_r _ [77, 21, 78, 189, 190, 191, 192, 193, 194, 195, 196, 197, 198, 199, 200, 201, 202, 203, 204, 205, 206, 207] (by decide +kernel) (by decide +kernel)
set_option maxRecDepth 20000 in
theorem gX2_isSame_X1_glancesUnderWay : GoodIn wsX2_isSame (wsV RX2 105 RX1 yX1_glancesUnderWay wsX1_glancesUnderWay) := goodIn_app (goodIn_of _ (by decide +kernel)) ggX2_isSame_X1_glancesUnderWay
set_option maxRecDepth 20000 in
theorem ggX2_isSame_X1_meetings : GoodIn wsX2_isSame wsX1_meetings := goodIn_r _ [82, 21, 83, 189, 190, 191, 192, 193, 194, 195, 196, 197, 198, 199, 200, 201, 202, 203, 204, 205, 206, 207] (by decide +kernel) (by decide +kernel)
set_option maxRecDepth 20000 in
theorem gX2_isSame_X1_meetings : GoodIn wsX2_isSame (wsV RX2 108 RX1 yX1_meetings wsX1_meetings) := goodIn_app (goodIn_of _ (by decide +kernel)) ggX2_isSame_X1_meetings
set_option maxRecDepth 20000 in
theorem ggX2_isSame_X1_lostGlances : GoodIn wsX2_isSame wsX1_lostGlances := goodIn_r _ [87, 21, 88, 189, 190, 191, 192, 193, 194, 195, 196, 197, 198, 199, 200, 201, 202, 203, 204, 205, 206, 207] (by decide +kernel) (by decide +kernel)
set_option maxRecDepth 20000 in
theorem gX2_isSame_X1_lostGlances : GoodIn wsX2_isSame (wsV RX2 111 RX1 yX1_lostGlances wsX1_lostGlances) := goodIn_app (goodIn_of _ (by decide +kernel)) ggX2_isSame_X1_lostGlances
set_option maxRecDepth 20000 in
theorem ggX2_isSame_X1_rating : GoodIn wsX2_isSame wsX1_rating := goodIn_r _ [92, 21, 93, 94, 95, 60, 96, 67, 97, 98, 99, 100, 101, 102, 103, 104, 58, 59, 61, 62, 63, 64, 65, 66, 68, 189, 190, 191, 192, 193, 194, 195, 196, 197, 198, 199, 200, 201, 202, 203, 204, 205, 206, 207] (by decide +kernel) (by decide +kernel)
set_option maxRecDepth 20000 in
theorem gX2_isSame_X1_rating : GoodIn wsX2_isSame (wsV RX2 114 RX1 yX1_rating wsX1_rating) := goodIn_app (goodIn_of _ (by decide +kernel)) ggX2_isSame_X1_rating
set_option maxRecDepth 20000 in
theorem ggX2_isSame_X2_rated : GoodIn wsX2_isSame wsX2_rated := goodIn_r _ [108, 2, 69, 70, 71, 72, 73, 8, 14, 174, 175, 176, 177, 178, 179, 180, 181, 182, 183, 184, 185, 186, 187, 188] (by decide +kernel) (by decide +kernel)
set_option maxRecDepth 20000 in
theorem gX2_isSame_X2_rated : GoodIn wsX2_isSame (wsV RX2 117 RX2 yX2_rated wsX2_rated) := goodIn_app (goodIn_of _ (by decide +kernel)) ggX2_isSame_X2_rated
set_option maxRecDepth 20000 in
theorem ggX2_isSame_X1_spokenBy : GoodIn wsX2_isSame wsX1_spokenBy := goodIn_ca (goodIn_r _ [112, 21, 113, 114, 115, 116, 19, 117, 118, 119, 22, 189, 190, 191, 192, 193, 194, 195, 196, 197, 198, 199, 200, 201, 202, 203, 204, 205, 206, 207] (by decide +kernel) (by decide +kernel)) (goodIn_sub (fun _ h => List.mem_cons_of_mem _ (List.mem_append_right _ h)) (by decide +kernel))
set_option maxRecDepth 20000 in
theorem gX2_isSame_X1_spokenBy : GoodIn wsX2_isSame (wsV RX2 120 RX1 yX1_spokenBy wsX1_spokenBy) := goodIn_app (goodIn_of _ (by decide +kernel)) ggX2_isSame_X1_spokenBy
set_option maxRecDepth 20000 in
theorem ggX2_isSame_X1_interruptionsBy : GoodIn wsX2_isSame wsX1_interruptionsBy := goodIn_ca (goodIn_r _ [123, 21, 124, 114, 115, 116, 19, 117, 118, 119, 22, 189, 190, 191, 192, 193, 194, 195, 196, 197, 198, 199, 200, 201, 202, 203, 204, 205, 206, 207] (by decide +kernel) (by decide +kernel)) (goodIn_sub (fun _ h => List.mem_cons_of_mem _ (List.mem_append_right _ h)) (by decide +kernel))
set_option maxRecDepth 20000 in
theorem gX2_isSame_X1_interruptionsBy : GoodIn wsX2_isSame (wsV RX2 124 RX1 yX1_interruptionsBy wsX1_interruptionsBy) := goodIn_app (goodIn_of _ (by decide +kernel)) ggX2_isSame_X1_interruptionsBy
set_option maxRecDepth 20000 in
theorem ggX2_isSame_X1_coughsOf : GoodIn wsX2_isSame wsX1_coughsOf := goodIn_ca (goodIn_r _ [128, 21, 129, 114, 115, 116, 19, 117, 118, 119, 22, 189, 190, 191, 192, 193, 194, 195, 196, 197, 198, 199, 200, 201, 202, 203, 204, 205, 206, 207] (by decide +kernel) (by decide +kernel)) (goodIn_sub (fun _ h => List.mem_cons_of_mem _ (List.mem_append_right _ h)) (by decide +kernel))
set_option maxRecDepth 20000 in
theorem gX2_isSame_X1_coughsOf : GoodIn wsX2_isSame (wsV RX2 127 RX1 yX1_coughsOf wsX1_coughsOf) := goodIn_app (goodIn_of _ (by decide +kernel)) ggX2_isSame_X1_coughsOf
set_option maxRecDepth 20000 in
theorem ggX2_isSame_X1_unsaidBy : GoodIn wsX2_isSame wsX1_unsaidBy := goodIn_ca (goodIn_r _ [133, 21, 134, 114, 115, 116, 19, 117, 118, 119, 22, 189, 190, 191, 192, 193, 194, 195, 196, 197, 198, 199, 200, 201, 202, 203, 204, 205, 206, 207] (by decide +kernel) (by decide +kernel)) (goodIn_sub (fun _ h => List.mem_cons_of_mem _ (List.mem_append_right _ h)) (by decide +kernel))
set_option maxRecDepth 20000 in
theorem gX2_isSame_X1_unsaidBy : GoodIn wsX2_isSame (wsV RX2 130 RX1 yX1_unsaidBy wsX1_unsaidBy) := goodIn_app (goodIn_of _ (by decide +kernel)) ggX2_isSame_X1_unsaidBy
set_option maxRecDepth 20000 in
theorem ggX2_isSame_X2_find : GoodIn wsX2_isSame wsX2_find := goodIn_r _ [138, 1, 174, 175, 176, 177, 178, 179, 180, 181, 182, 183, 184, 185, 186, 187, 188] (by decide +kernel) (by decide +kernel)
set_option maxRecDepth 20000 in
theorem gX2_isSame_X2_find : GoodIn wsX2_isSame (wsV RX2 74 RX2 yX2_find wsX2_find) := goodIn_app (goodIn_of _ (by decide +kernel)) ggX2_isSame_X2_find
set_option maxRecDepth 20000 in
theorem ggX2_isSame_X1_isUnderWay : GoodIn wsX2_isSame wsX1_isUnderWay := goodIn_ca (goodIn_r _ [142, 21, 114, 115, 116, 19, 117, 118, 119, 22, 143, 144, 145, 146, 147, 148, 60, 149, 150, 189, 190, 191, 192, 193, 194, 195, 196, 197, 198, 199, 200, 201, 202, 203, 204, 205, 206, 207] (by decide +kernel) (by decide +kernel)) (goodIn_sub (fun _ h => List.mem_cons_of_mem _ (List.mem_append_right _ h)) (by decide +kernel))
set_option maxRecDepth 20000 in
theorem gX2_isSame_X1_isUnderWay : GoodIn wsX2_isSame (wsV RX2 133 RX1 yX1_isUnderWay wsX1_isUnderWay) := goodIn_app (goodIn_of _ (by decide +kernel)) ggX2_isSame_X1_isUnderWay
set_option maxRecDepth 20000 in
theorem ggX2_isSame_X1_secondsToGo : GoodIn wsX2_isSame wsX1_secondsToGo := goodIn_ca (goodIn_r _ [154, 21, 114, 115, 116, 19, 117, 118, 119, 22, 143, 144, 145, 155, 156, 157, 60, 158, 150, 159, 147, 148, 149, 189, 190, 191, 192, 193, 194, 195, 196, 197, 198, 199, 200, 201, 202, 203, 204, 205, 206, 207] (by decide +kernel) (by decide +kernel)) (goodIn_sub (fun _ h => List.mem_cons_of_mem _ (List.mem_append_right _ h)) (by decide +kernel))
set_option maxRecDepth 20000 in
theorem gX2_isSame_X1_secondsToGo : GoodIn wsX2_isSame (wsV RX2 137 RX1 yX1_secondsToGo wsX1_secondsToGo) := goodIn_app (goodIn_of _ (by decide +kernel)) ggX2_isSame_X1_secondsToGo
set_option maxRecDepth 20000 in
theorem ggX2_isSame_X1_caughtBy : GoodIn wsX2_isSame wsX1_caughtBy := goodIn_ca (goodIn_r _ [163, 21, 164, 114, 115, 116, 19, 117, 118, 119, 22, 143, 144, 145, 189, 190, 191, 192, 193, 194, 195, 196, 197, 198, 199, 200, 201, 202, 203, 204, 205, 206, 207] (by decide +kernel) (by decide +kernel)) (goodIn_sub (fun _ h => List.mem_cons_of_mem _ (List.mem_append_right _ h)) (by decide +kernel))
set_option maxRecDepth 20000 in
theorem gX2_isSame_X1_caughtBy : GoodIn wsX2_isSame (wsV RX2 140 RX1 yX1_caughtBy wsX1_caughtBy) := goodIn_app (goodIn_of _ (by decide +kernel)) ggX2_isSame_X1_caughtBy
set_option maxRecDepth 20000 in
theorem ggX2_isSame_X1_quietest : GoodIn wsX2_isSame wsX1_quietest := goodIn_r _ [168, 21, 22, 134, 189, 190, 191, 192, 193, 194, 195, 196, 197, 198, 199, 200, 201, 202, 203, 204, 205, 206, 207] (by decide +kernel) (by decide +kernel)
set_option maxRecDepth 20000 in
theorem gX2_isSame_X1_quietest : GoodIn wsX2_isSame (wsV RX2 143 RX1 yX1_quietest wsX1_quietest) := goodIn_app (goodIn_of _ (by decide +kernel)) ggX2_isSame_X1_quietest
set_option maxRecDepth 20000 in
theorem ggX2_isSame_X1_meanUnsaid : GoodIn wsX2_isSame wsX1_meanUnsaid := goodIn_r _ [172, 21, 22, 173, 64, 65, 60, 66, 67, 68, 189, 190, 191, 192, 193, 194, 195, 196, 197, 198, 199, 200, 201, 202, 203, 204, 205, 206, 207] (by decide +kernel) (by decide +kernel)
set_option maxRecDepth 20000 in
theorem gX2_isSame_X1_meanUnsaid : GoodIn wsX2_isSame (wsV RX2 146 RX1 yX1_meanUnsaid wsX1_meanUnsaid) := goodIn_app (goodIn_of _ (by decide +kernel)) ggX2_isSame_X1_meanUnsaid
theorem dX2_isSame_0 : decode cX2_isSame 0 = .ok (.iconst 0, 1) := by decide +kernel
theorem dX2_isSame_1 : decode cX2_isSame 1 = .ok (.istore_n 2, 1) := by decide +kernel
theorem dX2_isSame_2 : decode cX2_isSame 2 = .ok (.aload_n 0, 1) := by decide +kernel
theorem dX2_isSame_3 : decode cX2_isSame 3 = .ok (.getfield 18, 3) := by decide +kernel
theorem dX2_isSame_6 : decode cX2_isSame 6 = .ok (.astore_n 3, 1) := by decide +kernel
theorem dX2_isSame_7 : decode cX2_isSame 7 = .ok (.aload_n 3, 1) := by decide +kernel
theorem dX2_isSame_8 : decode cX2_isSame 8 = .ok (.arraylength, 1) := by decide +kernel
theorem dX2_isSame_9 : decode cX2_isSame 9 = .ok (.istore 4, 2) := by decide +kernel
theorem dX2_isSame_11 : decode cX2_isSame 11 = .ok (.iconst 0, 1) := by decide +kernel
theorem dX2_isSame_12 : decode cX2_isSame 12 = .ok (.istore 5, 2) := by decide +kernel
theorem dX2_isSame_14 : decode cX2_isSame 14 = .ok (.iload 5, 2) := by decide +kernel
theorem dX2_isSame_16 : decode cX2_isSame 16 = .ok (.iload 4, 2) := by decide +kernel
theorem dX2_isSame_18 : decode cX2_isSame 18 = .ok (.if_icmp .ge 30, 3) := by decide +kernel
theorem dX2_isSame_21 : decode cX2_isSame 21 = .ok (.aload_n 3, 1) := by decide +kernel
theorem dX2_isSame_22 : decode cX2_isSame 22 = .ok (.iload 5, 2) := by decide +kernel
theorem dX2_isSame_24 : decode cX2_isSame 24 = .ok (.aaload, 1) := by decide +kernel
theorem dX2_isSame_25 : decode cX2_isSame 25 = .ok (.astore 6, 2) := by decide +kernel
theorem dX2_isSame_27 : decode cX2_isSame 27 = .ok (.iload_n 2, 1) := by decide +kernel
theorem dX2_isSame_28 : decode cX2_isSame 28 = .ok (.aload 6, 2) := by decide +kernel
theorem dX2_isSame_30 : decode cX2_isSame 30 = .ok (.iconst 2, 1) := by decide +kernel
theorem dX2_isSame_31 : decode cX2_isSame 31 = .ok (.iaload, 1) := by decide +kernel
theorem dX2_isSame_32 : decode cX2_isSame 32 = .ok (.ifCond .lt 7, 3) := by decide +kernel
theorem dX2_isSame_35 : decode cX2_isSame 35 = .ok (.iconst 1, 1) := by decide +kernel
theorem dX2_isSame_36 : decode cX2_isSame 36 = .ok (.goto 4, 3) := by decide +kernel
theorem dX2_isSame_39 : decode cX2_isSame 39 = .ok (.iconst 0, 1) := by decide +kernel
theorem dX2_isSame_40 : decode cX2_isSame 40 = .ok (.iadd, 1) := by decide +kernel
theorem dX2_isSame_41 : decode cX2_isSame 41 = .ok (.istore_n 2, 1) := by decide +kernel
theorem dX2_isSame_42 : decode cX2_isSame 42 = .ok (.iinc 5 1, 3) := by decide +kernel
theorem dX2_isSame_45 : decode cX2_isSame 45 = .ok (.goto (-31), 3) := by decide +kernel
theorem dX2_isSame_48 : decode cX2_isSame 48 = .ok (.aload_n 1, 1) := by decide +kernel
theorem dX2_isSame_49 : decode cX2_isSame 49 = .ok (.invokevirtual 83, 3) := by decide +kernel
theorem dX2_isSame_52 : decode cX2_isSame 52 = .ok (.aload_n 0, 1) := by decide +kernel
theorem dX2_isSame_53 : decode cX2_isSame 53 = .ok (.getfield 22, 3) := by decide +kernel
theorem dX2_isSame_56 : decode cX2_isSame 56 = .ok (.if_icmp .ne 132, 3) := by decide +kernel
theorem dX2_isSame_59 : decode cX2_isSame 59 = .ok (.aload_n 1, 1) := by decide +kernel
theorem dX2_isSame_60 : decode cX2_isSame 60 = .ok (.invokevirtual 87, 3) := by decide +kernel
theorem dX2_isSame_63 : decode cX2_isSame 63 = .ok (.aload_n 0, 1) := by decide +kernel
theorem dX2_isSame_64 : decode cX2_isSame 64 = .ok (.getfield 44, 3) := by decide +kernel
theorem dX2_isSame_67 : decode cX2_isSame 67 = .ok (.if_icmp .ne 121, 3) := by decide +kernel
theorem dX2_isSame_70 : decode cX2_isSame 70 = .ok (.aload_n 1, 1) := by decide +kernel
theorem dX2_isSame_71 : decode cX2_isSame 71 = .ok (.invokevirtual 90, 3) := by decide +kernel
theorem dX2_isSame_74 : decode cX2_isSame 74 = .ok (.aload_n 0, 1) := by decide +kernel
theorem dX2_isSame_75 : decode cX2_isSame 75 = .ok (.getfield 7, 3) := by decide +kernel
theorem dX2_isSame_78 : decode cX2_isSame 78 = .ok (.if_icmp .ne 110, 3) := by decide +kernel
theorem dX2_isSame_81 : decode cX2_isSame 81 = .ok (.aload_n 1, 1) := by decide +kernel
theorem dX2_isSame_82 : decode cX2_isSame 82 = .ok (.invokevirtual 92, 3) := by decide +kernel
theorem dX2_isSame_85 : decode cX2_isSame 85 = .ok (.aload_n 0, 1) := by decide +kernel
theorem dX2_isSame_86 : decode cX2_isSame 86 = .ok (.getfield 13, 3) := by decide +kernel
theorem dX2_isSame_89 : decode cX2_isSame 89 = .ok (.if_icmp .ne 99, 3) := by decide +kernel
theorem dX2_isSame_92 : decode cX2_isSame 92 = .ok (.aload_n 1, 1) := by decide +kernel
theorem dX2_isSame_93 : decode cX2_isSame 93 = .ok (.invokevirtual 94, 3) := by decide +kernel
theorem dX2_isSame_96 : decode cX2_isSame 96 = .ok (.aload_n 0, 1) := by decide +kernel
theorem dX2_isSame_97 : decode cX2_isSame 97 = .ok (.getfield 13, 3) := by decide +kernel
theorem dX2_isSame_100 : decode cX2_isSame 100 = .ok (.ifCond .ge 7, 3) := by decide +kernel
theorem dX2_isSame_103 : decode cX2_isSame 103 = .ok (.iconst 0, 1) := by decide +kernel
theorem dX2_isSame_104 : decode cX2_isSame 104 = .ok (.goto 7, 3) := by decide +kernel
theorem dX2_isSame_107 : decode cX2_isSame 107 = .ok (.aload_n 0, 1) := by decide +kernel
theorem dX2_isSame_108 : decode cX2_isSame 108 = .ok (.getfield 47, 3) := by decide +kernel
theorem dX2_isSame_111 : decode cX2_isSame 111 = .ok (.if_icmp .ne 77, 3) := by decide +kernel
theorem dX2_isSame_114 : decode cX2_isSame 114 = .ok (.aload_n 1, 1) := by decide +kernel
theorem dX2_isSame_115 : decode cX2_isSame 115 = .ok (.invokevirtual 97, 3) := by decide +kernel
theorem dX2_isSame_118 : decode cX2_isSame 118 = .ok (.aload_n 0, 1) := by decide +kernel
theorem dX2_isSame_119 : decode cX2_isSame 119 = .ok (.getfield 50, 3) := by decide +kernel
theorem dX2_isSame_122 : decode cX2_isSame 122 = .ok (.if_icmp .ne 66, 3) := by decide +kernel
theorem dX2_isSame_125 : decode cX2_isSame 125 = .ok (.aload_n 1, 1) := by decide +kernel
theorem dX2_isSame_126 : decode cX2_isSame 126 = .ok (.invokevirtual 99, 3) := by decide +kernel
theorem dX2_isSame_129 : decode cX2_isSame 129 = .ok (.aload_n 0, 1) := by decide +kernel
theorem dX2_isSame_130 : decode cX2_isSame 130 = .ok (.getfield 53, 3) := by decide +kernel
theorem dX2_isSame_133 : decode cX2_isSame 133 = .ok (.if_icmp .ne 55, 3) := by decide +kernel
theorem dX2_isSame_136 : decode cX2_isSame 136 = .ok (.aload_n 1, 1) := by decide +kernel
theorem dX2_isSame_137 : decode cX2_isSame 137 = .ok (.invokevirtual 102, 3) := by decide +kernel
theorem dX2_isSame_140 : decode cX2_isSame 140 = .ok (.aload_n 0, 1) := by decide +kernel
theorem dX2_isSame_141 : decode cX2_isSame 141 = .ok (.invokevirtual 66, 3) := by decide +kernel
theorem dX2_isSame_144 : decode cX2_isSame 144 = .ok (.if_icmp .ne 44, 3) := by decide +kernel
theorem dX2_isSame_147 : decode cX2_isSame 147 = .ok (.aload_n 1, 1) := by decide +kernel
theorem dX2_isSame_148 : decode cX2_isSame 148 = .ok (.invokevirtual 105, 3) := by decide +kernel
theorem dX2_isSame_151 : decode cX2_isSame 151 = .ok (.iload_n 2, 1) := by decide +kernel
theorem dX2_isSame_152 : decode cX2_isSame 152 = .ok (.if_icmp .ne 36, 3) := by decide +kernel
theorem dX2_isSame_155 : decode cX2_isSame 155 = .ok (.aload_n 1, 1) := by decide +kernel
theorem dX2_isSame_156 : decode cX2_isSame 156 = .ok (.invokevirtual 108, 3) := by decide +kernel
theorem dX2_isSame_159 : decode cX2_isSame 159 = .ok (.aload_n 0, 1) := by decide +kernel
theorem dX2_isSame_160 : decode cX2_isSame 160 = .ok (.getfield 56, 3) := by decide +kernel
theorem dX2_isSame_163 : decode cX2_isSame 163 = .ok (.if_icmp .ne 25, 3) := by decide +kernel
theorem dX2_isSame_166 : decode cX2_isSame 166 = .ok (.aload_n 1, 1) := by decide +kernel
theorem dX2_isSame_167 : decode cX2_isSame 167 = .ok (.invokevirtual 111, 3) := by decide +kernel
theorem dX2_isSame_170 : decode cX2_isSame 170 = .ok (.aload_n 0, 1) := by decide +kernel
theorem dX2_isSame_171 : decode cX2_isSame 171 = .ok (.getfield 59, 3) := by decide +kernel
theorem dX2_isSame_174 : decode cX2_isSame 174 = .ok (.if_icmp .ne 14, 3) := by decide +kernel
theorem dX2_isSame_177 : decode cX2_isSame 177 = .ok (.aload_n 1, 1) := by decide +kernel
theorem dX2_isSame_178 : decode cX2_isSame 178 = .ok (.invokevirtual 114, 3) := by decide +kernel
theorem dX2_isSame_181 : decode cX2_isSame 181 = .ok (.aload_n 0, 1) := by decide +kernel
theorem dX2_isSame_182 : decode cX2_isSame 182 = .ok (.invokevirtual 117, 3) := by decide +kernel
theorem dX2_isSame_185 : decode cX2_isSame 185 = .ok (.if_icmp .eq 5, 3) := by decide +kernel
theorem dX2_isSame_188 : decode cX2_isSame 188 = .ok (.iconst 0, 1) := by decide +kernel
theorem dX2_isSame_189 : decode cX2_isSame 189 = .ok (.ireturn, 1) := by decide +kernel
theorem dX2_isSame_190 : decode cX2_isSame 190 = .ok (.iconst 0, 1) := by decide +kernel
theorem dX2_isSame_191 : decode cX2_isSame 191 = .ok (.istore_n 3, 1) := by decide +kernel
theorem dX2_isSame_192 : decode cX2_isSame 192 = .ok (.iconst 0, 1) := by decide +kernel
theorem dX2_isSame_193 : decode cX2_isSame 193 = .ok (.istore 4, 2) := by decide +kernel
theorem dX2_isSame_195 : decode cX2_isSame 195 = .ok (.iload 4, 2) := by decide +kernel
theorem dX2_isSame_197 : decode cX2_isSame 197 = .ok (.aload_n 0, 1) := by decide +kernel
theorem dX2_isSame_198 : decode cX2_isSame 198 = .ok (.getfield 22, 3) := by decide +kernel
theorem dX2_isSame_201 : decode cX2_isSame 201 = .ok (.if_icmp .ge 195, 3) := by decide +kernel
theorem dX2_isSame_204 : decode cX2_isSame 204 = .ok (.aload_n 1, 1) := by decide +kernel
theorem dX2_isSame_205 : decode cX2_isSame 205 = .ok (.iload 4, 2) := by decide +kernel
theorem dX2_isSame_207 : decode cX2_isSame 207 = .ok (.invokevirtual 120, 3) := by decide +kernel
theorem dX2_isSame_210 : decode cX2_isSame 210 = .ok (.aload_n 0, 1) := by decide +kernel
theorem dX2_isSame_211 : decode cX2_isSame 211 = .ok (.getfield 25, 3) := by decide +kernel
theorem dX2_isSame_214 : decode cX2_isSame 214 = .ok (.iload 4, 2) := by decide +kernel
theorem dX2_isSame_216 : decode cX2_isSame 216 = .ok (.iaload, 1) := by decide +kernel
theorem dX2_isSame_217 : decode cX2_isSame 217 = .ok (.if_icmp .ne 51, 3) := by decide +kernel
theorem dX2_isSame_220 : decode cX2_isSame 220 = .ok (.aload_n 1, 1) := by decide +kernel
theorem dX2_isSame_221 : decode cX2_isSame 221 = .ok (.iload 4, 2) := by decide +kernel
theorem dX2_isSame_223 : decode cX2_isSame 223 = .ok (.invokevirtual 124, 3) := by decide +kernel
theorem dX2_isSame_226 : decode cX2_isSame 226 = .ok (.aload_n 0, 1) := by decide +kernel
theorem dX2_isSame_227 : decode cX2_isSame 227 = .ok (.getfield 28, 3) := by decide +kernel
theorem dX2_isSame_230 : decode cX2_isSame 230 = .ok (.iload 4, 2) := by decide +kernel
theorem dX2_isSame_232 : decode cX2_isSame 232 = .ok (.iaload, 1) := by decide +kernel
theorem dX2_isSame_233 : decode cX2_isSame 233 = .ok (.if_icmp .ne 35, 3) := by decide +kernel
theorem dX2_isSame_236 : decode cX2_isSame 236 = .ok (.aload_n 1, 1) := by decide +kernel
theorem dX2_isSame_237 : decode cX2_isSame 237 = .ok (.iload 4, 2) := by decide +kernel
theorem dX2_isSame_239 : decode cX2_isSame 239 = .ok (.invokevirtual 127, 3) := by decide +kernel
theorem dX2_isSame_242 : decode cX2_isSame 242 = .ok (.aload_n 0, 1) := by decide +kernel
theorem dX2_isSame_243 : decode cX2_isSame 243 = .ok (.getfield 31, 3) := by decide +kernel
theorem dX2_isSame_246 : decode cX2_isSame 246 = .ok (.iload 4, 2) := by decide +kernel
theorem dX2_isSame_248 : decode cX2_isSame 248 = .ok (.iaload, 1) := by decide +kernel
theorem dX2_isSame_249 : decode cX2_isSame 249 = .ok (.if_icmp .ne 19, 3) := by decide +kernel
theorem dX2_isSame_252 : decode cX2_isSame 252 = .ok (.aload_n 1, 1) := by decide +kernel
theorem dX2_isSame_253 : decode cX2_isSame 253 = .ok (.iload 4, 2) := by decide +kernel
theorem dX2_isSame_255 : decode cX2_isSame 255 = .ok (.invokevirtual 130, 3) := by decide +kernel
theorem dX2_isSame_258 : decode cX2_isSame 258 = .ok (.aload_n 0, 1) := by decide +kernel
theorem dX2_isSame_259 : decode cX2_isSame 259 = .ok (.getfield 34, 3) := by decide +kernel
theorem dX2_isSame_262 : decode cX2_isSame 262 = .ok (.iload 4, 2) := by decide +kernel
theorem dX2_isSame_264 : decode cX2_isSame 264 = .ok (.iaload, 1) := by decide +kernel
theorem dX2_isSame_265 : decode cX2_isSame 265 = .ok (.if_icmp .eq 5, 3) := by decide +kernel
theorem dX2_isSame_268 : decode cX2_isSame 268 = .ok (.iconst 0, 1) := by decide +kernel
theorem dX2_isSame_269 : decode cX2_isSame 269 = .ok (.ireturn, 1) := by decide +kernel
theorem dX2_isSame_270 : decode cX2_isSame 270 = .ok (.aload_n 0, 1) := by decide +kernel
theorem dX2_isSame_271 : decode cX2_isSame 271 = .ok (.getfield 34, 3) := by decide +kernel
theorem dX2_isSame_274 : decode cX2_isSame 274 = .ok (.iload 4, 2) := by decide +kernel
theorem dX2_isSame_276 : decode cX2_isSame 276 = .ok (.iaload, 1) := by decide +kernel
theorem dX2_isSame_277 : decode cX2_isSame 277 = .ok (.aload_n 0, 1) := by decide +kernel
theorem dX2_isSame_278 : decode cX2_isSame 278 = .ok (.getfield 34, 3) := by decide +kernel
theorem dX2_isSame_281 : decode cX2_isSame 281 = .ok (.iload_n 3, 1) := by decide +kernel
theorem dX2_isSame_282 : decode cX2_isSame 282 = .ok (.iaload, 1) := by decide +kernel
theorem dX2_isSame_283 : decode cX2_isSame 283 = .ok (.if_icmp .le 6, 3) := by decide +kernel
theorem dX2_isSame_286 : decode cX2_isSame 286 = .ok (.iload 4, 2) := by decide +kernel
theorem dX2_isSame_288 : decode cX2_isSame 288 = .ok (.istore_n 3, 1) := by decide +kernel
theorem dX2_isSame_289 : decode cX2_isSame 289 = .ok (.iconst 0, 1) := by decide +kernel
theorem dX2_isSame_290 : decode cX2_isSame 290 = .ok (.istore 5, 2) := by decide +kernel
theorem dX2_isSame_292 : decode cX2_isSame 292 = .ok (.iload 5, 2) := by decide +kernel
theorem dX2_isSame_294 : decode cX2_isSame 294 = .ok (.aload_n 0, 1) := by decide +kernel
theorem dX2_isSame_295 : decode cX2_isSame 295 = .ok (.getfield 22, 3) := by decide +kernel
theorem dX2_isSame_298 : decode cX2_isSame 298 = .ok (.if_icmp .ge 92, 3) := by decide +kernel
theorem dX2_isSame_301 : decode cX2_isSame 301 = .ok (.aload_n 0, 1) := by decide +kernel
theorem dX2_isSame_302 : decode cX2_isSame 302 = .ok (.iload 4, 2) := by decide +kernel
theorem dX2_isSame_304 : decode cX2_isSame 304 = .ok (.iload 5, 2) := by decide +kernel
theorem dX2_isSame_306 : decode cX2_isSame 306 = .ok (.invokevirtual 74, 3) := by decide +kernel
theorem dX2_isSame_309 : decode cX2_isSame 309 = .ok (.istore 6, 2) := by decide +kernel
theorem dX2_isSame_311 : decode cX2_isSame 311 = .ok (.aload_n 1, 1) := by decide +kernel
theorem dX2_isSame_312 : decode cX2_isSame 312 = .ok (.iload 4, 2) := by decide +kernel
theorem dX2_isSame_314 : decode cX2_isSame 314 = .ok (.iload 5, 2) := by decide +kernel
theorem dX2_isSame_316 : decode cX2_isSame 316 = .ok (.invokevirtual 133, 3) := by decide +kernel
theorem dX2_isSame_319 : decode cX2_isSame 319 = .ok (.iload 6, 2) := by decide +kernel
theorem dX2_isSame_321 : decode cX2_isSame 321 = .ok (.ifCond .lt 7, 3) := by decide +kernel
theorem dX2_isSame_324 : decode cX2_isSame 324 = .ok (.iconst 1, 1) := by decide +kernel
theorem dX2_isSame_325 : decode cX2_isSame 325 = .ok (.goto 4, 3) := by decide +kernel
theorem dX2_isSame_328 : decode cX2_isSame 328 = .ok (.iconst 0, 1) := by decide +kernel
theorem dX2_isSame_329 : decode cX2_isSame 329 = .ok (.if_icmp .ne 53, 3) := by decide +kernel
theorem dX2_isSame_332 : decode cX2_isSame 332 = .ok (.aload_n 1, 1) := by decide +kernel
theorem dX2_isSame_333 : decode cX2_isSame 333 = .ok (.iload 4, 2) := by decide +kernel
theorem dX2_isSame_335 : decode cX2_isSame 335 = .ok (.iload 5, 2) := by decide +kernel
theorem dX2_isSame_337 : decode cX2_isSame 337 = .ok (.invokevirtual 137, 3) := by decide +kernel
theorem dX2_isSame_340 : decode cX2_isSame 340 = .ok (.iload 6, 2) := by decide +kernel
theorem dX2_isSame_342 : decode cX2_isSame 342 = .ok (.ifCond .ge 7, 3) := by decide +kernel
theorem dX2_isSame_345 : decode cX2_isSame 345 = .ok (.iconst 0, 1) := by decide +kernel
theorem dX2_isSame_346 : decode cX2_isSame 346 = .ok (.goto 12, 3) := by decide +kernel
theorem dX2_isSame_349 : decode cX2_isSame 349 = .ok (.aload_n 0, 1) := by decide +kernel
theorem dX2_isSame_350 : decode cX2_isSame 350 = .ok (.getfield 18, 3) := by decide +kernel
theorem dX2_isSame_353 : decode cX2_isSame 353 = .ok (.iload 6, 2) := by decide +kernel
theorem dX2_isSame_355 : decode cX2_isSame 355 = .ok (.aaload, 1) := by decide +kernel
theorem dX2_isSame_356 : decode cX2_isSame 356 = .ok (.iconst 2, 1) := by decide +kernel
theorem dX2_isSame_357 : decode cX2_isSame 357 = .ok (.iaload, 1) := by decide +kernel
theorem dX2_isSame_358 : decode cX2_isSame 358 = .ok (.if_icmp .ne 24, 3) := by decide +kernel
theorem dX2_isSame_361 : decode cX2_isSame 361 = .ok (.aload_n 1, 1) := by decide +kernel
theorem dX2_isSame_362 : decode cX2_isSame 362 = .ok (.iload 4, 2) := by decide +kernel
theorem dX2_isSame_364 : decode cX2_isSame 364 = .ok (.iload 5, 2) := by decide +kernel
theorem dX2_isSame_366 : decode cX2_isSame 366 = .ok (.invokevirtual 140, 3) := by decide +kernel
theorem dX2_isSame_369 : decode cX2_isSame 369 = .ok (.aload_n 0, 1) := by decide +kernel
theorem dX2_isSame_370 : decode cX2_isSame 370 = .ok (.getfield 38, 3) := by decide +kernel
theorem dX2_isSame_373 : decode cX2_isSame 373 = .ok (.iload 4, 2) := by decide +kernel
theorem dX2_isSame_375 : decode cX2_isSame 375 = .ok (.aaload, 1) := by decide +kernel
theorem dX2_isSame_376 : decode cX2_isSame 376 = .ok (.iload 5, 2) := by decide +kernel
theorem dX2_isSame_378 : decode cX2_isSame 378 = .ok (.iaload, 1) := by decide +kernel
theorem dX2_isSame_379 : decode cX2_isSame 379 = .ok (.if_icmp .eq 5, 3) := by decide +kernel
theorem dX2_isSame_382 : decode cX2_isSame 382 = .ok (.iconst 0, 1) := by decide +kernel
theorem dX2_isSame_383 : decode cX2_isSame 383 = .ok (.ireturn, 1) := by decide +kernel
theorem dX2_isSame_384 : decode cX2_isSame 384 = .ok (.iinc 5 1, 3) := by decide +kernel
theorem dX2_isSame_387 : decode cX2_isSame 387 = .ok (.goto (-95), 3) := by decide +kernel
theorem dX2_isSame_390 : decode cX2_isSame 390 = .ok (.iinc 4 1, 3) := by decide +kernel
theorem dX2_isSame_393 : decode cX2_isSame 393 = .ok (.goto (-198), 3) := by decide +kernel
theorem dX2_isSame_396 : decode cX2_isSame 396 = .ok (.aload_n 1, 1) := by decide +kernel
theorem dX2_isSame_397 : decode cX2_isSame 397 = .ok (.invokevirtual 143, 3) := by decide +kernel
theorem dX2_isSame_400 : decode cX2_isSame 400 = .ok (.iload_n 3, 1) := by decide +kernel
theorem dX2_isSame_401 : decode cX2_isSame 401 = .ok (.if_icmp .ne 31, 3) := by decide +kernel
theorem dX2_isSame_404 : decode cX2_isSame 404 = .ok (.aload_n 1, 1) := by decide +kernel
theorem dX2_isSame_405 : decode cX2_isSame 405 = .ok (.invokevirtual 146, 3) := by decide +kernel
theorem dX2_isSame_408 : decode cX2_isSame 408 = .ok (.aload_n 0, 1) := by decide +kernel
theorem dX2_isSame_409 : decode cX2_isSame 409 = .ok (.invokevirtual 66, 3) := by decide +kernel
theorem dX2_isSame_412 : decode cX2_isSame 412 = .ok (.aload_n 0, 1) := by decide +kernel
theorem dX2_isSame_413 : decode cX2_isSame 413 = .ok (.getfield 53, 3) := by decide +kernel
theorem dX2_isSame_416 : decode cX2_isSame 416 = .ok (.isub, 1) := by decide +kernel
theorem dX2_isSame_417 : decode cX2_isSame 417 = .ok (.i2d, 1) := by decide +kernel
theorem dX2_isSame_418 : decode cX2_isSame 418 = .ok (.aload_n 0, 1) := by decide +kernel
theorem dX2_isSame_419 : decode cX2_isSame 419 = .ok (.getfield 22, 3) := by decide +kernel
theorem dX2_isSame_422 : decode cX2_isSame 422 = .ok (.i2d, 1) := by decide +kernel
theorem dX2_isSame_423 : decode cX2_isSame 423 = .ok (.ddiv, 1) := by decide +kernel
theorem dX2_isSame_424 : decode cX2_isSame 424 = .ok (.dcmp .l, 1) := by decide +kernel
theorem dX2_isSame_425 : decode cX2_isSame 425 = .ok (.ifCond .ne 7, 3) := by decide +kernel
theorem dX2_isSame_428 : decode cX2_isSame 428 = .ok (.iconst 1, 1) := by decide +kernel
theorem dX2_isSame_429 : decode cX2_isSame 429 = .ok (.goto 4, 3) := by decide +kernel
theorem dX2_isSame_432 : decode cX2_isSame 432 = .ok (.iconst 0, 1) := by decide +kernel
theorem dX2_isSame_433 : decode cX2_isSame 433 = .ok (.ireturn, 1) := by decide +kernel
