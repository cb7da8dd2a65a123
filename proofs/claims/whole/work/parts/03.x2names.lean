theorem dX2_init_0 : decode cX2_init 0 = .ok (.aload_n 0, 1) := by decide +kernel
theorem dX2_init_1 : decode cX2_init 1 = .ok (.invokespecial 1, 3) := by decide +kernel
theorem dX2_init_4 : decode cX2_init 4 = .ok (.aload_n 0, 1) := by decide +kernel
theorem dX2_init_5 : decode cX2_init 5 = .ok (.iconst 4, 1) := by decide +kernel
theorem dX2_init_6 : decode cX2_init 6 = .ok (.putfield 7, 3) := by decide +kernel
theorem dX2_init_9 : decode cX2_init 9 = .ok (.aload_n 0, 1) := by decide +kernel
theorem dX2_init_10 : decode cX2_init 10 = .ok (.iconst 5, 1) := by decide +kernel
theorem dX2_init_11 : decode cX2_init 11 = .ok (.putfield 13, 3) := by decide +kernel
theorem dX2_init_14 : decode cX2_init 14 = .ok (.aload_n 0, 1) := by decide +kernel
theorem dX2_init_15 : decode cX2_init 15 = .ok (.sipush 348, 3) := by decide +kernel
theorem dX2_init_18 : decode cX2_init 18 = .ok (.newarray .int, 2) := by decide +kernel
theorem dX2_init_20 : decode cX2_init 20 = .ok (.putfield 16, 3) := by decide +kernel
theorem dX2_init_23 : decode cX2_init 23 = .ok (.aload_n 0, 1) := by decide +kernel
theorem dX2_init_24 : decode cX2_init 24 = .ok (.sipush 348, 3) := by decide +kernel
theorem dX2_init_27 : decode cX2_init 27 = .ok (.newarray .int, 2) := by decide +kernel
theorem dX2_init_29 : decode cX2_init 29 = .ok (.putfield 20, 3) := by decide +kernel
theorem dX2_init_32 : decode cX2_init 32 = .ok (.aload_n 0, 1) := by decide +kernel
theorem dX2_init_33 : decode cX2_init 33 = .ok (.iconst (-1), 1) := by decide +kernel
theorem dX2_init_34 : decode cX2_init 34 = .ok (.putfield 23, 3) := by decide +kernel
theorem dX2_init_37 : decode cX2_init 37 = .ok (.aload_n 0, 1) := by decide +kernel
theorem dX2_init_38 : decode cX2_init 38 = .ok (.getfield 16, 3) := by decide +kernel
theorem dX2_init_41 : decode cX2_init 41 = .ok (.iconst 1, 1) := by decide +kernel
theorem dX2_init_42 : decode cX2_init 42 = .ok (.iconst (-1), 1) := by decide +kernel
theorem dX2_init_43 : decode cX2_init 43 = .ok (.iastore, 1) := by decide +kernel
theorem dX2_init_44 : decode cX2_init 44 = .ok (.return_, 1) := by decide +kernel
theorem dX2_thrown_0 : decode cX2_thrown 0 = .ok (.aload_n 0, 1) := by decide +kernel
theorem dX2_thrown_1 : decode cX2_thrown 1 = .ok (.getfield 26, 3) := by decide +kernel
theorem dX2_thrown_4 : decode cX2_thrown 4 = .ok (.ireturn, 1) := by decide +kernel
theorem dX2_fail_0 : decode cX2_fail 0 = .ok (.aload_n 0, 1) := by decide +kernel
theorem dX2_fail_1 : decode cX2_fail 1 = .ok (.iload_n 1, 1) := by decide +kernel
theorem dX2_fail_2 : decode cX2_fail 2 = .ok (.putfield 26, 3) := by decide +kernel
theorem dX2_fail_5 : decode cX2_fail 5 = .ok (.iconst 0, 1) := by decide +kernel
theorem dX2_fail_6 : decode cX2_fail 6 = .ok (.ireturn, 1) := by decide +kernel
theorem dX2_told_0 : decode cX2_told 0 = .ok (.aload_n 0, 1) := by decide +kernel
theorem dX2_told_1 : decode cX2_told 1 = .ok (.iconst 0, 1) := by decide +kernel
theorem dX2_told_2 : decode cX2_told 2 = .ok (.putfield 26, 3) := by decide +kernel
theorem dX2_told_5 : decode cX2_told 5 = .ok (.iload_n 1, 1) := by decide +kernel
theorem dX2_told_6 : decode cX2_told 6 = .ok (.ireturn, 1) := by decide +kernel
theorem dX2_isIn_0 : decode cX2_isIn 0 = .ok (.iload_n 0, 1) := by decide +kernel
theorem dX2_isIn_1 : decode cX2_isIn 1 = .ok (.iload_n 1, 1) := by decide +kernel
theorem dX2_isIn_2 : decode cX2_isIn 2 = .ok (.if_icmp .lt 12, 3) := by decide +kernel
theorem dX2_isIn_5 : decode cX2_isIn 5 = .ok (.iload_n 0, 1) := by decide +kernel
theorem dX2_isIn_6 : decode cX2_isIn 6 = .ok (.iload_n 2, 1) := by decide +kernel
theorem dX2_isIn_7 : decode cX2_isIn 7 = .ok (.if_icmp .gt 7, 3) := by decide +kernel
theorem dX2_isIn_10 : decode cX2_isIn 10 = .ok (.iconst 1, 1) := by decide +kernel
theorem dX2_isIn_11 : decode cX2_isIn 11 = .ok (.goto 4, 3) := by decide +kernel
theorem dX2_isIn_14 : decode cX2_isIn 14 = .ok (.iconst 0, 1) := by decide +kernel
theorem dX2_isIn_15 : decode cX2_isIn 15 = .ok (.ireturn, 1) := by decide +kernel
set_option maxRecDepth 20000 in
theorem ggX2_isGuest_X2_isIn : GoodIn wsX2_isGuest wsX2_isIn := goodIn_r _ [5] (by decide +kernel) (by decide +kernel)
set_option maxRecDepth 20000 in
theorem gX2_isGuest_X2_isIn : GoodIn wsX2_isGuest (va_wsS RX2 29 yX2_isIn wsX2_isIn) := goodIn_app (goodIn_of _ (by decide +kernel)) ggX2_isGuest_X2_isIn
theorem dX2_isGuest_0 : decode cX2_isGuest 0 = .ok (.iload_n 1, 1) := by decide +kernel
theorem dX2_isGuest_1 : decode cX2_isGuest 1 = .ok (.iconst 0, 1) := by decide +kernel
theorem dX2_isGuest_2 : decode cX2_isGuest 2 = .ok (.aload_n 0, 1) := by decide +kernel
theorem dX2_isGuest_3 : decode cX2_isGuest 3 = .ok (.getfield 7, 3) := by decide +kernel
theorem dX2_isGuest_6 : decode cX2_isGuest 6 = .ok (.iconst 1, 1) := by decide +kernel
theorem dX2_isGuest_7 : decode cX2_isGuest 7 = .ok (.isub, 1) := by decide +kernel
theorem dX2_isGuest_8 : decode cX2_isGuest 8 = .ok (.invokestatic 29, 3) := by decide +kernel
theorem dX2_isGuest_11 : decode cX2_isGuest 11 = .ok (.ireturn, 1) := by decide +kernel
theorem dX2_keep_0 : decode cX2_keep 0 = .ok (.aload_n 0, 1) := by decide +kernel
theorem dX2_keep_1 : decode cX2_keep 1 = .ok (.getfield 16, 3) := by decide +kernel
theorem dX2_keep_4 : decode cX2_keep 4 = .ok (.iconst 0, 1) := by decide +kernel
theorem dX2_keep_5 : decode cX2_keep 5 = .ok (.aload_n 0, 1) := by decide +kernel
theorem dX2_keep_6 : decode cX2_keep 6 = .ok (.getfield 20, 3) := by decide +kernel
theorem dX2_keep_9 : decode cX2_keep 9 = .ok (.iconst 0, 1) := by decide +kernel
theorem dX2_keep_10 : decode cX2_keep 10 = .ok (.sipush 348, 3) := by decide +kernel
theorem dX2_keep_13 : decode cX2_keep 13 = .ok (.invokestatic 33, 3) := by decide +kernel
theorem dX2_keep_16 : decode cX2_keep 16 = .ok (.return_, 1) := by decide +kernel
theorem dX2_bringBack_0 : decode cX2_bringBack 0 = .ok (.aload_n 0, 1) := by decide +kernel
theorem dX2_bringBack_1 : decode cX2_bringBack 1 = .ok (.getfield 20, 3) := by decide +kernel
theorem dX2_bringBack_4 : decode cX2_bringBack 4 = .ok (.iconst 0, 1) := by decide +kernel
theorem dX2_bringBack_5 : decode cX2_bringBack 5 = .ok (.aload_n 0, 1) := by decide +kernel
theorem dX2_bringBack_6 : decode cX2_bringBack 6 = .ok (.getfield 16, 3) := by decide +kernel
theorem dX2_bringBack_9 : decode cX2_bringBack 9 = .ok (.iconst 0, 1) := by decide +kernel
theorem dX2_bringBack_10 : decode cX2_bringBack 10 = .ok (.sipush 348, 3) := by decide +kernel
theorem dX2_bringBack_13 : decode cX2_bringBack 13 = .ok (.invokestatic 33, 3) := by decide +kernel
theorem dX2_bringBack_16 : decode cX2_bringBack 16 = .ok (.return_, 1) := by decide +kernel
theorem dX2_pair_0 : decode cX2_pair 0 = .ok (.bipush 10, 2) := by decide +kernel
theorem dX2_pair_2 : decode cX2_pair 2 = .ok (.iload_n 0, 1) := by decide +kernel
theorem dX2_pair_3 : decode cX2_pair 3 = .ok (.imul, 1) := by decide +kernel
theorem dX2_pair_4 : decode cX2_pair 4 = .ok (.iload_n 1, 1) := by decide +kernel
theorem dX2_pair_5 : decode cX2_pair 5 = .ok (.iadd, 1) := by decide +kernel
theorem dX2_pair_6 : decode cX2_pair 6 = .ok (.ireturn, 1) := by decide +kernel
theorem dX2_apart_0 : decode cX2_apart 0 = .ok (.iload_n 1, 1) := by decide +kernel
theorem dX2_apart_1 : decode cX2_apart 1 = .ok (.iload_n 2, 1) := by decide +kernel
theorem dX2_apart_2 : decode cX2_apart 2 = .ok (.isub, 1) := by decide +kernel
theorem dX2_apart_3 : decode cX2_apart 3 = .ok (.invokestatic 39, 3) := by decide +kernel
theorem dX2_apart_6 : decode cX2_apart 6 = .ok (.istore_n 3, 1) := by decide +kernel
theorem dX2_apart_7 : decode cX2_apart 7 = .ok (.iload_n 3, 1) := by decide +kernel
theorem dX2_apart_8 : decode cX2_apart 8 = .ok (.aload_n 0, 1) := by decide +kernel
theorem dX2_apart_9 : decode cX2_apart 9 = .ok (.getfield 7, 3) := by decide +kernel
theorem dX2_apart_12 : decode cX2_apart 12 = .ok (.iload_n 3, 1) := by decide +kernel
theorem dX2_apart_13 : decode cX2_apart 13 = .ok (.isub, 1) := by decide +kernel
theorem dX2_apart_14 : decode cX2_apart 14 = .ok (.invokestatic 45, 3) := by decide +kernel
theorem dX2_apart_17 : decode cX2_apart 17 = .ok (.ireturn, 1) := by decide +kernel
theorem dX2_unsaid_0 : decode cX2_unsaid 0 = .ok (.aload_n 0, 1) := by decide +kernel
theorem dX2_unsaid_1 : decode cX2_unsaid 1 = .ok (.getfield 16, 3) := by decide +kernel
theorem dX2_unsaid_4 : decode cX2_unsaid 4 = .ok (.iconst 4, 1) := by decide +kernel
theorem dX2_unsaid_5 : decode cX2_unsaid 5 = .ok (.iaload, 1) := by decide +kernel
theorem dX2_unsaid_6 : decode cX2_unsaid 6 = .ok (.istore_n 1, 1) := by decide +kernel
theorem dX2_unsaid_7 : decode cX2_unsaid 7 = .ok (.iconst 0, 1) := by decide +kernel
theorem dX2_unsaid_8 : decode cX2_unsaid 8 = .ok (.istore_n 2, 1) := by decide +kernel
theorem dX2_unsaid_9 : decode cX2_unsaid 9 = .ok (.iload_n 2, 1) := by decide +kernel
theorem dX2_unsaid_10 : decode cX2_unsaid 10 = .ok (.aload_n 0, 1) := by decide +kernel
theorem dX2_unsaid_11 : decode cX2_unsaid 11 = .ok (.getfield 7, 3) := by decide +kernel
theorem dX2_unsaid_14 : decode cX2_unsaid 14 = .ok (.if_icmp .ge 21, 3) := by decide +kernel
theorem dX2_unsaid_17 : decode cX2_unsaid 17 = .ok (.iload_n 1, 1) := by decide +kernel
theorem dX2_unsaid_18 : decode cX2_unsaid 18 = .ok (.aload_n 0, 1) := by decide +kernel
theorem dX2_unsaid_19 : decode cX2_unsaid 19 = .ok (.getfield 16, 3) := by decide +kernel
theorem dX2_unsaid_22 : decode cX2_unsaid 22 = .ok (.bipush 38, 2) := by decide +kernel
theorem dX2_unsaid_24 : decode cX2_unsaid 24 = .ok (.iload_n 2, 1) := by decide +kernel
theorem dX2_unsaid_25 : decode cX2_unsaid 25 = .ok (.iadd, 1) := by decide +kernel
theorem dX2_unsaid_26 : decode cX2_unsaid 26 = .ok (.iaload, 1) := by decide +kernel
theorem dX2_unsaid_27 : decode cX2_unsaid 27 = .ok (.iadd, 1) := by decide +kernel
theorem dX2_unsaid_28 : decode cX2_unsaid 28 = .ok (.istore_n 1, 1) := by decide +kernel
theorem dX2_unsaid_29 : decode cX2_unsaid 29 = .ok (.iinc 2 1, 3) := by decide +kernel
theorem dX2_unsaid_32 : decode cX2_unsaid 32 = .ok (.goto (-23), 3) := by decide +kernel
theorem dX2_unsaid_35 : decode cX2_unsaid 35 = .ok (.iload_n 1, 1) := by decide +kernel
theorem dX2_unsaid_36 : decode cX2_unsaid 36 = .ok (.ireturn, 1) := by decide +kernel
set_option maxRecDepth 20000 in
theorem ggX2_rated_X2_unsaid : GoodIn wsX2_rated wsX2_unsaid := goodIn_r _ [13, 14, 1, 15, 16, 17, 18, 19, 20, 21] (by decide +kernel) (by decide +kernel)
set_option maxRecDepth 20000 in
theorem gX2_rated_X2_unsaid : GoodIn wsX2_rated (wsV RX2 49 RX2 yX2_unsaid wsX2_unsaid) := goodIn_app (goodIn_of _ (by decide +kernel)) ggX2_rated_X2_unsaid
theorem dX2_rated_0 : decode cX2_rated 0 = .ok (.iconst 0, 1) := by decide +kernel
theorem dX2_rated_1 : decode cX2_rated 1 = .ok (.bipush 10, 2) := by decide +kernel
theorem dX2_rated_3 : decode cX2_rated 3 = .ok (.aload_n 0, 1) := by decide +kernel
theorem dX2_rated_4 : decode cX2_rated 4 = .ok (.invokevirtual 49, 3) := by decide +kernel
theorem dX2_rated_7 : decode cX2_rated 7 = .ok (.aload_n 0, 1) := by decide +kernel
theorem dX2_rated_8 : decode cX2_rated 8 = .ok (.getfield 7, 3) := by decide +kernel
theorem dX2_rated_11 : decode cX2_rated 11 = .ok (.idiv, 1) := by decide +kernel
theorem dX2_rated_12 : decode cX2_rated 12 = .ok (.iconst 4, 1) := by decide +kernel
theorem dX2_rated_13 : decode cX2_rated 13 = .ok (.isub, 1) := by decide +kernel
theorem dX2_rated_14 : decode cX2_rated 14 = .ok (.invokestatic 39, 3) := by decide +kernel
theorem dX2_rated_17 : decode cX2_rated 17 = .ok (.isub, 1) := by decide +kernel
theorem dX2_rated_18 : decode cX2_rated 18 = .ok (.invokestatic 53, 3) := by decide +kernel
theorem dX2_rated_21 : decode cX2_rated 21 = .ok (.ireturn, 1) := by decide +kernel
theorem dX2_talk_0 : decode cX2_talk 0 = .ok (.aload_n 0, 1) := by decide +kernel
theorem dX2_talk_1 : decode cX2_talk 1 = .ok (.getfield 16, 3) := by decide +kernel
theorem dX2_talk_4 : decode cX2_talk 4 = .ok (.iconst 1, 1) := by decide +kernel
theorem dX2_talk_5 : decode cX2_talk 5 = .ok (.iaload, 1) := by decide +kernel
theorem dX2_talk_6 : decode cX2_talk 6 = .ok (.istore_n 1, 1) := by decide +kernel
theorem dX2_talk_7 : decode cX2_talk 7 = .ok (.iload_n 1, 1) := by decide +kernel
theorem dX2_talk_8 : decode cX2_talk 8 = .ok (.iconst (-1), 1) := by decide +kernel
theorem dX2_talk_9 : decode cX2_talk 9 = .ok (.if_icmp .ne 38, 3) := by decide +kernel
theorem dX2_talk_12 : decode cX2_talk 12 = .ok (.aload_n 0, 1) := by decide +kernel
theorem dX2_talk_13 : decode cX2_talk 13 = .ok (.getfield 16, 3) := by decide +kernel
theorem dX2_talk_16 : decode cX2_talk 16 = .ok (.iconst 3, 1) := by decide +kernel
theorem dX2_talk_17 : decode cX2_talk 17 = .ok (.dup2, 1) := by decide +kernel
theorem dX2_talk_18 : decode cX2_talk 18 = .ok (.iaload, 1) := by decide +kernel
theorem dX2_talk_19 : decode cX2_talk 19 = .ok (.iconst 1, 1) := by decide +kernel
theorem dX2_talk_20 : decode cX2_talk 20 = .ok (.iadd, 1) := by decide +kernel
theorem dX2_talk_21 : decode cX2_talk 21 = .ok (.iastore, 1) := by decide +kernel
theorem dX2_talk_22 : decode cX2_talk 22 = .ok (.aload_n 0, 1) := by decide +kernel
theorem dX2_talk_23 : decode cX2_talk 23 = .ok (.getfield 16, 3) := by decide +kernel
theorem dX2_talk_26 : decode cX2_talk 26 = .ok (.iconst 3, 1) := by decide +kernel
theorem dX2_talk_27 : decode cX2_talk 27 = .ok (.iaload, 1) := by decide +kernel
theorem dX2_talk_28 : decode cX2_talk 28 = .ok (.aload_n 0, 1) := by decide +kernel
theorem dX2_talk_29 : decode cX2_talk 29 = .ok (.getfield 13, 3) := by decide +kernel
theorem dX2_talk_32 : decode cX2_talk 32 = .ok (.irem, 1) := by decide +kernel
theorem dX2_talk_33 : decode cX2_talk 33 = .ok (.ifCond .ne 13, 3) := by decide +kernel
theorem dX2_talk_36 : decode cX2_talk 36 = .ok (.aload_n 0, 1) := by decide +kernel
theorem dX2_talk_37 : decode cX2_talk 37 = .ok (.getfield 16, 3) := by decide +kernel
theorem dX2_talk_40 : decode cX2_talk 40 = .ok (.iconst 4, 1) := by decide +kernel
theorem dX2_talk_41 : decode cX2_talk 41 = .ok (.dup2, 1) := by decide +kernel
theorem dX2_talk_42 : decode cX2_talk 42 = .ok (.iaload, 1) := by decide +kernel
theorem dX2_talk_43 : decode cX2_talk 43 = .ok (.iconst 1, 1) := by decide +kernel
theorem dX2_talk_44 : decode cX2_talk 44 = .ok (.iadd, 1) := by decide +kernel
theorem dX2_talk_45 : decode cX2_talk 45 = .ok (.iastore, 1) := by decide +kernel
theorem dX2_talk_46 : decode cX2_talk 46 = .ok (.return_, 1) := by decide +kernel
theorem dX2_talk_47 : decode cX2_talk 47 = .ok (.aload_n 0, 1) := by decide +kernel
theorem dX2_talk_48 : decode cX2_talk 48 = .ok (.getfield 16, 3) := by decide +kernel
theorem dX2_talk_51 : decode cX2_talk 51 = .ok (.iconst 3, 1) := by decide +kernel
theorem dX2_talk_52 : decode cX2_talk 52 = .ok (.iconst 0, 1) := by decide +kernel
theorem dX2_talk_53 : decode cX2_talk 53 = .ok (.iastore, 1) := by decide +kernel
theorem dX2_talk_54 : decode cX2_talk 54 = .ok (.aload_n 0, 1) := by decide +kernel
theorem dX2_talk_55 : decode cX2_talk 55 = .ok (.getfield 16, 3) := by decide +kernel
theorem dX2_talk_58 : decode cX2_talk 58 = .ok (.bipush 8, 2) := by decide +kernel
theorem dX2_talk_60 : decode cX2_talk 60 = .ok (.iload_n 1, 1) := by decide +kernel
theorem dX2_talk_61 : decode cX2_talk 61 = .ok (.iadd, 1) := by decide +kernel
theorem dX2_talk_62 : decode cX2_talk 62 = .ok (.dup2, 1) := by decide +kernel
theorem dX2_talk_63 : decode cX2_talk 63 = .ok (.iaload, 1) := by decide +kernel
theorem dX2_talk_64 : decode cX2_talk 64 = .ok (.iconst 1, 1) := by decide +kernel
theorem dX2_talk_65 : decode cX2_talk 65 = .ok (.iadd, 1) := by decide +kernel
theorem dX2_talk_66 : decode cX2_talk 66 = .ok (.iastore, 1) := by decide +kernel
theorem dX2_talk_67 : decode cX2_talk 67 = .ok (.aload_n 0, 1) := by decide +kernel
theorem dX2_talk_68 : decode cX2_talk 68 = .ok (.getfield 16, 3) := by decide +kernel
theorem dX2_talk_71 : decode cX2_talk 71 = .ok (.iconst 2, 1) := by decide +kernel
theorem dX2_talk_72 : decode cX2_talk 72 = .ok (.dup2, 1) := by decide +kernel
theorem dX2_talk_73 : decode cX2_talk 73 = .ok (.iaload, 1) := by decide +kernel
theorem dX2_talk_74 : decode cX2_talk 74 = .ok (.iconst 1, 1) := by decide +kernel
theorem dX2_talk_75 : decode cX2_talk 75 = .ok (.isub, 1) := by decide +kernel
theorem dX2_talk_76 : decode cX2_talk 76 = .ok (.iastore, 1) := by decide +kernel
theorem dX2_talk_77 : decode cX2_talk 77 = .ok (.aload_n 0, 1) := by decide +kernel
theorem dX2_talk_78 : decode cX2_talk 78 = .ok (.getfield 16, 3) := by decide +kernel
theorem dX2_talk_81 : decode cX2_talk 81 = .ok (.iconst 2, 1) := by decide +kernel
theorem dX2_talk_82 : decode cX2_talk 82 = .ok (.iaload, 1) := by decide +kernel
theorem dX2_talk_83 : decode cX2_talk 83 = .ok (.ifCond .ne 10, 3) := by decide +kernel
theorem dX2_talk_86 : decode cX2_talk 86 = .ok (.aload_n 0, 1) := by decide +kernel
theorem dX2_talk_87 : decode cX2_talk 87 = .ok (.getfield 16, 3) := by decide +kernel
theorem dX2_talk_90 : decode cX2_talk 90 = .ok (.iconst 1, 1) := by decide +kernel
theorem dX2_talk_91 : decode cX2_talk 91 = .ok (.iconst (-1), 1) := by decide +kernel
theorem dX2_talk_92 : decode cX2_talk 92 = .ok (.iastore, 1) := by decide +kernel
theorem dX2_talk_93 : decode cX2_talk 93 = .ok (.return_, 1) := by decide +kernel
set_option maxRecDepth 20000 in
theorem ggX2_arrives_X2_pair : GoodIn wsX2_arrives wsX2_pair := goodIn_r _ [7] (by decide +kernel) (by decide +kernel)
set_option maxRecDepth 20000 in
theorem gX2_arrives_X2_pair : GoodIn wsX2_arrives (va_wsS RX2 56 yX2_pair wsX2_pair) := goodIn_app (goodIn_of _ (by decide +kernel)) ggX2_arrives_X2_pair
theorem dX2_arrives_0 : decode cX2_arrives 0 = .ok (.iload_n 2, 1) := by decide +kernel
theorem dX2_arrives_1 : decode cX2_arrives 1 = .ok (.iload_n 1, 1) := by decide +kernel
theorem dX2_arrives_2 : decode cX2_arrives 2 = .ok (.invokestatic 56, 3) := by decide +kernel
theorem dX2_arrives_5 : decode cX2_arrives 5 = .ok (.istore_n 3, 1) := by decide +kernel
theorem dX2_arrives_6 : decode cX2_arrives 6 = .ok (.aload_n 0, 1) := by decide +kernel
theorem dX2_arrives_7 : decode cX2_arrives 7 = .ok (.getfield 16, 3) := by decide +kernel
theorem dX2_arrives_10 : decode cX2_arrives 10 = .ok (.sipush 148, 3) := by decide +kernel
theorem dX2_arrives_13 : decode cX2_arrives 13 = .ok (.iload_n 3, 1) := by decide +kernel
theorem dX2_arrives_14 : decode cX2_arrives 14 = .ok (.iadd, 1) := by decide +kernel
theorem dX2_arrives_15 : decode cX2_arrives 15 = .ok (.iaload, 1) := by decide +kernel
theorem dX2_arrives_16 : decode cX2_arrives 16 = .ok (.ifCond .le 7, 3) := by decide +kernel
theorem dX2_arrives_19 : decode cX2_arrives 19 = .ok (.iconst 1, 1) := by decide +kernel
theorem dX2_arrives_20 : decode cX2_arrives 20 = .ok (.goto 4, 3) := by decide +kernel
theorem dX2_arrives_23 : decode cX2_arrives 23 = .ok (.iconst 0, 1) := by decide +kernel
theorem dX2_arrives_24 : decode cX2_arrives 24 = .ok (.istore 4, 2) := by decide +kernel
theorem dX2_arrives_26 : decode cX2_arrives 26 = .ok (.aload_n 0, 1) := by decide +kernel
theorem dX2_arrives_27 : decode cX2_arrives 27 = .ok (.getfield 16, 3) := by decide +kernel
theorem dX2_arrives_30 : decode cX2_arrives 30 = .ok (.sipush 148, 3) := by decide +kernel
theorem dX2_arrives_33 : decode cX2_arrives 33 = .ok (.iload_n 1, 1) := by decide +kernel
theorem dX2_arrives_34 : decode cX2_arrives 34 = .ok (.iload_n 2, 1) := by decide +kernel
theorem dX2_arrives_35 : decode cX2_arrives 35 = .ok (.invokestatic 56, 3) := by decide +kernel
theorem dX2_arrives_38 : decode cX2_arrives 38 = .ok (.iadd, 1) := by decide +kernel
theorem dX2_arrives_39 : decode cX2_arrives 39 = .ok (.iconst 0, 1) := by decide +kernel
theorem dX2_arrives_40 : decode cX2_arrives 40 = .ok (.iastore, 1) := by decide +kernel
theorem dX2_arrives_41 : decode cX2_arrives 41 = .ok (.aload_n 0, 1) := by decide +kernel
theorem dX2_arrives_42 : decode cX2_arrives 42 = .ok (.getfield 23, 3) := by decide +kernel
theorem dX2_arrives_45 : decode cX2_arrives 45 = .ok (.iload_n 1, 1) := by decide +kernel
theorem dX2_arrives_46 : decode cX2_arrives 46 = .ok (.iload_n 2, 1) := by decide +kernel
theorem dX2_arrives_47 : decode cX2_arrives 47 = .ok (.invokestatic 56, 3) := by decide +kernel
theorem dX2_arrives_50 : decode cX2_arrives 50 = .ok (.if_icmp .eq 16, 3) := by decide +kernel
theorem dX2_arrives_53 : decode cX2_arrives 53 = .ok (.iload 4, 2) := by decide +kernel
theorem dX2_arrives_55 : decode cX2_arrives 55 = .ok (.ifCond .eq 39, 3) := by decide +kernel
theorem dX2_arrives_58 : decode cX2_arrives 58 = .ok (.aload_n 0, 1) := by decide +kernel
theorem dX2_arrives_59 : decode cX2_arrives 59 = .ok (.getfield 23, 3) := by decide +kernel
theorem dX2_arrives_62 : decode cX2_arrives 62 = .ok (.iload_n 3, 1) := by decide +kernel
theorem dX2_arrives_63 : decode cX2_arrives 63 = .ok (.if_icmp .ne 31, 3) := by decide +kernel
theorem dX2_arrives_66 : decode cX2_arrives 66 = .ok (.aload_n 0, 1) := by decide +kernel
theorem dX2_arrives_67 : decode cX2_arrives 67 = .ok (.iload 4, 2) := by decide +kernel
theorem dX2_arrives_69 : decode cX2_arrives 69 = .ok (.ifCond .eq 7, 3) := by decide +kernel
theorem dX2_arrives_72 : decode cX2_arrives 72 = .ok (.iconst 3, 1) := by decide +kernel
theorem dX2_arrives_73 : decode cX2_arrives 73 = .ok (.goto 18, 3) := by decide +kernel
theorem dX2_arrives_76 : decode cX2_arrives 76 = .ok (.aload_n 0, 1) := by decide +kernel
theorem dX2_arrives_77 : decode cX2_arrives 77 = .ok (.getfield 16, 3) := by decide +kernel
theorem dX2_arrives_80 : decode cX2_arrives 80 = .ok (.iconst 1, 1) := by decide +kernel
theorem dX2_arrives_81 : decode cX2_arrives 81 = .ok (.iaload, 1) := by decide +kernel
theorem dX2_arrives_82 : decode cX2_arrives 82 = .ok (.iload_n 2, 1) := by decide +kernel
theorem dX2_arrives_83 : decode cX2_arrives 83 = .ok (.if_icmp .ne 7, 3) := by decide +kernel
theorem dX2_arrives_86 : decode cX2_arrives 86 = .ok (.iconst 0, 1) := by decide +kernel
theorem dX2_arrives_87 : decode cX2_arrives 87 = .ok (.goto 4, 3) := by decide +kernel
theorem dX2_arrives_90 : decode cX2_arrives 90 = .ok (.iconst 1, 1) := by decide +kernel
theorem dX2_arrives_91 : decode cX2_arrives 91 = .ok (.putfield 59, 3) := by decide +kernel
theorem dX2_arrives_94 : decode cX2_arrives 94 = .ok (.iload 4, 2) := by decide +kernel
theorem dX2_arrives_96 : decode cX2_arrives 96 = .ok (.ifCond .eq 63, 3) := by decide +kernel
theorem dX2_arrives_99 : decode cX2_arrives 99 = .ok (.aload_n 0, 1) := by decide +kernel
theorem dX2_arrives_100 : decode cX2_arrives 100 = .ok (.getfield 16, 3) := by decide +kernel
theorem dX2_arrives_103 : decode cX2_arrives 103 = .ok (.sipush 148, 3) := by decide +kernel
theorem dX2_arrives_106 : decode cX2_arrives 106 = .ok (.iload_n 3, 1) := by decide +kernel
theorem dX2_arrives_107 : decode cX2_arrives 107 = .ok (.iadd, 1) := by decide +kernel
theorem dX2_arrives_108 : decode cX2_arrives 108 = .ok (.iconst 0, 1) := by decide +kernel
theorem dX2_arrives_109 : decode cX2_arrives 109 = .ok (.iastore, 1) := by decide +kernel
theorem dX2_arrives_110 : decode cX2_arrives 110 = .ok (.aload_n 0, 1) := by decide +kernel
theorem dX2_arrives_111 : decode cX2_arrives 111 = .ok (.getfield 16, 3) := by decide +kernel
theorem dX2_arrives_114 : decode cX2_arrives 114 = .ok (.bipush 48, 2) := by decide +kernel
theorem dX2_arrives_116 : decode cX2_arrives 116 = .ok (.iload_n 3, 1) := by decide +kernel
theorem dX2_arrives_117 : decode cX2_arrives 117 = .ok (.iadd, 1) := by decide +kernel
theorem dX2_arrives_118 : decode cX2_arrives 118 = .ok (.iconst 0, 1) := by decide +kernel
theorem dX2_arrives_119 : decode cX2_arrives 119 = .ok (.iastore, 1) := by decide +kernel
theorem dX2_arrives_120 : decode cX2_arrives 120 = .ok (.aload_n 0, 1) := by decide +kernel
theorem dX2_arrives_121 : decode cX2_arrives 121 = .ok (.getfield 16, 3) := by decide +kernel
theorem dX2_arrives_124 : decode cX2_arrives 124 = .ok (.bipush 38, 2) := by decide +kernel
theorem dX2_arrives_126 : decode cX2_arrives 126 = .ok (.iload_n 1, 1) := by decide +kernel
theorem dX2_arrives_127 : decode cX2_arrives 127 = .ok (.iadd, 1) := by decide +kernel
theorem dX2_arrives_128 : decode cX2_arrives 128 = .ok (.dup2, 1) := by decide +kernel
theorem dX2_arrives_129 : decode cX2_arrives 129 = .ok (.iaload, 1) := by decide +kernel
theorem dX2_arrives_130 : decode cX2_arrives 130 = .ok (.iconst 3, 1) := by decide +kernel
theorem dX2_arrives_131 : decode cX2_arrives 131 = .ok (.iadd, 1) := by decide +kernel
theorem dX2_arrives_132 : decode cX2_arrives 132 = .ok (.iastore, 1) := by decide +kernel
theorem dX2_arrives_133 : decode cX2_arrives 133 = .ok (.aload_n 0, 1) := by decide +kernel
theorem dX2_arrives_134 : decode cX2_arrives 134 = .ok (.getfield 16, 3) := by decide +kernel
theorem dX2_arrives_137 : decode cX2_arrives 137 = .ok (.bipush 38, 2) := by decide +kernel
theorem dX2_arrives_139 : decode cX2_arrives 139 = .ok (.iload_n 2, 1) := by decide +kernel
theorem dX2_arrives_140 : decode cX2_arrives 140 = .ok (.iadd, 1) := by decide +kernel
theorem dX2_arrives_141 : decode cX2_arrives 141 = .ok (.dup2, 1) := by decide +kernel
theorem dX2_arrives_142 : decode cX2_arrives 142 = .ok (.iaload, 1) := by decide +kernel
theorem dX2_arrives_143 : decode cX2_arrives 143 = .ok (.iconst 3, 1) := by decide +kernel
theorem dX2_arrives_144 : decode cX2_arrives 144 = .ok (.iadd, 1) := by decide +kernel
theorem dX2_arrives_145 : decode cX2_arrives 145 = .ok (.iastore, 1) := by decide +kernel
theorem dX2_arrives_146 : decode cX2_arrives 146 = .ok (.aload_n 0, 1) := by decide +kernel
theorem dX2_arrives_147 : decode cX2_arrives 147 = .ok (.getfield 16, 3) := by decide +kernel
theorem dX2_arrives_150 : decode cX2_arrives 150 = .ok (.iconst 5, 1) := by decide +kernel
theorem dX2_arrives_151 : decode cX2_arrives 151 = .ok (.dup2, 1) := by decide +kernel
theorem dX2_arrives_152 : decode cX2_arrives 152 = .ok (.iaload, 1) := by decide +kernel
theorem dX2_arrives_153 : decode cX2_arrives 153 = .ok (.iconst 1, 1) := by decide +kernel
theorem dX2_arrives_154 : decode cX2_arrives 154 = .ok (.iadd, 1) := by decide +kernel
theorem dX2_arrives_155 : decode cX2_arrives 155 = .ok (.iastore, 1) := by decide +kernel
theorem dX2_arrives_156 : decode cX2_arrives 156 = .ok (.goto 58, 3) := by decide +kernel
theorem dX2_arrives_159 : decode cX2_arrives 159 = .ok (.aload_n 0, 1) := by decide +kernel
theorem dX2_arrives_160 : decode cX2_arrives 160 = .ok (.getfield 16, 3) := by decide +kernel
theorem dX2_arrives_163 : decode cX2_arrives 163 = .ok (.iconst 1, 1) := by decide +kernel
theorem dX2_arrives_164 : decode cX2_arrives 164 = .ok (.iaload, 1) := by decide +kernel
theorem dX2_arrives_165 : decode cX2_arrives 165 = .ok (.iload_n 2, 1) := by decide +kernel
theorem dX2_arrives_166 : decode cX2_arrives 166 = .ok (.if_icmp .ne 17, 3) := by decide +kernel
theorem dX2_arrives_169 : decode cX2_arrives 169 = .ok (.aload_n 0, 1) := by decide +kernel
theorem dX2_arrives_170 : decode cX2_arrives 170 = .ok (.getfield 16, 3) := by decide +kernel
theorem dX2_arrives_173 : decode cX2_arrives 173 = .ok (.bipush 6, 2) := by decide +kernel
theorem dX2_arrives_175 : decode cX2_arrives 175 = .ok (.dup2, 1) := by decide +kernel
theorem dX2_arrives_176 : decode cX2_arrives 176 = .ok (.iaload, 1) := by decide +kernel
theorem dX2_arrives_177 : decode cX2_arrives 177 = .ok (.iconst 1, 1) := by decide +kernel
theorem dX2_arrives_178 : decode cX2_arrives 178 = .ok (.iadd, 1) := by decide +kernel
theorem dX2_arrives_179 : decode cX2_arrives 179 = .ok (.iastore, 1) := by decide +kernel
theorem dX2_arrives_180 : decode cX2_arrives 180 = .ok (.goto 34, 3) := by decide +kernel
theorem dX2_arrives_183 : decode cX2_arrives 183 = .ok (.aload_n 0, 1) := by decide +kernel
theorem dX2_arrives_184 : decode cX2_arrives 184 = .ok (.getfield 16, 3) := by decide +kernel
theorem dX2_arrives_187 : decode cX2_arrives 187 = .ok (.sipush 248, 3) := by decide +kernel
theorem dX2_arrives_190 : decode cX2_arrives 190 = .ok (.iload_n 1, 1) := by decide +kernel
theorem dX2_arrives_191 : decode cX2_arrives 191 = .ok (.iload_n 2, 1) := by decide +kernel
theorem dX2_arrives_192 : decode cX2_arrives 192 = .ok (.invokestatic 56, 3) := by decide +kernel
theorem dX2_arrives_195 : decode cX2_arrives 195 = .ok (.iadd, 1) := by decide +kernel
theorem dX2_arrives_196 : decode cX2_arrives 196 = .ok (.dup2, 1) := by decide +kernel
theorem dX2_arrives_197 : decode cX2_arrives 197 = .ok (.iaload, 1) := by decide +kernel
theorem dX2_arrives_198 : decode cX2_arrives 198 = .ok (.iconst 1, 1) := by decide +kernel
theorem dX2_arrives_199 : decode cX2_arrives 199 = .ok (.iadd, 1) := by decide +kernel
theorem dX2_arrives_200 : decode cX2_arrives 200 = .ok (.iastore, 1) := by decide +kernel
theorem dX2_arrives_201 : decode cX2_arrives 201 = .ok (.aload_n 0, 1) := by decide +kernel
theorem dX2_arrives_202 : decode cX2_arrives 202 = .ok (.getfield 16, 3) := by decide +kernel
theorem dX2_arrives_205 : decode cX2_arrives 205 = .ok (.bipush 38, 2) := by decide +kernel
theorem dX2_arrives_207 : decode cX2_arrives 207 = .ok (.iload_n 1, 1) := by decide +kernel
theorem dX2_arrives_208 : decode cX2_arrives 208 = .ok (.iadd, 1) := by decide +kernel
theorem dX2_arrives_209 : decode cX2_arrives 209 = .ok (.dup2, 1) := by decide +kernel
theorem dX2_arrives_210 : decode cX2_arrives 210 = .ok (.iaload, 1) := by decide +kernel
theorem dX2_arrives_211 : decode cX2_arrives 211 = .ok (.iconst 1, 1) := by decide +kernel
theorem dX2_arrives_212 : decode cX2_arrives 212 = .ok (.iadd, 1) := by decide +kernel
theorem dX2_arrives_213 : decode cX2_arrives 213 = .ok (.iastore, 1) := by decide +kernel
theorem dX2_arrives_214 : decode cX2_arrives 214 = .ok (.return_, 1) := by decide +kernel
set_option maxRecDepth 20000 in
theorem ggX2_fly_X2_arrives : GoodIn wsX2_fly wsX2_arrives := goodIn_r _ [6, 1, 7, 8, 9, 10, 5, 11, 12, 13, 14, 15, 16, 17, 18] (by decide +kernel) (by decide +kernel)
set_option maxRecDepth 20000 in
theorem gX2_fly_X2_arrives : GoodIn wsX2_fly (wsV RX2 62 RX2 yX2_arrives wsX2_arrives) := goodIn_app (goodIn_of _ (by decide +kernel)) ggX2_fly_X2_arrives
theorem dX2_fly_0 : decode cX2_fly 0 = .ok (.iconst 0, 1) := by decide +kernel
theorem dX2_fly_1 : decode cX2_fly 1 = .ok (.istore_n 1, 1) := by decide +kernel
theorem dX2_fly_2 : decode cX2_fly 2 = .ok (.iload_n 1, 1) := by decide +kernel
theorem dX2_fly_3 : decode cX2_fly 3 = .ok (.bipush 100, 2) := by decide +kernel
theorem dX2_fly_5 : decode cX2_fly 5 = .ok (.if_icmp .ge 35, 3) := by decide +kernel
theorem dX2_fly_8 : decode cX2_fly 8 = .ok (.aload_n 0, 1) := by decide +kernel
theorem dX2_fly_9 : decode cX2_fly 9 = .ok (.getfield 16, 3) := by decide +kernel
theorem dX2_fly_12 : decode cX2_fly 12 = .ok (.sipush 148, 3) := by decide +kernel
theorem dX2_fly_15 : decode cX2_fly 15 = .ok (.iload_n 1, 1) := by decide +kernel
theorem dX2_fly_16 : decode cX2_fly 16 = .ok (.iadd, 1) := by decide +kernel
theorem dX2_fly_17 : decode cX2_fly 17 = .ok (.iaload, 1) := by decide +kernel
theorem dX2_fly_18 : decode cX2_fly 18 = .ok (.ifCond .le 16, 3) := by decide +kernel
theorem dX2_fly_21 : decode cX2_fly 21 = .ok (.aload_n 0, 1) := by decide +kernel
theorem dX2_fly_22 : decode cX2_fly 22 = .ok (.getfield 16, 3) := by decide +kernel
theorem dX2_fly_25 : decode cX2_fly 25 = .ok (.bipush 48, 2) := by decide +kernel
theorem dX2_fly_27 : decode cX2_fly 27 = .ok (.iload_n 1, 1) := by decide +kernel
theorem dX2_fly_28 : decode cX2_fly 28 = .ok (.iadd, 1) := by decide +kernel
theorem dX2_fly_29 : decode cX2_fly 29 = .ok (.dup2, 1) := by decide +kernel
theorem dX2_fly_30 : decode cX2_fly 30 = .ok (.iaload, 1) := by decide +kernel
theorem dX2_fly_31 : decode cX2_fly 31 = .ok (.iconst 1, 1) := by decide +kernel
theorem dX2_fly_32 : decode cX2_fly 32 = .ok (.isub, 1) := by decide +kernel
theorem dX2_fly_33 : decode cX2_fly 33 = .ok (.iastore, 1) := by decide +kernel
theorem dX2_fly_34 : decode cX2_fly 34 = .ok (.iinc 1 1, 3) := by decide +kernel
theorem dX2_fly_37 : decode cX2_fly 37 = .ok (.goto (-35), 3) := by decide +kernel
theorem dX2_fly_40 : decode cX2_fly 40 = .ok (.iconst 0, 1) := by decide +kernel
theorem dX2_fly_41 : decode cX2_fly 41 = .ok (.istore_n 1, 1) := by decide +kernel
theorem dX2_fly_42 : decode cX2_fly 42 = .ok (.iload_n 1, 1) := by decide +kernel
theorem dX2_fly_43 : decode cX2_fly 43 = .ok (.iconst (-1), 1) := by decide +kernel
theorem dX2_fly_44 : decode cX2_fly 44 = .ok (.if_icmp .eq 94, 3) := by decide +kernel
theorem dX2_fly_47 : decode cX2_fly 47 = .ok (.iconst (-1), 1) := by decide +kernel
theorem dX2_fly_48 : decode cX2_fly 48 = .ok (.istore_n 1, 1) := by decide +kernel
theorem dX2_fly_49 : decode cX2_fly 49 = .ok (.iconst 0, 1) := by decide +kernel
theorem dX2_fly_50 : decode cX2_fly 50 = .ok (.istore_n 2, 1) := by decide +kernel
theorem dX2_fly_51 : decode cX2_fly 51 = .ok (.iload_n 2, 1) := by decide +kernel
theorem dX2_fly_52 : decode cX2_fly 52 = .ok (.bipush 100, 2) := by decide +kernel
theorem dX2_fly_54 : decode cX2_fly 54 = .ok (.if_icmp .ge 64, 3) := by decide +kernel
theorem dX2_fly_57 : decode cX2_fly 57 = .ok (.aload_n 0, 1) := by decide +kernel
theorem dX2_fly_58 : decode cX2_fly 58 = .ok (.getfield 16, 3) := by decide +kernel
theorem dX2_fly_61 : decode cX2_fly 61 = .ok (.sipush 148, 3) := by decide +kernel
theorem dX2_fly_64 : decode cX2_fly 64 = .ok (.iload_n 2, 1) := by decide +kernel
theorem dX2_fly_65 : decode cX2_fly 65 = .ok (.iadd, 1) := by decide +kernel
theorem dX2_fly_66 : decode cX2_fly 66 = .ok (.iaload, 1) := by decide +kernel
theorem dX2_fly_67 : decode cX2_fly 67 = .ok (.ifCond .le 45, 3) := by decide +kernel
theorem dX2_fly_70 : decode cX2_fly 70 = .ok (.aload_n 0, 1) := by decide +kernel
theorem dX2_fly_71 : decode cX2_fly 71 = .ok (.getfield 16, 3) := by decide +kernel
theorem dX2_fly_74 : decode cX2_fly 74 = .ok (.bipush 48, 2) := by decide +kernel
theorem dX2_fly_76 : decode cX2_fly 76 = .ok (.iload_n 2, 1) := by decide +kernel
theorem dX2_fly_77 : decode cX2_fly 77 = .ok (.iadd, 1) := by decide +kernel
theorem dX2_fly_78 : decode cX2_fly 78 = .ok (.iaload, 1) := by decide +kernel
theorem dX2_fly_79 : decode cX2_fly 79 = .ok (.ifCond .ne 33, 3) := by decide +kernel
theorem dX2_fly_82 : decode cX2_fly 82 = .ok (.iload_n 1, 1) := by decide +kernel
theorem dX2_fly_83 : decode cX2_fly 83 = .ok (.iconst (-1), 1) := by decide +kernel
theorem dX2_fly_84 : decode cX2_fly 84 = .ok (.if_icmp .eq 26, 3) := by decide +kernel
theorem dX2_fly_87 : decode cX2_fly 87 = .ok (.aload_n 0, 1) := by decide +kernel
theorem dX2_fly_88 : decode cX2_fly 88 = .ok (.getfield 16, 3) := by decide +kernel
theorem dX2_fly_91 : decode cX2_fly 91 = .ok (.sipush 148, 3) := by decide +kernel
theorem dX2_fly_94 : decode cX2_fly 94 = .ok (.iload_n 2, 1) := by decide +kernel
theorem dX2_fly_95 : decode cX2_fly 95 = .ok (.iadd, 1) := by decide +kernel
theorem dX2_fly_96 : decode cX2_fly 96 = .ok (.iaload, 1) := by decide +kernel
theorem dX2_fly_97 : decode cX2_fly 97 = .ok (.aload_n 0, 1) := by decide +kernel
theorem dX2_fly_98 : decode cX2_fly 98 = .ok (.getfield 16, 3) := by decide +kernel
theorem dX2_fly_101 : decode cX2_fly 101 = .ok (.sipush 148, 3) := by decide +kernel
theorem dX2_fly_104 : decode cX2_fly 104 = .ok (.iload_n 1, 1) := by decide +kernel
theorem dX2_fly_105 : decode cX2_fly 105 = .ok (.iadd, 1) := by decide +kernel
theorem dX2_fly_106 : decode cX2_fly 106 = .ok (.iaload, 1) := by decide +kernel
theorem dX2_fly_107 : decode cX2_fly 107 = .ok (.if_icmp .ge 5, 3) := by decide +kernel
theorem dX2_fly_110 : decode cX2_fly 110 = .ok (.iload_n 2, 1) := by decide +kernel
theorem dX2_fly_111 : decode cX2_fly 111 = .ok (.istore_n 1, 1) := by decide +kernel
theorem dX2_fly_112 : decode cX2_fly 112 = .ok (.iinc 2 1, 3) := by decide +kernel
theorem dX2_fly_115 : decode cX2_fly 115 = .ok (.goto (-64), 3) := by decide +kernel
theorem dX2_fly_118 : decode cX2_fly 118 = .ok (.iload_n 1, 1) := by decide +kernel
theorem dX2_fly_119 : decode cX2_fly 119 = .ok (.iconst (-1), 1) := by decide +kernel
theorem dX2_fly_120 : decode cX2_fly 120 = .ok (.if_icmp .eq (-78), 3) := by decide +kernel
theorem dX2_fly_123 : decode cX2_fly 123 = .ok (.aload_n 0, 1) := by decide +kernel
theorem dX2_fly_124 : decode cX2_fly 124 = .ok (.iload_n 1, 1) := by decide +kernel
theorem dX2_fly_125 : decode cX2_fly 125 = .ok (.bipush 10, 2) := by decide +kernel
theorem dX2_fly_127 : decode cX2_fly 127 = .ok (.idiv, 1) := by decide +kernel
theorem dX2_fly_128 : decode cX2_fly 128 = .ok (.iload_n 1, 1) := by decide +kernel
theorem dX2_fly_129 : decode cX2_fly 129 = .ok (.bipush 10, 2) := by decide +kernel
theorem dX2_fly_131 : decode cX2_fly 131 = .ok (.irem, 1) := by decide +kernel
theorem dX2_fly_132 : decode cX2_fly 132 = .ok (.invokevirtual 62, 3) := by decide +kernel
theorem dX2_fly_135 : decode cX2_fly 135 = .ok (.goto (-93), 3) := by decide +kernel
theorem dX2_fly_138 : decode cX2_fly 138 = .ok (.return_, 1) := by decide +kernel
set_option maxRecDepth 20000 in
theorem ggX2_secondOn_X2_talk : GoodIn wsX2_secondOn wsX2_talk := goodIn_r _ [6, 1, 7, 21, 22, 23, 24, 25, 26, 27] (by decide +kernel) (by decide +kernel)
set_option maxRecDepth 20000 in
theorem gX2_secondOn_X2_talk : GoodIn wsX2_secondOn (wsV RX2 66 RX2 yX2_talk wsX2_talk) := goodIn_app (goodIn_of _ (by decide +kernel)) ggX2_secondOn_X2_talk
set_option maxRecDepth 20000 in
theorem ggX2_secondOn_X2_fly : GoodIn wsX2_secondOn wsX2_fly := goodIn_r _ [11, 1, 12, 13, 14, 5, 15, 16, 17, 18, 19, 20, 21, 22, 23, 24, 25, 26, 27] (by decide +kernel) (by decide +kernel)
set_option maxRecDepth 20000 in
theorem gX2_secondOn_X2_fly : GoodIn wsX2_secondOn (wsV RX2 69 RX2 yX2_fly wsX2_fly) := goodIn_app (goodIn_of _ (by decide +kernel)) ggX2_secondOn_X2_fly
theorem dX2_secondOn_0 : decode cX2_secondOn 0 = .ok (.aload_n 0, 1) := by decide +kernel
theorem dX2_secondOn_1 : decode cX2_secondOn 1 = .ok (.invokevirtual 66, 3) := by decide +kernel
theorem dX2_secondOn_4 : decode cX2_secondOn 4 = .ok (.aload_n 0, 1) := by decide +kernel
theorem dX2_secondOn_5 : decode cX2_secondOn 5 = .ok (.invokevirtual 69, 3) := by decide +kernel
theorem dX2_secondOn_8 : decode cX2_secondOn 8 = .ok (.aload_n 0, 1) := by decide +kernel
theorem dX2_secondOn_9 : decode cX2_secondOn 9 = .ok (.getfield 16, 3) := by decide +kernel
theorem dX2_secondOn_12 : decode cX2_secondOn 12 = .ok (.iconst 0, 1) := by decide +kernel
theorem dX2_secondOn_13 : decode cX2_secondOn 13 = .ok (.dup2, 1) := by decide +kernel
theorem dX2_secondOn_14 : decode cX2_secondOn 14 = .ok (.iaload, 1) := by decide +kernel
theorem dX2_secondOn_15 : decode cX2_secondOn 15 = .ok (.iconst 1, 1) := by decide +kernel
theorem dX2_secondOn_16 : decode cX2_secondOn 16 = .ok (.iadd, 1) := by decide +kernel
theorem dX2_secondOn_17 : decode cX2_secondOn 17 = .ok (.iastore, 1) := by decide +kernel
theorem dX2_secondOn_18 : decode cX2_secondOn 18 = .ok (.return_, 1) := by decide +kernel
set_option maxRecDepth 20000 in
theorem ggX2_secondsOn_X2_secondOn : GoodIn wsX2_secondsOn wsX2_secondOn := goodIn_r _ [5, 6, 7, 8, 9, 4, 10, 11, 12, 13, 14, 15, 16, 17, 18, 19, 20, 21, 22, 23, 24, 25, 26, 27, 28, 29, 30, 31] (by decide +kernel) (by decide +kernel)
set_option maxRecDepth 20000 in
theorem gX2_secondsOn_X2_secondOn : GoodIn wsX2_secondsOn (wsV RX2 72 RX2 yX2_secondOn wsX2_secondOn) := goodIn_app (goodIn_of _ (by decide +kernel)) ggX2_secondsOn_X2_secondOn
theorem dX2_secondsOn_0 : decode cX2_secondsOn 0 = .ok (.iconst 0, 1) := by decide +kernel
theorem dX2_secondsOn_1 : decode cX2_secondsOn 1 = .ok (.istore_n 2, 1) := by decide +kernel
theorem dX2_secondsOn_2 : decode cX2_secondsOn 2 = .ok (.iload_n 2, 1) := by decide +kernel
theorem dX2_secondsOn_3 : decode cX2_secondsOn 3 = .ok (.iload_n 1, 1) := by decide +kernel
theorem dX2_secondsOn_4 : decode cX2_secondsOn 4 = .ok (.if_icmp .ge 13, 3) := by decide +kernel
theorem dX2_secondsOn_7 : decode cX2_secondsOn 7 = .ok (.aload_n 0, 1) := by decide +kernel
theorem dX2_secondsOn_8 : decode cX2_secondsOn 8 = .ok (.invokevirtual 72, 3) := by decide +kernel
theorem dX2_secondsOn_11 : decode cX2_secondsOn 11 = .ok (.iinc 2 1, 3) := by decide +kernel
theorem dX2_secondsOn_14 : decode cX2_secondsOn 14 = .ok (.goto (-12), 3) := by decide +kernel
theorem dX2_secondsOn_17 : decode cX2_secondsOn 17 = .ok (.return_, 1) := by decide +kernel
set_option maxRecDepth 20000 in
theorem ggX2_newDinner_X2_isIn : GoodIn wsX2_newDinner wsX2_isIn := goodIn_r _ [7] (by decide +kernel) (by decide +kernel)
set_option maxRecDepth 20000 in
theorem gX2_newDinner_X2_isIn : GoodIn wsX2_newDinner (va_wsS RX2 29 yX2_isIn wsX2_isIn) := goodIn_app (goodIn_of _ (by decide +kernel)) ggX2_newDinner_X2_isIn
set_option maxRecDepth 20000 in
theorem ggX2_newDinner_X2_fail : GoodIn wsX2_newDinner wsX2_fail := goodIn_r _ [11, 1, 27, 28, 29, 30, 31, 32, 33] (by decide +kernel) (by decide +kernel)
set_option maxRecDepth 20000 in
theorem gX2_newDinner_X2_fail : GoodIn wsX2_newDinner (wsV RX2 75 RX2 yX2_fail wsX2_fail) := goodIn_app (goodIn_of _ (by decide +kernel)) ggX2_newDinner_X2_fail
set_option maxRecDepth 20000 in
theorem ggX2_newDinner_X2_rated : GoodIn wsX2_newDinner wsX2_rated := goodIn_r _ [15, 3, 16, 17, 18, 19, 20, 21, 22, 23, 24, 25, 6, 26, 2, 27, 28, 29, 30, 31, 32, 33] (by decide +kernel) (by decide +kernel)
set_option maxRecDepth 20000 in
theorem gX2_newDinner_X2_rated : GoodIn wsX2_newDinner (wsV RX2 78 RX2 yX2_rated wsX2_rated) := goodIn_app (goodIn_of _ (by decide +kernel)) ggX2_newDinner_X2_rated
theorem dX2_newDinner_0 : decode cX2_newDinner 0 = .ok (.aload_n 0, 1) := by decide +kernel
theorem dX2_newDinner_1 : decode cX2_newDinner 1 = .ok (.iconst 0, 1) := by decide +kernel
theorem dX2_newDinner_2 : decode cX2_newDinner 2 = .ok (.putfield 26, 3) := by decide +kernel
theorem dX2_newDinner_5 : decode cX2_newDinner 5 = .ok (.iload_n 1, 1) := by decide +kernel
theorem dX2_newDinner_6 : decode cX2_newDinner 6 = .ok (.iconst 2, 1) := by decide +kernel
theorem dX2_newDinner_7 : decode cX2_newDinner 7 = .ok (.bipush 10, 2) := by decide +kernel
theorem dX2_newDinner_9 : decode cX2_newDinner 9 = .ok (.invokestatic 29, 3) := by decide +kernel
theorem dX2_newDinner_12 : decode cX2_newDinner 12 = .ok (.ifCond .ne 9, 3) := by decide +kernel
theorem dX2_newDinner_15 : decode cX2_newDinner 15 = .ok (.aload_n 0, 1) := by decide +kernel
theorem dX2_newDinner_16 : decode cX2_newDinner 16 = .ok (.iconst 1, 1) := by decide +kernel
theorem dX2_newDinner_17 : decode cX2_newDinner 17 = .ok (.invokevirtual 75, 3) := by decide +kernel
theorem dX2_newDinner_20 : decode cX2_newDinner 20 = .ok (.ireturn, 1) := by decide +kernel
theorem dX2_newDinner_21 : decode cX2_newDinner 21 = .ok (.aload_n 0, 1) := by decide +kernel
theorem dX2_newDinner_22 : decode cX2_newDinner 22 = .ok (.invokevirtual 78, 3) := by decide +kernel
theorem dX2_newDinner_25 : decode cX2_newDinner 25 = .ok (.istore_n 2, 1) := by decide +kernel
theorem dX2_newDinner_26 : decode cX2_newDinner 26 = .ok (.iconst 0, 1) := by decide +kernel
theorem dX2_newDinner_27 : decode cX2_newDinner 27 = .ok (.istore_n 3, 1) := by decide +kernel
theorem dX2_newDinner_28 : decode cX2_newDinner 28 = .ok (.iload_n 3, 1) := by decide +kernel
theorem dX2_newDinner_29 : decode cX2_newDinner 29 = .ok (.sipush 348, 3) := by decide +kernel
theorem dX2_newDinner_32 : decode cX2_newDinner 32 = .ok (.if_icmp .ge 16, 3) := by decide +kernel
theorem dX2_newDinner_35 : decode cX2_newDinner 35 = .ok (.aload_n 0, 1) := by decide +kernel
theorem dX2_newDinner_36 : decode cX2_newDinner 36 = .ok (.getfield 16, 3) := by decide +kernel
theorem dX2_newDinner_39 : decode cX2_newDinner 39 = .ok (.iload_n 3, 1) := by decide +kernel
theorem dX2_newDinner_40 : decode cX2_newDinner 40 = .ok (.iconst 0, 1) := by decide +kernel
theorem dX2_newDinner_41 : decode cX2_newDinner 41 = .ok (.iastore, 1) := by decide +kernel
theorem dX2_newDinner_42 : decode cX2_newDinner 42 = .ok (.iinc 3 1, 3) := by decide +kernel
theorem dX2_newDinner_45 : decode cX2_newDinner 45 = .ok (.goto (-17), 3) := by decide +kernel
theorem dX2_newDinner_48 : decode cX2_newDinner 48 = .ok (.aload_n 0, 1) := by decide +kernel
theorem dX2_newDinner_49 : decode cX2_newDinner 49 = .ok (.getfield 16, 3) := by decide +kernel
theorem dX2_newDinner_52 : decode cX2_newDinner 52 = .ok (.iconst 1, 1) := by decide +kernel
theorem dX2_newDinner_53 : decode cX2_newDinner 53 = .ok (.iconst (-1), 1) := by decide +kernel
theorem dX2_newDinner_54 : decode cX2_newDinner 54 = .ok (.iastore, 1) := by decide +kernel
theorem dX2_newDinner_55 : decode cX2_newDinner 55 = .ok (.aload_n 0, 1) := by decide +kernel
theorem dX2_newDinner_56 : decode cX2_newDinner 56 = .ok (.iload_n 1, 1) := by decide +kernel
theorem dX2_newDinner_57 : decode cX2_newDinner 57 = .ok (.putfield 7, 3) := by decide +kernel
theorem dX2_newDinner_60 : decode cX2_newDinner 60 = .ok (.iload_n 2, 1) := by decide +kernel
theorem dX2_newDinner_61 : decode cX2_newDinner 61 = .ok (.ireturn, 1) := by decide +kernel
set_option maxRecDepth 20000 in
theorem ggX2_setLimit_X2_isIn : GoodIn wsX2_setLimit wsX2_isIn := goodIn_r _ [6] (by decide +kernel) (by decide +kernel)
set_option maxRecDepth 20000 in
theorem gX2_setLimit_X2_isIn : GoodIn wsX2_setLimit (va_wsS RX2 29 yX2_isIn wsX2_isIn) := goodIn_app (goodIn_of _ (by decide +kernel)) ggX2_setLimit_X2_isIn
set_option maxRecDepth 20000 in
theorem ggX2_setLimit_X2_fail : GoodIn wsX2_setLimit wsX2_fail := goodIn_r _ [10, 1, 11, 12, 13, 14, 15, 16, 17] (by decide +kernel) (by decide +kernel)
set_option maxRecDepth 20000 in
theorem gX2_setLimit_X2_fail : GoodIn wsX2_setLimit (wsV RX2 75 RX2 yX2_fail wsX2_fail) := goodIn_app (goodIn_of _ (by decide +kernel)) ggX2_setLimit_X2_fail
theorem dX2_setLimit_0 : decode cX2_setLimit 0 = .ok (.aload_n 0, 1) := by decide +kernel
theorem dX2_setLimit_1 : decode cX2_setLimit 1 = .ok (.iconst 0, 1) := by decide +kernel
theorem dX2_setLimit_2 : decode cX2_setLimit 2 = .ok (.putfield 26, 3) := by decide +kernel
theorem dX2_setLimit_5 : decode cX2_setLimit 5 = .ok (.iload_n 1, 1) := by decide +kernel
theorem dX2_setLimit_6 : decode cX2_setLimit 6 = .ok (.iconst 1, 1) := by decide +kernel
theorem dX2_setLimit_7 : decode cX2_setLimit 7 = .ok (.bipush 30, 2) := by decide +kernel
theorem dX2_setLimit_9 : decode cX2_setLimit 9 = .ok (.invokestatic 29, 3) := by decide +kernel
theorem dX2_setLimit_12 : decode cX2_setLimit 12 = .ok (.ifCond .ne 9, 3) := by decide +kernel
theorem dX2_setLimit_15 : decode cX2_setLimit 15 = .ok (.aload_n 0, 1) := by decide +kernel
theorem dX2_setLimit_16 : decode cX2_setLimit 16 = .ok (.iconst 1, 1) := by decide +kernel
theorem dX2_setLimit_17 : decode cX2_setLimit 17 = .ok (.invokevirtual 75, 3) := by decide +kernel
theorem dX2_setLimit_20 : decode cX2_setLimit 20 = .ok (.ireturn, 1) := by decide +kernel
theorem dX2_setLimit_21 : decode cX2_setLimit 21 = .ok (.aload_n 0, 1) := by decide +kernel
theorem dX2_setLimit_22 : decode cX2_setLimit 22 = .ok (.getfield 13, 3) := by decide +kernel
theorem dX2_setLimit_25 : decode cX2_setLimit 25 = .ok (.istore_n 2, 1) := by decide +kernel
theorem dX2_setLimit_26 : decode cX2_setLimit 26 = .ok (.aload_n 0, 1) := by decide +kernel
theorem dX2_setLimit_27 : decode cX2_setLimit 27 = .ok (.iload_n 1, 1) := by decide +kernel
theorem dX2_setLimit_28 : decode cX2_setLimit 28 = .ok (.putfield 13, 3) := by decide +kernel
theorem dX2_setLimit_31 : decode cX2_setLimit 31 = .ok (.iload_n 2, 1) := by decide +kernel
theorem dX2_setLimit_32 : decode cX2_setLimit 32 = .ok (.ireturn, 1) := by decide +kernel
set_option maxRecDepth 20000 in
theorem ggX2_speak_X2_isGuest : GoodIn wsX2_speak wsX2_isGuest := goodIn_r _ [7, 8, 9, 10, 6, 11, 16, 17, 18, 19, 20, 21, 22] (by decide +kernel) (by decide +kernel)
set_option maxRecDepth 20000 in
theorem gX2_speak_X2_isGuest : GoodIn wsX2_speak (wsV RX2 81 RX2 yX2_isGuest wsX2_isGuest) := goodIn_app (goodIn_of _ (by decide +kernel)) ggX2_speak_X2_isGuest
set_option maxRecDepth 20000 in
theorem ggX2_speak_X2_fail : GoodIn wsX2_speak wsX2_fail := goodIn_r _ [15, 1, 16, 17, 18, 19, 20, 21, 22] (by decide +kernel) (by decide +kernel)
set_option maxRecDepth 20000 in
theorem gX2_speak_X2_fail : GoodIn wsX2_speak (wsV RX2 75 RX2 yX2_fail wsX2_fail) := goodIn_app (goodIn_of _ (by decide +kernel)) ggX2_speak_X2_fail
set_option maxRecDepth 20000 in
theorem ggX2_speak_X2_isIn : GoodIn wsX2_speak wsX2_isIn := goodIn_r _ [11] (by decide +kernel) (by decide +kernel)
set_option maxRecDepth 20000 in
theorem gX2_speak_X2_isIn : GoodIn wsX2_speak (va_wsS RX2 29 yX2_isIn wsX2_isIn) := goodIn_app (goodIn_of _ (by decide +kernel)) ggX2_speak_X2_isIn
theorem dX2_speak_0 : decode cX2_speak 0 = .ok (.aload_n 0, 1) := by decide +kernel
theorem dX2_speak_1 : decode cX2_speak 1 = .ok (.iconst 0, 1) := by decide +kernel
theorem dX2_speak_2 : decode cX2_speak 2 = .ok (.putfield 26, 3) := by decide +kernel
theorem dX2_speak_5 : decode cX2_speak 5 = .ok (.aload_n 0, 1) := by decide +kernel
theorem dX2_speak_6 : decode cX2_speak 6 = .ok (.iload_n 1, 1) := by decide +kernel
theorem dX2_speak_7 : decode cX2_speak 7 = .ok (.invokevirtual 81, 3) := by decide +kernel
theorem dX2_speak_10 : decode cX2_speak 10 = .ok (.ifCond .ne 9, 3) := by decide +kernel
theorem dX2_speak_13 : decode cX2_speak 13 = .ok (.aload_n 0, 1) := by decide +kernel
theorem dX2_speak_14 : decode cX2_speak 14 = .ok (.iconst 1, 1) := by decide +kernel
theorem dX2_speak_15 : decode cX2_speak 15 = .ok (.invokevirtual 75, 3) := by decide +kernel
theorem dX2_speak_18 : decode cX2_speak 18 = .ok (.ireturn, 1) := by decide +kernel
theorem dX2_speak_19 : decode cX2_speak 19 = .ok (.iload_n 2, 1) := by decide +kernel
theorem dX2_speak_20 : decode cX2_speak 20 = .ok (.iconst 1, 1) := by decide +kernel
theorem dX2_speak_21 : decode cX2_speak 21 = .ok (.bipush 60, 2) := by decide +kernel
theorem dX2_speak_23 : decode cX2_speak 23 = .ok (.invokestatic 29, 3) := by decide +kernel
theorem dX2_speak_26 : decode cX2_speak 26 = .ok (.ifCond .ne 9, 3) := by decide +kernel
theorem dX2_speak_29 : decode cX2_speak 29 = .ok (.aload_n 0, 1) := by decide +kernel
theorem dX2_speak_30 : decode cX2_speak 30 = .ok (.iconst 2, 1) := by decide +kernel
theorem dX2_speak_31 : decode cX2_speak 31 = .ok (.invokevirtual 75, 3) := by decide +kernel
theorem dX2_speak_34 : decode cX2_speak 34 = .ok (.ireturn, 1) := by decide +kernel
theorem dX2_speak_35 : decode cX2_speak 35 = .ok (.aload_n 0, 1) := by decide +kernel
theorem dX2_speak_36 : decode cX2_speak 36 = .ok (.getfield 16, 3) := by decide +kernel
theorem dX2_speak_39 : decode cX2_speak 39 = .ok (.iconst 1, 1) := by decide +kernel
theorem dX2_speak_40 : decode cX2_speak 40 = .ok (.iaload, 1) := by decide +kernel
theorem dX2_speak_41 : decode cX2_speak 41 = .ok (.istore_n 3, 1) := by decide +kernel
theorem dX2_speak_42 : decode cX2_speak 42 = .ok (.aload_n 0, 1) := by decide +kernel
theorem dX2_speak_43 : decode cX2_speak 43 = .ok (.getfield 16, 3) := by decide +kernel
theorem dX2_speak_46 : decode cX2_speak 46 = .ok (.iconst 1, 1) := by decide +kernel
theorem dX2_speak_47 : decode cX2_speak 47 = .ok (.iload_n 1, 1) := by decide +kernel
theorem dX2_speak_48 : decode cX2_speak 48 = .ok (.iastore, 1) := by decide +kernel
theorem dX2_speak_49 : decode cX2_speak 49 = .ok (.aload_n 0, 1) := by decide +kernel
theorem dX2_speak_50 : decode cX2_speak 50 = .ok (.getfield 16, 3) := by decide +kernel
theorem dX2_speak_53 : decode cX2_speak 53 = .ok (.iconst 2, 1) := by decide +kernel
theorem dX2_speak_54 : decode cX2_speak 54 = .ok (.iload_n 2, 1) := by decide +kernel
theorem dX2_speak_55 : decode cX2_speak 55 = .ok (.iastore, 1) := by decide +kernel
theorem dX2_speak_56 : decode cX2_speak 56 = .ok (.iload_n 3, 1) := by decide +kernel
theorem dX2_speak_57 : decode cX2_speak 57 = .ok (.iconst (-1), 1) := by decide +kernel
theorem dX2_speak_58 : decode cX2_speak 58 = .ok (.if_icmp .eq 8, 3) := by decide +kernel
theorem dX2_speak_61 : decode cX2_speak 61 = .ok (.iload_n 3, 1) := by decide +kernel
theorem dX2_speak_62 : decode cX2_speak 62 = .ok (.iload_n 1, 1) := by decide +kernel
theorem dX2_speak_63 : decode cX2_speak 63 = .ok (.if_icmp .ne 5, 3) := by decide +kernel
theorem dX2_speak_66 : decode cX2_speak 66 = .ok (.iconst (-1), 1) := by decide +kernel
theorem dX2_speak_67 : decode cX2_speak 67 = .ok (.ireturn, 1) := by decide +kernel
theorem dX2_speak_68 : decode cX2_speak 68 = .ok (.aload_n 0, 1) := by decide +kernel
theorem dX2_speak_69 : decode cX2_speak 69 = .ok (.getfield 16, 3) := by decide +kernel
theorem dX2_speak_72 : decode cX2_speak 72 = .ok (.bipush 18, 2) := by decide +kernel
theorem dX2_speak_74 : decode cX2_speak 74 = .ok (.iload_n 1, 1) := by decide +kernel
theorem dX2_speak_75 : decode cX2_speak 75 = .ok (.iadd, 1) := by decide +kernel
theorem dX2_speak_76 : decode cX2_speak 76 = .ok (.dup2, 1) := by decide +kernel
theorem dX2_speak_77 : decode cX2_speak 77 = .ok (.iaload, 1) := by decide +kernel
theorem dX2_speak_78 : decode cX2_speak 78 = .ok (.iconst 1, 1) := by decide +kernel
theorem dX2_speak_79 : decode cX2_speak 79 = .ok (.iadd, 1) := by decide +kernel
theorem dX2_speak_80 : decode cX2_speak 80 = .ok (.iastore, 1) := by decide +kernel
theorem dX2_speak_81 : decode cX2_speak 81 = .ok (.iload_n 3, 1) := by decide +kernel
theorem dX2_speak_82 : decode cX2_speak 82 = .ok (.ireturn, 1) := by decide +kernel
set_option maxRecDepth 20000 in
theorem ggX2_cough_X2_isGuest : GoodIn wsX2_cough wsX2_isGuest := goodIn_r _ [7, 8, 9, 10, 6, 11, 16, 17, 18, 19, 20, 21, 22] (by decide +kernel) (by decide +kernel)
set_option maxRecDepth 20000 in
theorem gX2_cough_X2_isGuest : GoodIn wsX2_cough (wsV RX2 81 RX2 yX2_isGuest wsX2_isGuest) := goodIn_app (goodIn_of _ (by decide +kernel)) ggX2_cough_X2_isGuest
set_option maxRecDepth 20000 in
theorem ggX2_cough_X2_fail : GoodIn wsX2_cough wsX2_fail := goodIn_r _ [15, 1, 16, 17, 18, 19, 20, 21, 22] (by decide +kernel) (by decide +kernel)
set_option maxRecDepth 20000 in
theorem gX2_cough_X2_fail : GoodIn wsX2_cough (wsV RX2 75 RX2 yX2_fail wsX2_fail) := goodIn_app (goodIn_of _ (by decide +kernel)) ggX2_cough_X2_fail
set_option maxRecDepth 20000 in
theorem ggX2_cough_X2_isIn : GoodIn wsX2_cough wsX2_isIn := goodIn_r _ [11] (by decide +kernel) (by decide +kernel)
set_option maxRecDepth 20000 in
theorem gX2_cough_X2_isIn : GoodIn wsX2_cough (va_wsS RX2 29 yX2_isIn wsX2_isIn) := goodIn_app (goodIn_of _ (by decide +kernel)) ggX2_cough_X2_isIn
theorem dX2_cough_0 : decode cX2_cough 0 = .ok (.aload_n 0, 1) := by decide +kernel
theorem dX2_cough_1 : decode cX2_cough 1 = .ok (.iconst 0, 1) := by decide +kernel
theorem dX2_cough_2 : decode cX2_cough 2 = .ok (.putfield 26, 3) := by decide +kernel
theorem dX2_cough_5 : decode cX2_cough 5 = .ok (.aload_n 0, 1) := by decide +kernel
theorem dX2_cough_6 : decode cX2_cough 6 = .ok (.iload_n 1, 1) := by decide +kernel
theorem dX2_cough_7 : decode cX2_cough 7 = .ok (.invokevirtual 81, 3) := by decide +kernel
theorem dX2_cough_10 : decode cX2_cough 10 = .ok (.ifCond .ne 9, 3) := by decide +kernel
theorem dX2_cough_13 : decode cX2_cough 13 = .ok (.aload_n 0, 1) := by decide +kernel
theorem dX2_cough_14 : decode cX2_cough 14 = .ok (.iconst 1, 1) := by decide +kernel
theorem dX2_cough_15 : decode cX2_cough 15 = .ok (.invokevirtual 75, 3) := by decide +kernel
theorem dX2_cough_18 : decode cX2_cough 18 = .ok (.ireturn, 1) := by decide +kernel
theorem dX2_cough_19 : decode cX2_cough 19 = .ok (.iload_n 2, 1) := by decide +kernel
theorem dX2_cough_20 : decode cX2_cough 20 = .ok (.iconst 1, 1) := by decide +kernel
theorem dX2_cough_21 : decode cX2_cough 21 = .ok (.bipush 9, 2) := by decide +kernel
theorem dX2_cough_23 : decode cX2_cough 23 = .ok (.invokestatic 29, 3) := by decide +kernel
theorem dX2_cough_26 : decode cX2_cough 26 = .ok (.ifCond .ne 9, 3) := by decide +kernel
theorem dX2_cough_29 : decode cX2_cough 29 = .ok (.aload_n 0, 1) := by decide +kernel
theorem dX2_cough_30 : decode cX2_cough 30 = .ok (.iconst 2, 1) := by decide +kernel
theorem dX2_cough_31 : decode cX2_cough 31 = .ok (.invokevirtual 75, 3) := by decide +kernel
theorem dX2_cough_34 : decode cX2_cough 34 = .ok (.ireturn, 1) := by decide +kernel
theorem dX2_cough_35 : decode cX2_cough 35 = .ok (.aload_n 0, 1) := by decide +kernel
theorem dX2_cough_36 : decode cX2_cough 36 = .ok (.getfield 16, 3) := by decide +kernel
theorem dX2_cough_39 : decode cX2_cough 39 = .ok (.iconst 1, 1) := by decide +kernel
theorem dX2_cough_40 : decode cX2_cough 40 = .ok (.iaload, 1) := by decide +kernel
theorem dX2_cough_41 : decode cX2_cough 41 = .ok (.iconst (-1), 1) := by decide +kernel
theorem dX2_cough_42 : decode cX2_cough 42 = .ok (.if_icmp .ne 7, 3) := by decide +kernel
theorem dX2_cough_45 : decode cX2_cough 45 = .ok (.iload_n 2, 1) := by decide +kernel
theorem dX2_cough_46 : decode cX2_cough 46 = .ok (.goto 20, 3) := by decide +kernel
theorem dX2_cough_49 : decode cX2_cough 49 = .ok (.aload_n 0, 1) := by decide +kernel
theorem dX2_cough_50 : decode cX2_cough 50 = .ok (.getfield 16, 3) := by decide +kernel
theorem dX2_cough_53 : decode cX2_cough 53 = .ok (.iconst 1, 1) := by decide +kernel
theorem dX2_cough_54 : decode cX2_cough 54 = .ok (.iaload, 1) := by decide +kernel
theorem dX2_cough_55 : decode cX2_cough 55 = .ok (.iload_n 1, 1) := by decide +kernel
theorem dX2_cough_56 : decode cX2_cough 56 = .ok (.if_icmp .ne 7, 3) := by decide +kernel
theorem dX2_cough_59 : decode cX2_cough 59 = .ok (.iconst 0, 1) := by decide +kernel
theorem dX2_cough_60 : decode cX2_cough 60 = .ok (.goto 6, 3) := by decide +kernel
theorem dX2_cough_63 : decode cX2_cough 63 = .ok (.iload_n 2, 1) := by decide +kernel
theorem dX2_cough_64 : decode cX2_cough 64 = .ok (.iconst 2, 1) := by decide +kernel
theorem dX2_cough_65 : decode cX2_cough 65 = .ok (.idiv, 1) := by decide +kernel
theorem dX2_cough_66 : decode cX2_cough 66 = .ok (.istore_n 3, 1) := by decide +kernel
theorem dX2_cough_67 : decode cX2_cough 67 = .ok (.aload_n 0, 1) := by decide +kernel
theorem dX2_cough_68 : decode cX2_cough 68 = .ok (.getfield 16, 3) := by decide +kernel
theorem dX2_cough_71 : decode cX2_cough 71 = .ok (.bipush 28, 2) := by decide +kernel
theorem dX2_cough_73 : decode cX2_cough 73 = .ok (.iload_n 1, 1) := by decide +kernel
theorem dX2_cough_74 : decode cX2_cough 74 = .ok (.iadd, 1) := by decide +kernel
theorem dX2_cough_75 : decode cX2_cough 75 = .ok (.dup2, 1) := by decide +kernel
theorem dX2_cough_76 : decode cX2_cough 76 = .ok (.iaload, 1) := by decide +kernel
theorem dX2_cough_77 : decode cX2_cough 77 = .ok (.iconst 1, 1) := by decide +kernel
theorem dX2_cough_78 : decode cX2_cough 78 = .ok (.iadd, 1) := by decide +kernel
theorem dX2_cough_79 : decode cX2_cough 79 = .ok (.iastore, 1) := by decide +kernel
theorem dX2_cough_80 : decode cX2_cough 80 = .ok (.aload_n 0, 1) := by decide +kernel
theorem dX2_cough_81 : decode cX2_cough 81 = .ok (.getfield 16, 3) := by decide +kernel
theorem dX2_cough_84 : decode cX2_cough 84 = .ok (.bipush 38, 2) := by decide +kernel
theorem dX2_cough_86 : decode cX2_cough 86 = .ok (.iload_n 1, 1) := by decide +kernel
theorem dX2_cough_87 : decode cX2_cough 87 = .ok (.iadd, 1) := by decide +kernel
theorem dX2_cough_88 : decode cX2_cough 88 = .ok (.dup2, 1) := by decide +kernel
theorem dX2_cough_89 : decode cX2_cough 89 = .ok (.iaload, 1) := by decide +kernel
theorem dX2_cough_90 : decode cX2_cough 90 = .ok (.iload_n 3, 1) := by decide +kernel
theorem dX2_cough_91 : decode cX2_cough 91 = .ok (.iadd, 1) := by decide +kernel
theorem dX2_cough_92 : decode cX2_cough 92 = .ok (.iastore, 1) := by decide +kernel
theorem dX2_cough_93 : decode cX2_cough 93 = .ok (.iload_n 3, 1) := by decide +kernel
theorem dX2_cough_94 : decode cX2_cough 94 = .ok (.ireturn, 1) := by decide +kernel
set_option maxRecDepth 20000 in
theorem ggX2_send_X2_pair : GoodIn wsX2_send wsX2_pair := goodIn_r _ [5] (by decide +kernel) (by decide +kernel)
set_option maxRecDepth 20000 in
theorem gX2_send_X2_pair : GoodIn wsX2_send (va_wsS RX2 56 yX2_pair wsX2_pair) := goodIn_app (goodIn_of _ (by decide +kernel)) ggX2_send_X2_pair
set_option maxRecDepth 20000 in
theorem ggX2_send_X2_apart : GoodIn wsX2_send wsX2_apart := goodIn_r _ [9, 10, 11, 12, 13, 14, 15, 16, 17, 18, 19, 20, 21, 22, 23, 24] (by decide +kernel) (by decide +kernel)
set_option maxRecDepth 20000 in
theorem gX2_send_X2_apart : GoodIn wsX2_send (wsV RX2 85 RX2 yX2_apart wsX2_apart) := goodIn_app (goodIn_of _ (by decide +kernel)) ggX2_send_X2_apart
theorem dX2_send_0 : decode cX2_send 0 = .ok (.aload_n 0, 1) := by decide +kernel
theorem dX2_send_1 : decode cX2_send 1 = .ok (.getfield 16, 3) := by decide +kernel
theorem dX2_send_4 : decode cX2_send 4 = .ok (.bipush 7, 2) := by decide +kernel
theorem dX2_send_6 : decode cX2_send 6 = .ok (.dup2, 1) := by decide +kernel
theorem dX2_send_7 : decode cX2_send 7 = .ok (.iaload, 1) := by decide +kernel
theorem dX2_send_8 : decode cX2_send 8 = .ok (.iconst 1, 1) := by decide +kernel
theorem dX2_send_9 : decode cX2_send 9 = .ok (.iadd, 1) := by decide +kernel
theorem dX2_send_10 : decode cX2_send 10 = .ok (.iastore, 1) := by decide +kernel
theorem dX2_send_11 : decode cX2_send 11 = .ok (.aload_n 0, 1) := by decide +kernel
theorem dX2_send_12 : decode cX2_send 12 = .ok (.getfield 16, 3) := by decide +kernel
theorem dX2_send_15 : decode cX2_send 15 = .ok (.sipush 148, 3) := by decide +kernel
theorem dX2_send_18 : decode cX2_send 18 = .ok (.iload_n 1, 1) := by decide +kernel
theorem dX2_send_19 : decode cX2_send 19 = .ok (.iload_n 2, 1) := by decide +kernel
theorem dX2_send_20 : decode cX2_send 20 = .ok (.invokestatic 56, 3) := by decide +kernel
theorem dX2_send_23 : decode cX2_send 23 = .ok (.iadd, 1) := by decide +kernel
theorem dX2_send_24 : decode cX2_send 24 = .ok (.aload_n 0, 1) := by decide +kernel
theorem dX2_send_25 : decode cX2_send 25 = .ok (.getfield 16, 3) := by decide +kernel
theorem dX2_send_28 : decode cX2_send 28 = .ok (.bipush 7, 2) := by decide +kernel
theorem dX2_send_30 : decode cX2_send 30 = .ok (.iaload, 1) := by decide +kernel
theorem dX2_send_31 : decode cX2_send 31 = .ok (.iastore, 1) := by decide +kernel
theorem dX2_send_32 : decode cX2_send 32 = .ok (.aload_n 0, 1) := by decide +kernel
theorem dX2_send_33 : decode cX2_send 33 = .ok (.getfield 16, 3) := by decide +kernel
theorem dX2_send_36 : decode cX2_send 36 = .ok (.bipush 48, 2) := by decide +kernel
theorem dX2_send_38 : decode cX2_send 38 = .ok (.iload_n 1, 1) := by decide +kernel
theorem dX2_send_39 : decode cX2_send 39 = .ok (.iload_n 2, 1) := by decide +kernel
theorem dX2_send_40 : decode cX2_send 40 = .ok (.invokestatic 56, 3) := by decide +kernel
theorem dX2_send_43 : decode cX2_send 43 = .ok (.iadd, 1) := by decide +kernel
theorem dX2_send_44 : decode cX2_send 44 = .ok (.iconst 2, 1) := by decide +kernel
theorem dX2_send_45 : decode cX2_send 45 = .ok (.aload_n 0, 1) := by decide +kernel
theorem dX2_send_46 : decode cX2_send 46 = .ok (.iload_n 1, 1) := by decide +kernel
theorem dX2_send_47 : decode cX2_send 47 = .ok (.iload_n 2, 1) := by decide +kernel
theorem dX2_send_48 : decode cX2_send 48 = .ok (.invokevirtual 85, 3) := by decide +kernel
theorem dX2_send_51 : decode cX2_send 51 = .ok (.imul, 1) := by decide +kernel
theorem dX2_send_52 : decode cX2_send 52 = .ok (.iastore, 1) := by decide +kernel
theorem dX2_send_53 : decode cX2_send 53 = .ok (.aload_n 0, 1) := by decide +kernel
theorem dX2_send_54 : decode cX2_send 54 = .ok (.getfield 16, 3) := by decide +kernel
theorem dX2_send_57 : decode cX2_send 57 = .ok (.bipush 48, 2) := by decide +kernel
theorem dX2_send_59 : decode cX2_send 59 = .ok (.iload_n 1, 1) := by decide +kernel
theorem dX2_send_60 : decode cX2_send 60 = .ok (.iload_n 2, 1) := by decide +kernel
theorem dX2_send_61 : decode cX2_send 61 = .ok (.invokestatic 56, 3) := by decide +kernel
theorem dX2_send_64 : decode cX2_send 64 = .ok (.iadd, 1) := by decide +kernel
theorem dX2_send_65 : decode cX2_send 65 = .ok (.iaload, 1) := by decide +kernel
theorem dX2_send_66 : decode cX2_send 66 = .ok (.ireturn, 1) := by decide +kernel
set_option maxRecDepth 20000 in
theorem ggX2_canSend_X2_isGuest : GoodIn wsX2_canSend wsX2_isGuest := goodIn_r _ [7, 8, 9, 10, 6, 11, 15, 16, 17, 18, 19, 20, 21] (by decide +kernel) (by decide +kernel)
set_option maxRecDepth 20000 in
theorem gX2_canSend_X2_isGuest : GoodIn wsX2_canSend (wsV RX2 81 RX2 yX2_isGuest wsX2_isGuest) := goodIn_app (goodIn_of _ (by decide +kernel)) ggX2_canSend_X2_isGuest
set_option maxRecDepth 20000 in
theorem ggX2_canSend_X2_pair : GoodIn wsX2_canSend wsX2_pair := goodIn_r _ [14] (by decide +kernel) (by decide +kernel)
set_option maxRecDepth 20000 in
theorem gX2_canSend_X2_pair : GoodIn wsX2_canSend (va_wsS RX2 56 yX2_pair wsX2_pair) := goodIn_app (goodIn_of _ (by decide +kernel)) ggX2_canSend_X2_pair
theorem dX2_canSend_0 : decode cX2_canSend 0 = .ok (.aload_n 0, 1) := by decide +kernel
theorem dX2_canSend_1 : decode cX2_canSend 1 = .ok (.aload_n 0, 1) := by decide +kernel
theorem dX2_canSend_2 : decode cX2_canSend 2 = .ok (.iload_n 1, 1) := by decide +kernel
theorem dX2_canSend_3 : decode cX2_canSend 3 = .ok (.invokevirtual 81, 3) := by decide +kernel
theorem dX2_canSend_6 : decode cX2_canSend 6 = .ok (.ifCond .eq 11, 3) := by decide +kernel
theorem dX2_canSend_9 : decode cX2_canSend 9 = .ok (.aload_n 0, 1) := by decide +kernel
theorem dX2_canSend_10 : decode cX2_canSend 10 = .ok (.iload_n 2, 1) := by decide +kernel
theorem dX2_canSend_11 : decode cX2_canSend 11 = .ok (.invokevirtual 81, 3) := by decide +kernel
theorem dX2_canSend_14 : decode cX2_canSend 14 = .ok (.ifCond .ne 7, 3) := by decide +kernel
theorem dX2_canSend_17 : decode cX2_canSend 17 = .ok (.iconst 1, 1) := by decide +kernel
theorem dX2_canSend_18 : decode cX2_canSend 18 = .ok (.goto 34, 3) := by decide +kernel
theorem dX2_canSend_21 : decode cX2_canSend 21 = .ok (.iload_n 1, 1) := by decide +kernel
theorem dX2_canSend_22 : decode cX2_canSend 22 = .ok (.iload_n 2, 1) := by decide +kernel
theorem dX2_canSend_23 : decode cX2_canSend 23 = .ok (.if_icmp .ne 7, 3) := by decide +kernel
theorem dX2_canSend_26 : decode cX2_canSend 26 = .ok (.iconst 2, 1) := by decide +kernel
theorem dX2_canSend_27 : decode cX2_canSend 27 = .ok (.goto 25, 3) := by decide +kernel
theorem dX2_canSend_30 : decode cX2_canSend 30 = .ok (.aload_n 0, 1) := by decide +kernel
theorem dX2_canSend_31 : decode cX2_canSend 31 = .ok (.getfield 16, 3) := by decide +kernel
theorem dX2_canSend_34 : decode cX2_canSend 34 = .ok (.sipush 148, 3) := by decide +kernel
theorem dX2_canSend_37 : decode cX2_canSend 37 = .ok (.iload_n 1, 1) := by decide +kernel
theorem dX2_canSend_38 : decode cX2_canSend 38 = .ok (.iload_n 2, 1) := by decide +kernel
theorem dX2_canSend_39 : decode cX2_canSend 39 = .ok (.invokestatic 56, 3) := by decide +kernel
theorem dX2_canSend_42 : decode cX2_canSend 42 = .ok (.iadd, 1) := by decide +kernel
theorem dX2_canSend_43 : decode cX2_canSend 43 = .ok (.iaload, 1) := by decide +kernel
theorem dX2_canSend_44 : decode cX2_canSend 44 = .ok (.ifCond .le 7, 3) := by decide +kernel
theorem dX2_canSend_47 : decode cX2_canSend 47 = .ok (.iconst 3, 1) := by decide +kernel
theorem dX2_canSend_48 : decode cX2_canSend 48 = .ok (.goto 4, 3) := by decide +kernel
theorem dX2_canSend_51 : decode cX2_canSend 51 = .ok (.iconst 0, 1) := by decide +kernel
theorem dX2_canSend_52 : decode cX2_canSend 52 = .ok (.putfield 26, 3) := by decide +kernel
theorem dX2_canSend_55 : decode cX2_canSend 55 = .ok (.aload_n 0, 1) := by decide +kernel
theorem dX2_canSend_56 : decode cX2_canSend 56 = .ok (.getfield 26, 3) := by decide +kernel
theorem dX2_canSend_59 : decode cX2_canSend 59 = .ok (.ifCond .ne 7, 3) := by decide +kernel
theorem dX2_canSend_62 : decode cX2_canSend 62 = .ok (.iconst 1, 1) := by decide +kernel
theorem dX2_canSend_63 : decode cX2_canSend 63 = .ok (.goto 4, 3) := by decide +kernel
theorem dX2_canSend_66 : decode cX2_canSend 66 = .ok (.iconst 0, 1) := by decide +kernel
theorem dX2_canSend_67 : decode cX2_canSend 67 = .ok (.ireturn, 1) := by decide +kernel
set_option maxRecDepth 20000 in
theorem ggX2_glance_X2_canSend : GoodIn wsX2_glance wsX2_canSend := goodIn_r _ [5, 6, 7, 8, 9, 10, 4, 11, 12, 13, 14, 15, 16, 17, 18, 34, 35, 36, 37, 38, 39, 40] (by decide +kernel) (by decide +kernel)
set_option maxRecDepth 20000 in
theorem gX2_glance_X2_canSend : GoodIn wsX2_glance (wsV RX2 88 RX2 yX2_canSend wsX2_canSend) := goodIn_app (goodIn_of _ (by decide +kernel)) ggX2_glance_X2_canSend
set_option maxRecDepth 20000 in
theorem ggX2_glance_X2_send : GoodIn wsX2_glance wsX2_send := goodIn_r _ [22, 6, 16, 17, 4, 18, 23, 24, 25, 26, 27, 28, 29, 30, 12, 31, 32, 33, 34, 35, 36, 37, 38, 39, 40] (by decide +kernel) (by decide +kernel)
set_option maxRecDepth 20000 in
theorem gX2_glance_X2_send : GoodIn wsX2_glance (wsV RX2 92 RX2 yX2_send wsX2_send) := goodIn_app (goodIn_of _ (by decide +kernel)) ggX2_glance_X2_send
theorem dX2_glance_0 : decode cX2_glance 0 = .ok (.aload_n 0, 1) := by decide +kernel
theorem dX2_glance_1 : decode cX2_glance 1 = .ok (.iload_n 1, 1) := by decide +kernel
theorem dX2_glance_2 : decode cX2_glance 2 = .ok (.iload_n 2, 1) := by decide +kernel
theorem dX2_glance_3 : decode cX2_glance 3 = .ok (.invokevirtual 88, 3) := by decide +kernel
theorem dX2_glance_6 : decode cX2_glance 6 = .ok (.ifCond .eq 12, 3) := by decide +kernel
theorem dX2_glance_9 : decode cX2_glance 9 = .ok (.aload_n 0, 1) := by decide +kernel
theorem dX2_glance_10 : decode cX2_glance 10 = .ok (.iload_n 1, 1) := by decide +kernel
theorem dX2_glance_11 : decode cX2_glance 11 = .ok (.iload_n 2, 1) := by decide +kernel
theorem dX2_glance_12 : decode cX2_glance 12 = .ok (.invokevirtual 92, 3) := by decide +kernel
theorem dX2_glance_15 : decode cX2_glance 15 = .ok (.goto 4, 3) := by decide +kernel
theorem dX2_glance_18 : decode cX2_glance 18 = .ok (.iconst 0, 1) := by decide +kernel
theorem dX2_glance_19 : decode cX2_glance 19 = .ok (.ireturn, 1) := by decide +kernel
set_option maxRecDepth 20000 in
theorem ggX2_pass_X2_isIn : GoodIn wsX2_pass wsX2_isIn := goodIn_r _ [5] (by decide +kernel) (by decide +kernel)
set_option maxRecDepth 20000 in
theorem gX2_pass_X2_isIn : GoodIn wsX2_pass (va_wsS RX2 29 yX2_isIn wsX2_isIn) := goodIn_app (goodIn_of _ (by decide +kernel)) ggX2_pass_X2_isIn
set_option maxRecDepth 20000 in
theorem ggX2_pass_X2_fail : GoodIn wsX2_pass wsX2_fail := goodIn_r _ [9, 1, 42, 43, 44, 45, 46, 47, 48] (by decide +kernel) (by decide +kernel)
set_option maxRecDepth 20000 in
theorem gX2_pass_X2_fail : GoodIn wsX2_pass (wsV RX2 75 RX2 yX2_fail wsX2_fail) := goodIn_app (goodIn_of _ (by decide +kernel)) ggX2_pass_X2_fail
set_option maxRecDepth 20000 in
theorem ggX2_pass_X2_unsaid : GoodIn wsX2_pass wsX2_unsaid := goodIn_r _ [13, 14, 15, 42, 43, 44, 45, 46, 47, 48] (by decide +kernel) (by decide +kernel)
set_option maxRecDepth 20000 in
theorem gX2_pass_X2_unsaid : GoodIn wsX2_pass (wsV RX2 49 RX2 yX2_unsaid wsX2_unsaid) := goodIn_app (goodIn_of _ (by decide +kernel)) ggX2_pass_X2_unsaid
set_option maxRecDepth 20000 in
theorem ggX2_pass_X2_secondsOn : GoodIn wsX2_pass wsX2_secondsOn := goodIn_r _ [19, 20, 21, 22, 4, 23, 14, 24, 25, 26, 27, 28, 29, 30, 31, 32, 33, 34, 35, 36, 37, 38, 39, 40, 41, 42, 43, 44, 45, 46, 47, 48] (by decide +kernel) (by decide +kernel)
set_option maxRecDepth 20000 in
theorem gX2_pass_X2_secondsOn : GoodIn wsX2_pass (wsV RX2 95 RX2 yX2_secondsOn wsX2_secondsOn) := goodIn_app (goodIn_of _ (by decide +kernel)) ggX2_pass_X2_secondsOn
theorem dX2_pass_0 : decode cX2_pass 0 = .ok (.aload_n 0, 1) := by decide +kernel
theorem dX2_pass_1 : decode cX2_pass 1 = .ok (.iconst 0, 1) := by decide +kernel
theorem dX2_pass_2 : decode cX2_pass 2 = .ok (.putfield 26, 3) := by decide +kernel
theorem dX2_pass_5 : decode cX2_pass 5 = .ok (.iload_n 1, 1) := by decide +kernel
theorem dX2_pass_6 : decode cX2_pass 6 = .ok (.iconst 1, 1) := by decide +kernel
theorem dX2_pass_7 : decode cX2_pass 7 = .ok (.bipush 120, 2) := by decide +kernel
theorem dX2_pass_9 : decode cX2_pass 9 = .ok (.invokestatic 29, 3) := by decide +kernel
theorem dX2_pass_12 : decode cX2_pass 12 = .ok (.ifCond .ne 9, 3) := by decide +kernel
theorem dX2_pass_15 : decode cX2_pass 15 = .ok (.aload_n 0, 1) := by decide +kernel
theorem dX2_pass_16 : decode cX2_pass 16 = .ok (.iconst 1, 1) := by decide +kernel
theorem dX2_pass_17 : decode cX2_pass 17 = .ok (.invokevirtual 75, 3) := by decide +kernel
theorem dX2_pass_20 : decode cX2_pass 20 = .ok (.ireturn, 1) := by decide +kernel
theorem dX2_pass_21 : decode cX2_pass 21 = .ok (.aload_n 0, 1) := by decide +kernel
theorem dX2_pass_22 : decode cX2_pass 22 = .ok (.invokevirtual 49, 3) := by decide +kernel
theorem dX2_pass_25 : decode cX2_pass 25 = .ok (.istore_n 2, 1) := by decide +kernel
theorem dX2_pass_26 : decode cX2_pass 26 = .ok (.aload_n 0, 1) := by decide +kernel
theorem dX2_pass_27 : decode cX2_pass 27 = .ok (.iload_n 1, 1) := by decide +kernel
theorem dX2_pass_28 : decode cX2_pass 28 = .ok (.invokevirtual 95, 3) := by decide +kernel
theorem dX2_pass_31 : decode cX2_pass 31 = .ok (.aload_n 0, 1) := by decide +kernel
theorem dX2_pass_32 : decode cX2_pass 32 = .ok (.invokevirtual 49, 3) := by decide +kernel
theorem dX2_pass_35 : decode cX2_pass 35 = .ok (.iload_n 2, 1) := by decide +kernel
theorem dX2_pass_36 : decode cX2_pass 36 = .ok (.isub, 1) := by decide +kernel
theorem dX2_pass_37 : decode cX2_pass 37 = .ok (.ireturn, 1) := by decide +kernel
set_option maxRecDepth 20000 in
theorem ggX2_guests_X2_told : GoodIn wsX2_guests wsX2_told := goodIn_r _ [6, 7, 8, 9, 10, 11, 12, 13, 14] (by decide +kernel) (by decide +kernel)
set_option maxRecDepth 20000 in
theorem gX2_guests_X2_told : GoodIn wsX2_guests (wsV RX2 99 RX2 yX2_told wsX2_told) := goodIn_app (goodIn_of _ (by decide +kernel)) ggX2_guests_X2_told
theorem dX2_guests_0 : decode cX2_guests 0 = .ok (.aload_n 0, 1) := by decide +kernel
theorem dX2_guests_1 : decode cX2_guests 1 = .ok (.aload_n 0, 1) := by decide +kernel
theorem dX2_guests_2 : decode cX2_guests 2 = .ok (.getfield 7, 3) := by decide +kernel
theorem dX2_guests_5 : decode cX2_guests 5 = .ok (.invokevirtual 99, 3) := by decide +kernel
theorem dX2_guests_8 : decode cX2_guests 8 = .ok (.ireturn, 1) := by decide +kernel
set_option maxRecDepth 20000 in
theorem ggX2_seconds_X2_told : GoodIn wsX2_seconds wsX2_told := goodIn_r _ [6, 7, 8, 9, 10, 11, 12, 13, 14] (by decide +kernel) (by decide +kernel)
set_option maxRecDepth 20000 in
theorem gX2_seconds_X2_told : GoodIn wsX2_seconds (wsV RX2 99 RX2 yX2_told wsX2_told) := goodIn_app (goodIn_of _ (by decide +kernel)) ggX2_seconds_X2_told
theorem dX2_seconds_0 : decode cX2_seconds 0 = .ok (.aload_n 0, 1) := by decide +kernel
theorem dX2_seconds_1 : decode cX2_seconds 1 = .ok (.aload_n 0, 1) := by decide +kernel
theorem dX2_seconds_2 : decode cX2_seconds 2 = .ok (.getfield 16, 3) := by decide +kernel
theorem dX2_seconds_5 : decode cX2_seconds 5 = .ok (.iconst 0, 1) := by decide +kernel
theorem dX2_seconds_6 : decode cX2_seconds 6 = .ok (.iaload, 1) := by decide +kernel
theorem dX2_seconds_7 : decode cX2_seconds 7 = .ok (.invokevirtual 99, 3) := by decide +kernel
theorem dX2_seconds_10 : decode cX2_seconds 10 = .ok (.ireturn, 1) := by decide +kernel
set_option maxRecDepth 20000 in
theorem ggX2_limit_X2_told : GoodIn wsX2_limit wsX2_told := goodIn_r _ [6, 7, 8, 9, 10, 11, 12, 13, 14] (by decide +kernel) (by decide +kernel)
set_option maxRecDepth 20000 in
theorem gX2_limit_X2_told : GoodIn wsX2_limit (wsV RX2 99 RX2 yX2_told wsX2_told) := goodIn_app (goodIn_of _ (by decide +kernel)) ggX2_limit_X2_told
theorem dX2_limit_0 : decode cX2_limit 0 = .ok (.aload_n 0, 1) := by decide +kernel
theorem dX2_limit_1 : decode cX2_limit 1 = .ok (.aload_n 0, 1) := by decide +kernel
theorem dX2_limit_2 : decode cX2_limit 2 = .ok (.getfield 13, 3) := by decide +kernel
theorem dX2_limit_5 : decode cX2_limit 5 = .ok (.invokevirtual 99, 3) := by decide +kernel
theorem dX2_limit_8 : decode cX2_limit 8 = .ok (.ireturn, 1) := by decide +kernel
set_option maxRecDepth 20000 in
theorem ggX2_seatsApart_X2_isGuest : GoodIn wsX2_seatsApart wsX2_isGuest := goodIn_r _ [6, 7, 8, 9, 5, 10, 26, 27, 28, 29, 30, 31, 32] (by decide +kernel) (by decide +kernel)
set_option maxRecDepth 20000 in
theorem gX2_seatsApart_X2_isGuest : GoodIn wsX2_seatsApart (wsV RX2 81 RX2 yX2_isGuest wsX2_isGuest) := goodIn_app (goodIn_of _ (by decide +kernel)) ggX2_seatsApart_X2_isGuest
set_option maxRecDepth 20000 in
theorem ggX2_seatsApart_X2_apart : GoodIn wsX2_seatsApart wsX2_apart := goodIn_r _ [14, 15, 16, 17, 18, 7, 19, 20, 21, 26, 27, 28, 29, 30, 31, 32] (by decide +kernel) (by decide +kernel)
set_option maxRecDepth 20000 in
theorem gX2_seatsApart_X2_apart : GoodIn wsX2_seatsApart (wsV RX2 85 RX2 yX2_apart wsX2_apart) := goodIn_app (goodIn_of _ (by decide +kernel)) ggX2_seatsApart_X2_apart
set_option maxRecDepth 20000 in
theorem ggX2_seatsApart_X2_fail : GoodIn wsX2_seatsApart wsX2_fail := goodIn_r _ [25, 1, 26, 27, 28, 29, 30, 31, 32] (by decide +kernel) (by decide +kernel)
set_option maxRecDepth 20000 in
theorem gX2_seatsApart_X2_fail : GoodIn wsX2_seatsApart (wsV RX2 75 RX2 yX2_fail wsX2_fail) := goodIn_app (goodIn_of _ (by decide +kernel)) ggX2_seatsApart_X2_fail
theorem dX2_seatsApart_0 : decode cX2_seatsApart 0 = .ok (.aload_n 0, 1) := by decide +kernel
theorem dX2_seatsApart_1 : decode cX2_seatsApart 1 = .ok (.iconst 0, 1) := by decide +kernel
theorem dX2_seatsApart_2 : decode cX2_seatsApart 2 = .ok (.putfield 26, 3) := by decide +kernel
theorem dX2_seatsApart_5 : decode cX2_seatsApart 5 = .ok (.aload_n 0, 1) := by decide +kernel
theorem dX2_seatsApart_6 : decode cX2_seatsApart 6 = .ok (.iload_n 1, 1) := by decide +kernel
theorem dX2_seatsApart_7 : decode cX2_seatsApart 7 = .ok (.invokevirtual 81, 3) := by decide +kernel
theorem dX2_seatsApart_10 : decode cX2_seatsApart 10 = .ok (.ifCond .eq 20, 3) := by decide +kernel
theorem dX2_seatsApart_13 : decode cX2_seatsApart 13 = .ok (.aload_n 0, 1) := by decide +kernel
theorem dX2_seatsApart_14 : decode cX2_seatsApart 14 = .ok (.iload_n 2, 1) := by decide +kernel
theorem dX2_seatsApart_15 : decode cX2_seatsApart 15 = .ok (.invokevirtual 81, 3) := by decide +kernel
theorem dX2_seatsApart_18 : decode cX2_seatsApart 18 = .ok (.ifCond .eq 12, 3) := by decide +kernel
theorem dX2_seatsApart_21 : decode cX2_seatsApart 21 = .ok (.aload_n 0, 1) := by decide +kernel
theorem dX2_seatsApart_22 : decode cX2_seatsApart 22 = .ok (.iload_n 1, 1) := by decide +kernel
theorem dX2_seatsApart_23 : decode cX2_seatsApart 23 = .ok (.iload_n 2, 1) := by decide +kernel
theorem dX2_seatsApart_24 : decode cX2_seatsApart 24 = .ok (.invokevirtual 85, 3) := by decide +kernel
theorem dX2_seatsApart_27 : decode cX2_seatsApart 27 = .ok (.goto 8, 3) := by decide +kernel
theorem dX2_seatsApart_30 : decode cX2_seatsApart 30 = .ok (.aload_n 0, 1) := by decide +kernel
theorem dX2_seatsApart_31 : decode cX2_seatsApart 31 = .ok (.iconst 1, 1) := by decide +kernel
theorem dX2_seatsApart_32 : decode cX2_seatsApart 32 = .ok (.invokevirtual 75, 3) := by decide +kernel
theorem dX2_seatsApart_35 : decode cX2_seatsApart 35 = .ok (.ireturn, 1) := by decide +kernel
set_option maxRecDepth 20000 in
theorem ggX2_speaker_X2_told : GoodIn wsX2_speaker wsX2_told := goodIn_r _ [6, 7, 8, 9, 10, 11, 12, 13, 14] (by decide +kernel) (by decide +kernel)
set_option maxRecDepth 20000 in
theorem gX2_speaker_X2_told : GoodIn wsX2_speaker (wsV RX2 99 RX2 yX2_told wsX2_told) := goodIn_app (goodIn_of _ (by decide +kernel)) ggX2_speaker_X2_told
theorem dX2_speaker_0 : decode cX2_speaker 0 = .ok (.aload_n 0, 1) := by decide +kernel
theorem dX2_speaker_1 : decode cX2_speaker 1 = .ok (.aload_n 0, 1) := by decide +kernel
theorem dX2_speaker_2 : decode cX2_speaker 2 = .ok (.getfield 16, 3) := by decide +kernel
theorem dX2_speaker_5 : decode cX2_speaker 5 = .ok (.iconst 1, 1) := by decide +kernel
theorem dX2_speaker_6 : decode cX2_speaker 6 = .ok (.iaload, 1) := by decide +kernel
theorem dX2_speaker_7 : decode cX2_speaker 7 = .ok (.invokevirtual 99, 3) := by decide +kernel
theorem dX2_speaker_10 : decode cX2_speaker 10 = .ok (.ireturn, 1) := by decide +kernel
theorem dX2_left_0 : decode cX2_left 0 = .ok (.aload_n 0, 1) := by decide +kernel
theorem dX2_left_1 : decode cX2_left 1 = .ok (.getfield 16, 3) := by decide +kernel
theorem dX2_left_4 : decode cX2_left 4 = .ok (.iconst 1, 1) := by decide +kernel
theorem dX2_left_5 : decode cX2_left 5 = .ok (.iaload, 1) := by decide +kernel
theorem dX2_left_6 : decode cX2_left 6 = .ok (.iconst (-1), 1) := by decide +kernel
theorem dX2_left_7 : decode cX2_left 7 = .ok (.if_icmp .ne 7, 3) := by decide +kernel
theorem dX2_left_10 : decode cX2_left 10 = .ok (.iconst 0, 1) := by decide +kernel
theorem dX2_left_11 : decode cX2_left 11 = .ok (.goto 9, 3) := by decide +kernel
theorem dX2_left_14 : decode cX2_left 14 = .ok (.aload_n 0, 1) := by decide +kernel
theorem dX2_left_15 : decode cX2_left 15 = .ok (.getfield 16, 3) := by decide +kernel
theorem dX2_left_18 : decode cX2_left 18 = .ok (.iconst 2, 1) := by decide +kernel
theorem dX2_left_19 : decode cX2_left 19 = .ok (.iaload, 1) := by decide +kernel
theorem dX2_left_20 : decode cX2_left 20 = .ok (.ireturn, 1) := by decide +kernel
set_option maxRecDepth 20000 in
theorem ggX2_secondsToSpeak_X2_left : GoodIn wsX2_secondsToSpeak wsX2_left := goodIn_r _ [5, 6, 12, 13, 14, 15, 16, 17, 18] (by decide +kernel) (by decide +kernel)
set_option maxRecDepth 20000 in
theorem gX2_secondsToSpeak_X2_left : GoodIn wsX2_secondsToSpeak (wsV RX2 102 RX2 yX2_left wsX2_left) := goodIn_app (goodIn_of _ (by decide +kernel)) ggX2_secondsToSpeak_X2_left
set_option maxRecDepth 20000 in
theorem ggX2_secondsToSpeak_X2_told : GoodIn wsX2_secondsToSpeak wsX2_told := goodIn_r _ [10, 11, 12, 13, 14, 15, 16, 17, 18] (by decide +kernel) (by decide +kernel)
set_option maxRecDepth 20000 in
theorem gX2_secondsToSpeak_X2_told : GoodIn wsX2_secondsToSpeak (wsV RX2 99 RX2 yX2_told wsX2_told) := goodIn_app (goodIn_of _ (by decide +kernel)) ggX2_secondsToSpeak_X2_told
theorem dX2_secondsToSpeak_0 : decode cX2_secondsToSpeak 0 = .ok (.aload_n 0, 1) := by decide +kernel
theorem dX2_secondsToSpeak_1 : decode cX2_secondsToSpeak 1 = .ok (.aload_n 0, 1) := by decide +kernel
theorem dX2_secondsToSpeak_2 : decode cX2_secondsToSpeak 2 = .ok (.invokevirtual 102, 3) := by decide +kernel
theorem dX2_secondsToSpeak_5 : decode cX2_secondsToSpeak 5 = .ok (.invokevirtual 99, 3) := by decide +kernel
theorem dX2_secondsToSpeak_8 : decode cX2_secondsToSpeak 8 = .ok (.ireturn, 1) := by decide +kernel
set_option maxRecDepth 20000 in
theorem ggX2_pause_X2_told : GoodIn wsX2_pause wsX2_told := goodIn_r _ [6, 7, 8, 9, 10, 11, 12, 13, 14] (by decide +kernel) (by decide +kernel)
set_option maxRecDepth 20000 in
theorem gX2_pause_X2_told : GoodIn wsX2_pause (wsV RX2 99 RX2 yX2_told wsX2_told) := goodIn_app (goodIn_of _ (by decide +kernel)) ggX2_pause_X2_told
theorem dX2_pause_0 : decode cX2_pause 0 = .ok (.aload_n 0, 1) := by decide +kernel
theorem dX2_pause_1 : decode cX2_pause 1 = .ok (.aload_n 0, 1) := by decide +kernel
theorem dX2_pause_2 : decode cX2_pause 2 = .ok (.getfield 16, 3) := by decide +kernel
theorem dX2_pause_5 : decode cX2_pause 5 = .ok (.iconst 3, 1) := by decide +kernel
theorem dX2_pause_6 : decode cX2_pause 6 = .ok (.iaload, 1) := by decide +kernel
theorem dX2_pause_7 : decode cX2_pause 7 = .ok (.invokevirtual 99, 3) := by decide +kernel
theorem dX2_pause_10 : decode cX2_pause 10 = .ok (.ireturn, 1) := by decide +kernel
set_option maxRecDepth 20000 in
theorem ggX2_guest_X2_isGuest : GoodIn wsX2_guest wsX2_isGuest := goodIn_r _ [7, 8, 9, 10, 6, 11, 16, 17, 18, 19, 20, 21, 22] (by decide +kernel) (by decide +kernel)
set_option maxRecDepth 20000 in
theorem gX2_guest_X2_isGuest : GoodIn wsX2_guest (wsV RX2 81 RX2 yX2_isGuest wsX2_isGuest) := goodIn_app (goodIn_of _ (by decide +kernel)) ggX2_guest_X2_isGuest
set_option maxRecDepth 20000 in
theorem ggX2_guest_X2_fail : GoodIn wsX2_guest wsX2_fail := goodIn_r _ [15, 1, 16, 17, 18, 19, 20, 21, 22] (by decide +kernel) (by decide +kernel)
set_option maxRecDepth 20000 in
theorem gX2_guest_X2_fail : GoodIn wsX2_guest (wsV RX2 75 RX2 yX2_fail wsX2_fail) := goodIn_app (goodIn_of _ (by decide +kernel)) ggX2_guest_X2_fail
theorem dX2_guest_0 : decode cX2_guest 0 = .ok (.aload_n 0, 1) := by decide +kernel
theorem dX2_guest_1 : decode cX2_guest 1 = .ok (.iconst 0, 1) := by decide +kernel
theorem dX2_guest_2 : decode cX2_guest 2 = .ok (.putfield 26, 3) := by decide +kernel
theorem dX2_guest_5 : decode cX2_guest 5 = .ok (.aload_n 0, 1) := by decide +kernel
theorem dX2_guest_6 : decode cX2_guest 6 = .ok (.iload_n 1, 1) := by decide +kernel
theorem dX2_guest_7 : decode cX2_guest 7 = .ok (.invokevirtual 81, 3) := by decide +kernel
theorem dX2_guest_10 : decode cX2_guest 10 = .ok (.ifCond .eq 14, 3) := by decide +kernel
theorem dX2_guest_13 : decode cX2_guest 13 = .ok (.aload_n 0, 1) := by decide +kernel
theorem dX2_guest_14 : decode cX2_guest 14 = .ok (.getfield 16, 3) := by decide +kernel
theorem dX2_guest_17 : decode cX2_guest 17 = .ok (.iload_n 2, 1) := by decide +kernel
theorem dX2_guest_18 : decode cX2_guest 18 = .ok (.iload_n 1, 1) := by decide +kernel
theorem dX2_guest_19 : decode cX2_guest 19 = .ok (.iadd, 1) := by decide +kernel
theorem dX2_guest_20 : decode cX2_guest 20 = .ok (.iaload, 1) := by decide +kernel
theorem dX2_guest_21 : decode cX2_guest 21 = .ok (.goto 8, 3) := by decide +kernel
theorem dX2_guest_24 : decode cX2_guest 24 = .ok (.aload_n 0, 1) := by decide +kernel
theorem dX2_guest_25 : decode cX2_guest 25 = .ok (.iconst 1, 1) := by decide +kernel
theorem dX2_guest_26 : decode cX2_guest 26 = .ok (.invokevirtual 75, 3) := by decide +kernel
theorem dX2_guest_29 : decode cX2_guest 29 = .ok (.ireturn, 1) := by decide +kernel
set_option maxRecDepth 20000 in
theorem ggX2_spokenBy_X2_guest : GoodIn wsX2_spokenBy wsX2_guest := goodIn_r _ [5, 6, 7, 8, 9, 10, 4, 11, 12, 13, 14, 15, 16, 17, 18, 19, 20, 21, 22, 23, 24, 25, 26] (by decide +kernel) (by decide +kernel)
set_option maxRecDepth 20000 in
theorem gX2_spokenBy_X2_guest : GoodIn wsX2_spokenBy (wsV RX2 105 RX2 yX2_guest wsX2_guest) := goodIn_app (goodIn_of _ (by decide +kernel)) ggX2_spokenBy_X2_guest
theorem dX2_spokenBy_0 : decode cX2_spokenBy 0 = .ok (.aload_n 0, 1) := by decide +kernel
theorem dX2_spokenBy_1 : decode cX2_spokenBy 1 = .ok (.iload_n 1, 1) := by decide +kernel
theorem dX2_spokenBy_2 : decode cX2_spokenBy 2 = .ok (.bipush 8, 2) := by decide +kernel
theorem dX2_spokenBy_4 : decode cX2_spokenBy 4 = .ok (.invokevirtual 105, 3) := by decide +kernel
theorem dX2_spokenBy_7 : decode cX2_spokenBy 7 = .ok (.ireturn, 1) := by decide +kernel
set_option maxRecDepth 20000 in
theorem ggX2_interruptionsBy_X2_guest : GoodIn wsX2_interruptionsBy wsX2_guest := goodIn_r _ [5, 6, 7, 8, 9, 10, 4, 11, 12, 13, 14, 15, 16, 17, 18, 19, 20, 21, 22, 23, 24, 25, 26] (by decide +kernel) (by decide +kernel)
set_option maxRecDepth 20000 in
theorem gX2_interruptionsBy_X2_guest : GoodIn wsX2_interruptionsBy (wsV RX2 105 RX2 yX2_guest wsX2_guest) := goodIn_app (goodIn_of _ (by decide +kernel)) ggX2_interruptionsBy_X2_guest
theorem dX2_interruptionsBy_0 : decode cX2_interruptionsBy 0 = .ok (.aload_n 0, 1) := by decide +kernel
theorem dX2_interruptionsBy_1 : decode cX2_interruptionsBy 1 = .ok (.iload_n 1, 1) := by decide +kernel
theorem dX2_interruptionsBy_2 : decode cX2_interruptionsBy 2 = .ok (.bipush 18, 2) := by decide +kernel
theorem dX2_interruptionsBy_4 : decode cX2_interruptionsBy 4 = .ok (.invokevirtual 105, 3) := by decide +kernel
theorem dX2_interruptionsBy_7 : decode cX2_interruptionsBy 7 = .ok (.ireturn, 1) := by decide +kernel
set_option maxRecDepth 20000 in
theorem ggX2_coughsOf_X2_guest : GoodIn wsX2_coughsOf wsX2_guest := goodIn_r _ [5, 6, 7, 8, 9, 10, 4, 11, 12, 13, 14, 15, 16, 17, 18, 19, 20, 21, 22, 23, 24, 25, 26] (by decide +kernel) (by decide +kernel)
set_option maxRecDepth 20000 in
theorem gX2_coughsOf_X2_guest : GoodIn wsX2_coughsOf (wsV RX2 105 RX2 yX2_guest wsX2_guest) := goodIn_app (goodIn_of _ (by decide +kernel)) ggX2_coughsOf_X2_guest
theorem dX2_coughsOf_0 : decode cX2_coughsOf 0 = .ok (.aload_n 0, 1) := by decide +kernel
theorem dX2_coughsOf_1 : decode cX2_coughsOf 1 = .ok (.iload_n 1, 1) := by decide +kernel
theorem dX2_coughsOf_2 : decode cX2_coughsOf 2 = .ok (.bipush 28, 2) := by decide +kernel
theorem dX2_coughsOf_4 : decode cX2_coughsOf 4 = .ok (.invokevirtual 105, 3) := by decide +kernel
theorem dX2_coughsOf_7 : decode cX2_coughsOf 7 = .ok (.ireturn, 1) := by decide +kernel
set_option maxRecDepth 20000 in
theorem ggX2_unsaidBy_X2_guest : GoodIn wsX2_unsaidBy wsX2_guest := goodIn_r _ [5, 6, 7, 8, 9, 10, 4, 11, 12, 13, 14, 15, 16, 17, 18, 19, 20, 21, 22, 23, 24, 25, 26] (by decide +kernel) (by decide +kernel)
set_option maxRecDepth 20000 in
theorem gX2_unsaidBy_X2_guest : GoodIn wsX2_unsaidBy (wsV RX2 105 RX2 yX2_guest wsX2_guest) := goodIn_app (goodIn_of _ (by decide +kernel)) ggX2_unsaidBy_X2_guest
theorem dX2_unsaidBy_0 : decode cX2_unsaidBy 0 = .ok (.aload_n 0, 1) := by decide +kernel
theorem dX2_unsaidBy_1 : decode cX2_unsaidBy 1 = .ok (.iload_n 1, 1) := by decide +kernel
theorem dX2_unsaidBy_2 : decode cX2_unsaidBy 2 = .ok (.bipush 38, 2) := by decide +kernel
theorem dX2_unsaidBy_4 : decode cX2_unsaidBy 4 = .ok (.invokevirtual 105, 3) := by decide +kernel
theorem dX2_unsaidBy_7 : decode cX2_unsaidBy 7 = .ok (.ireturn, 1) := by decide +kernel
set_option maxRecDepth 20000 in
theorem ggX2_flight_X2_isGuest : GoodIn wsX2_flight wsX2_isGuest := goodIn_r _ [7, 8, 9, 10, 6, 11, 19, 20, 21, 22, 23, 24, 25] (by decide +kernel) (by decide +kernel)
set_option maxRecDepth 20000 in
theorem gX2_flight_X2_isGuest : GoodIn wsX2_flight (wsV RX2 81 RX2 yX2_isGuest wsX2_isGuest) := goodIn_app (goodIn_of _ (by decide +kernel)) ggX2_flight_X2_isGuest
set_option maxRecDepth 20000 in
theorem ggX2_flight_X2_pair : GoodIn wsX2_flight wsX2_pair := goodIn_r _ [14] (by decide +kernel) (by decide +kernel)
set_option maxRecDepth 20000 in
theorem gX2_flight_X2_pair : GoodIn wsX2_flight (va_wsS RX2 56 yX2_pair wsX2_pair) := goodIn_app (goodIn_of _ (by decide +kernel)) ggX2_flight_X2_pair
set_option maxRecDepth 20000 in
theorem ggX2_flight_X2_fail : GoodIn wsX2_flight wsX2_fail := goodIn_r _ [18, 1, 19, 20, 21, 22, 23, 24, 25] (by decide +kernel) (by decide +kernel)
set_option maxRecDepth 20000 in
theorem gX2_flight_X2_fail : GoodIn wsX2_flight (wsV RX2 75 RX2 yX2_fail wsX2_fail) := goodIn_app (goodIn_of _ (by decide +kernel)) ggX2_flight_X2_fail
theorem dX2_flight_0 : decode cX2_flight 0 = .ok (.aload_n 0, 1) := by decide +kernel
theorem dX2_flight_1 : decode cX2_flight 1 = .ok (.iconst 0, 1) := by decide +kernel
theorem dX2_flight_2 : decode cX2_flight 2 = .ok (.putfield 26, 3) := by decide +kernel
theorem dX2_flight_5 : decode cX2_flight 5 = .ok (.aload_n 0, 1) := by decide +kernel
theorem dX2_flight_6 : decode cX2_flight 6 = .ok (.iload_n 1, 1) := by decide +kernel
theorem dX2_flight_7 : decode cX2_flight 7 = .ok (.invokevirtual 81, 3) := by decide +kernel
theorem dX2_flight_10 : decode cX2_flight 10 = .ok (.ifCond .eq 26, 3) := by decide +kernel
theorem dX2_flight_13 : decode cX2_flight 13 = .ok (.aload_n 0, 1) := by decide +kernel
theorem dX2_flight_14 : decode cX2_flight 14 = .ok (.iload_n 2, 1) := by decide +kernel
theorem dX2_flight_15 : decode cX2_flight 15 = .ok (.invokevirtual 81, 3) := by decide +kernel
theorem dX2_flight_18 : decode cX2_flight 18 = .ok (.ifCond .eq 18, 3) := by decide +kernel
theorem dX2_flight_21 : decode cX2_flight 21 = .ok (.aload_n 0, 1) := by decide +kernel
theorem dX2_flight_22 : decode cX2_flight 22 = .ok (.getfield 16, 3) := by decide +kernel
theorem dX2_flight_25 : decode cX2_flight 25 = .ok (.iload_n 3, 1) := by decide +kernel
theorem dX2_flight_26 : decode cX2_flight 26 = .ok (.iload_n 1, 1) := by decide +kernel
theorem dX2_flight_27 : decode cX2_flight 27 = .ok (.iload_n 2, 1) := by decide +kernel
theorem dX2_flight_28 : decode cX2_flight 28 = .ok (.invokestatic 56, 3) := by decide +kernel
theorem dX2_flight_31 : decode cX2_flight 31 = .ok (.iadd, 1) := by decide +kernel
theorem dX2_flight_32 : decode cX2_flight 32 = .ok (.iaload, 1) := by decide +kernel
theorem dX2_flight_33 : decode cX2_flight 33 = .ok (.goto 8, 3) := by decide +kernel
theorem dX2_flight_36 : decode cX2_flight 36 = .ok (.aload_n 0, 1) := by decide +kernel
theorem dX2_flight_37 : decode cX2_flight 37 = .ok (.iconst 1, 1) := by decide +kernel
theorem dX2_flight_38 : decode cX2_flight 38 = .ok (.invokevirtual 75, 3) := by decide +kernel
theorem dX2_flight_41 : decode cX2_flight 41 = .ok (.ireturn, 1) := by decide +kernel
set_option maxRecDepth 20000 in
theorem ggX2_isUnderWay_X2_flight : GoodIn wsX2_isUnderWay wsX2_flight := goodIn_r _ [5, 6, 7, 8, 9, 10, 4, 11, 12, 13, 14, 15, 16, 17, 18, 19, 20, 21, 22, 23, 24, 25, 26, 27, 28, 29] (by decide +kernel) (by decide +kernel)
set_option maxRecDepth 20000 in
theorem gX2_isUnderWay_X2_flight : GoodIn wsX2_isUnderWay (wsV RX2 108 RX2 yX2_flight wsX2_flight) := goodIn_app (goodIn_of _ (by decide +kernel)) ggX2_isUnderWay_X2_flight
theorem dX2_isUnderWay_0 : decode cX2_isUnderWay 0 = .ok (.aload_n 0, 1) := by decide +kernel
theorem dX2_isUnderWay_1 : decode cX2_isUnderWay 1 = .ok (.iload_n 1, 1) := by decide +kernel
theorem dX2_isUnderWay_2 : decode cX2_isUnderWay 2 = .ok (.iload_n 2, 1) := by decide +kernel
theorem dX2_isUnderWay_3 : decode cX2_isUnderWay 3 = .ok (.sipush 148, 3) := by decide +kernel
theorem dX2_isUnderWay_6 : decode cX2_isUnderWay 6 = .ok (.invokevirtual 108, 3) := by decide +kernel
theorem dX2_isUnderWay_9 : decode cX2_isUnderWay 9 = .ok (.ifCond .le 7, 3) := by decide +kernel
theorem dX2_isUnderWay_12 : decode cX2_isUnderWay 12 = .ok (.iconst 1, 1) := by decide +kernel
theorem dX2_isUnderWay_13 : decode cX2_isUnderWay 13 = .ok (.goto 4, 3) := by decide +kernel
theorem dX2_isUnderWay_16 : decode cX2_isUnderWay 16 = .ok (.iconst 0, 1) := by decide +kernel
theorem dX2_isUnderWay_17 : decode cX2_isUnderWay 17 = .ok (.ireturn, 1) := by decide +kernel
set_option maxRecDepth 20000 in
theorem ggX2_secondsToGo_X2_flight : GoodIn wsX2_secondsToGo wsX2_flight := goodIn_r _ [5, 6, 7, 8, 9, 10, 4, 11, 12, 13, 14, 15, 16, 17, 18, 19, 20, 21, 22, 23, 24, 25, 26, 27, 28, 29] (by decide +kernel) (by decide +kernel)
set_option maxRecDepth 20000 in
theorem gX2_secondsToGo_X2_flight : GoodIn wsX2_secondsToGo (wsV RX2 108 RX2 yX2_flight wsX2_flight) := goodIn_app (goodIn_of _ (by decide +kernel)) ggX2_secondsToGo_X2_flight
theorem dX2_secondsToGo_0 : decode cX2_secondsToGo 0 = .ok (.aload_n 0, 1) := by decide +kernel
theorem dX2_secondsToGo_1 : decode cX2_secondsToGo 1 = .ok (.iload_n 1, 1) := by decide +kernel
theorem dX2_secondsToGo_2 : decode cX2_secondsToGo 2 = .ok (.iload_n 2, 1) := by decide +kernel
theorem dX2_secondsToGo_3 : decode cX2_secondsToGo 3 = .ok (.bipush 48, 2) := by decide +kernel
theorem dX2_secondsToGo_5 : decode cX2_secondsToGo 5 = .ok (.invokevirtual 108, 3) := by decide +kernel
theorem dX2_secondsToGo_8 : decode cX2_secondsToGo 8 = .ok (.ireturn, 1) := by decide +kernel
set_option maxRecDepth 20000 in
theorem ggX2_caughtBy_X2_flight : GoodIn wsX2_caughtBy wsX2_flight := goodIn_r _ [5, 6, 7, 8, 9, 10, 4, 11, 12, 13, 14, 15, 16, 17, 18, 19, 20, 21, 22, 23, 24, 25, 26, 27, 28, 29] (by decide +kernel) (by decide +kernel)
set_option maxRecDepth 20000 in
theorem gX2_caughtBy_X2_flight : GoodIn wsX2_caughtBy (wsV RX2 108 RX2 yX2_flight wsX2_flight) := goodIn_app (goodIn_of _ (by decide +kernel)) ggX2_caughtBy_X2_flight
theorem dX2_caughtBy_0 : decode cX2_caughtBy 0 = .ok (.aload_n 0, 1) := by decide +kernel
theorem dX2_caughtBy_1 : decode cX2_caughtBy 1 = .ok (.iload_n 1, 1) := by decide +kernel
theorem dX2_caughtBy_2 : decode cX2_caughtBy 2 = .ok (.iload_n 2, 1) := by decide +kernel
theorem dX2_caughtBy_3 : decode cX2_caughtBy 3 = .ok (.sipush 248, 3) := by decide +kernel
theorem dX2_caughtBy_6 : decode cX2_caughtBy 6 = .ok (.invokevirtual 108, 3) := by decide +kernel
theorem dX2_caughtBy_9 : decode cX2_caughtBy 9 = .ok (.ireturn, 1) := by decide +kernel
set_option maxRecDepth 20000 in
theorem ggX2_unsaidInPauses_X2_told : GoodIn wsX2_unsaidInPauses wsX2_told := goodIn_r _ [6, 7, 8, 9, 10, 11, 12, 13, 14] (by decide +kernel) (by decide +kernel)
set_option maxRecDepth 20000 in
theorem gX2_unsaidInPauses_X2_told : GoodIn wsX2_unsaidInPauses (wsV RX2 99 RX2 yX2_told wsX2_told) := goodIn_app (goodIn_of _ (by decide +kernel)) ggX2_unsaidInPauses_X2_told
theorem dX2_unsaidInPauses_0 : decode cX2_unsaidInPauses 0 = .ok (.aload_n 0, 1) := by decide +kernel
theorem dX2_unsaidInPauses_1 : decode cX2_unsaidInPauses 1 = .ok (.aload_n 0, 1) := by decide +kernel
theorem dX2_unsaidInPauses_2 : decode cX2_unsaidInPauses 2 = .ok (.getfield 16, 3) := by decide +kernel
theorem dX2_unsaidInPauses_5 : decode cX2_unsaidInPauses 5 = .ok (.iconst 4, 1) := by decide +kernel
theorem dX2_unsaidInPauses_6 : decode cX2_unsaidInPauses 6 = .ok (.iaload, 1) := by decide +kernel
theorem dX2_unsaidInPauses_7 : decode cX2_unsaidInPauses 7 = .ok (.invokevirtual 99, 3) := by decide +kernel
theorem dX2_unsaidInPauses_10 : decode cX2_unsaidInPauses 10 = .ok (.ireturn, 1) := by decide +kernel
set_option maxRecDepth 20000 in
theorem ggX2_allUnsaid_X2_unsaid : GoodIn wsX2_allUnsaid wsX2_unsaid := goodIn_r _ [5, 6, 7, 13, 14, 15, 16, 17, 18, 19] (by decide +kernel) (by decide +kernel)
set_option maxRecDepth 20000 in
theorem gX2_allUnsaid_X2_unsaid : GoodIn wsX2_allUnsaid (wsV RX2 49 RX2 yX2_unsaid wsX2_unsaid) := goodIn_app (goodIn_of _ (by decide +kernel)) ggX2_allUnsaid_X2_unsaid
set_option maxRecDepth 20000 in
theorem ggX2_allUnsaid_X2_told : GoodIn wsX2_allUnsaid wsX2_told := goodIn_r _ [11, 12, 13, 14, 15, 16, 17, 18, 19] (by decide +kernel) (by decide +kernel)
set_option maxRecDepth 20000 in
theorem gX2_allUnsaid_X2_told : GoodIn wsX2_allUnsaid (wsV RX2 99 RX2 yX2_told wsX2_told) := goodIn_app (goodIn_of _ (by decide +kernel)) ggX2_allUnsaid_X2_told
theorem dX2_allUnsaid_0 : decode cX2_allUnsaid 0 = .ok (.aload_n 0, 1) := by decide +kernel
theorem dX2_allUnsaid_1 : decode cX2_allUnsaid 1 = .ok (.aload_n 0, 1) := by decide +kernel
theorem dX2_allUnsaid_2 : decode cX2_allUnsaid 2 = .ok (.invokevirtual 49, 3) := by decide +kernel
theorem dX2_allUnsaid_5 : decode cX2_allUnsaid 5 = .ok (.invokevirtual 99, 3) := by decide +kernel
theorem dX2_allUnsaid_8 : decode cX2_allUnsaid 8 = .ok (.ireturn, 1) := by decide +kernel
theorem dX2_underWay_0 : decode cX2_underWay 0 = .ok (.iconst 0, 1) := by decide +kernel
theorem dX2_underWay_1 : decode cX2_underWay 1 = .ok (.istore_n 1, 1) := by decide +kernel
theorem dX2_underWay_2 : decode cX2_underWay 2 = .ok (.iconst 0, 1) := by decide +kernel
theorem dX2_underWay_3 : decode cX2_underWay 3 = .ok (.istore_n 2, 1) := by decide +kernel
theorem dX2_underWay_4 : decode cX2_underWay 4 = .ok (.iload_n 2, 1) := by decide +kernel
theorem dX2_underWay_5 : decode cX2_underWay 5 = .ok (.bipush 100, 2) := by decide +kernel
theorem dX2_underWay_7 : decode cX2_underWay 7 = .ok (.if_icmp .ge 30, 3) := by decide +kernel
theorem dX2_underWay_10 : decode cX2_underWay 10 = .ok (.iload_n 1, 1) := by decide +kernel
theorem dX2_underWay_11 : decode cX2_underWay 11 = .ok (.aload_n 0, 1) := by decide +kernel
theorem dX2_underWay_12 : decode cX2_underWay 12 = .ok (.getfield 16, 3) := by decide +kernel
theorem dX2_underWay_15 : decode cX2_underWay 15 = .ok (.sipush 148, 3) := by decide +kernel
theorem dX2_underWay_18 : decode cX2_underWay 18 = .ok (.iload_n 2, 1) := by decide +kernel
theorem dX2_underWay_19 : decode cX2_underWay 19 = .ok (.iadd, 1) := by decide +kernel
theorem dX2_underWay_20 : decode cX2_underWay 20 = .ok (.iaload, 1) := by decide +kernel
theorem dX2_underWay_21 : decode cX2_underWay 21 = .ok (.ifCond .le 7, 3) := by decide +kernel
theorem dX2_underWay_24 : decode cX2_underWay 24 = .ok (.iconst 1, 1) := by decide +kernel
theorem dX2_underWay_25 : decode cX2_underWay 25 = .ok (.goto 4, 3) := by decide +kernel
theorem dX2_underWay_28 : decode cX2_underWay 28 = .ok (.iconst 0, 1) := by decide +kernel
theorem dX2_underWay_29 : decode cX2_underWay 29 = .ok (.iadd, 1) := by decide +kernel
theorem dX2_underWay_30 : decode cX2_underWay 30 = .ok (.istore_n 1, 1) := by decide +kernel
theorem dX2_underWay_31 : decode cX2_underWay 31 = .ok (.iinc 2 1, 3) := by decide +kernel
theorem dX2_underWay_34 : decode cX2_underWay 34 = .ok (.goto (-30), 3) := by decide +kernel
theorem dX2_underWay_37 : decode cX2_underWay 37 = .ok (.iload_n 1, 1) := by decide +kernel
theorem dX2_underWay_38 : decode cX2_underWay 38 = .ok (.ireturn, 1) := by decide +kernel
set_option maxRecDepth 20000 in
theorem ggX2_glancesUnderWay_X2_underWay : GoodIn wsX2_glancesUnderWay wsX2_underWay := goodIn_r _ [5, 6, 12, 13, 14, 15, 16, 17, 18] (by decide +kernel) (by decide +kernel)
set_option maxRecDepth 20000 in
theorem gX2_glancesUnderWay_X2_underWay : GoodIn wsX2_glancesUnderWay (wsV RX2 112 RX2 yX2_underWay wsX2_underWay) := goodIn_app (goodIn_of _ (by decide +kernel)) ggX2_glancesUnderWay_X2_underWay
set_option maxRecDepth 20000 in
theorem ggX2_glancesUnderWay_X2_told : GoodIn wsX2_glancesUnderWay wsX2_told := goodIn_r _ [10, 11, 12, 13, 14, 15, 16, 17, 18] (by decide +kernel) (by decide +kernel)
set_option maxRecDepth 20000 in
theorem gX2_glancesUnderWay_X2_told : GoodIn wsX2_glancesUnderWay (wsV RX2 99 RX2 yX2_told wsX2_told) := goodIn_app (goodIn_of _ (by decide +kernel)) ggX2_glancesUnderWay_X2_told
theorem dX2_glancesUnderWay_0 : decode cX2_glancesUnderWay 0 = .ok (.aload_n 0, 1) := by decide +kernel
theorem dX2_glancesUnderWay_1 : decode cX2_glancesUnderWay 1 = .ok (.aload_n 0, 1) := by decide +kernel
theorem dX2_glancesUnderWay_2 : decode cX2_glancesUnderWay 2 = .ok (.invokevirtual 112, 3) := by decide +kernel
theorem dX2_glancesUnderWay_5 : decode cX2_glancesUnderWay 5 = .ok (.invokevirtual 99, 3) := by decide +kernel
theorem dX2_glancesUnderWay_8 : decode cX2_glancesUnderWay 8 = .ok (.ireturn, 1) := by decide +kernel
set_option maxRecDepth 20000 in
theorem ggX2_meetings_X2_told : GoodIn wsX2_meetings wsX2_told := goodIn_r _ [6, 7, 8, 9, 10, 11, 12, 13, 14] (by decide +kernel) (by decide +kernel)
set_option maxRecDepth 20000 in
theorem gX2_meetings_X2_told : GoodIn wsX2_meetings (wsV RX2 99 RX2 yX2_told wsX2_told) := goodIn_app (goodIn_of _ (by decide +kernel)) ggX2_meetings_X2_told
theorem dX2_meetings_0 : decode cX2_meetings 0 = .ok (.aload_n 0, 1) := by decide +kernel
theorem dX2_meetings_1 : decode cX2_meetings 1 = .ok (.aload_n 0, 1) := by decide +kernel
theorem dX2_meetings_2 : decode cX2_meetings 2 = .ok (.getfield 16, 3) := by decide +kernel
theorem dX2_meetings_5 : decode cX2_meetings 5 = .ok (.iconst 5, 1) := by decide +kernel
theorem dX2_meetings_6 : decode cX2_meetings 6 = .ok (.iaload, 1) := by decide +kernel
theorem dX2_meetings_7 : decode cX2_meetings 7 = .ok (.invokevirtual 99, 3) := by decide +kernel
theorem dX2_meetings_10 : decode cX2_meetings 10 = .ok (.ireturn, 1) := by decide +kernel
set_option maxRecDepth 20000 in
theorem ggX2_lostGlances_X2_told : GoodIn wsX2_lostGlances wsX2_told := goodIn_r _ [6, 7, 8, 9, 10, 11, 12, 13, 14] (by decide +kernel) (by decide +kernel)
set_option maxRecDepth 20000 in
theorem gX2_lostGlances_X2_told : GoodIn wsX2_lostGlances (wsV RX2 99 RX2 yX2_told wsX2_told) := goodIn_app (goodIn_of _ (by decide +kernel)) ggX2_lostGlances_X2_told
theorem dX2_lostGlances_0 : decode cX2_lostGlances 0 = .ok (.aload_n 0, 1) := by decide +kernel
theorem dX2_lostGlances_1 : decode cX2_lostGlances 1 = .ok (.aload_n 0, 1) := by decide +kernel
theorem dX2_lostGlances_2 : decode cX2_lostGlances 2 = .ok (.getfield 16, 3) := by decide +kernel
theorem dX2_lostGlances_5 : decode cX2_lostGlances 5 = .ok (.bipush 6, 2) := by decide +kernel
theorem dX2_lostGlances_7 : decode cX2_lostGlances 7 = .ok (.iaload, 1) := by decide +kernel
theorem dX2_lostGlances_8 : decode cX2_lostGlances 8 = .ok (.invokevirtual 99, 3) := by decide +kernel
theorem dX2_lostGlances_11 : decode cX2_lostGlances 11 = .ok (.ireturn, 1) := by decide +kernel
theorem dX2_quietest_0 : decode cX2_quietest 0 = .ok (.aload_n 0, 1) := by decide +kernel
theorem dX2_quietest_1 : decode cX2_quietest 1 = .ok (.iconst 0, 1) := by decide +kernel
theorem dX2_quietest_2 : decode cX2_quietest 2 = .ok (.putfield 26, 3) := by decide +kernel
theorem dX2_quietest_5 : decode cX2_quietest 5 = .ok (.iconst 0, 1) := by decide +kernel
theorem dX2_quietest_6 : decode cX2_quietest 6 = .ok (.istore_n 1, 1) := by decide +kernel
theorem dX2_quietest_7 : decode cX2_quietest 7 = .ok (.iconst 1, 1) := by decide +kernel
theorem dX2_quietest_8 : decode cX2_quietest 8 = .ok (.istore_n 2, 1) := by decide +kernel
theorem dX2_quietest_9 : decode cX2_quietest 9 = .ok (.iload_n 2, 1) := by decide +kernel
theorem dX2_quietest_10 : decode cX2_quietest 10 = .ok (.aload_n 0, 1) := by decide +kernel
theorem dX2_quietest_11 : decode cX2_quietest 11 = .ok (.getfield 7, 3) := by decide +kernel
theorem dX2_quietest_14 : decode cX2_quietest 14 = .ok (.if_icmp .ge 32, 3) := by decide +kernel
theorem dX2_quietest_17 : decode cX2_quietest 17 = .ok (.aload_n 0, 1) := by decide +kernel
theorem dX2_quietest_18 : decode cX2_quietest 18 = .ok (.getfield 16, 3) := by decide +kernel
theorem dX2_quietest_21 : decode cX2_quietest 21 = .ok (.bipush 38, 2) := by decide +kernel
theorem dX2_quietest_23 : decode cX2_quietest 23 = .ok (.iload_n 2, 1) := by decide +kernel
theorem dX2_quietest_24 : decode cX2_quietest 24 = .ok (.iadd, 1) := by decide +kernel
theorem dX2_quietest_25 : decode cX2_quietest 25 = .ok (.iaload, 1) := by decide +kernel
theorem dX2_quietest_26 : decode cX2_quietest 26 = .ok (.aload_n 0, 1) := by decide +kernel
theorem dX2_quietest_27 : decode cX2_quietest 27 = .ok (.getfield 16, 3) := by decide +kernel
theorem dX2_quietest_30 : decode cX2_quietest 30 = .ok (.bipush 38, 2) := by decide +kernel
theorem dX2_quietest_32 : decode cX2_quietest 32 = .ok (.iload_n 1, 1) := by decide +kernel
theorem dX2_quietest_33 : decode cX2_quietest 33 = .ok (.iadd, 1) := by decide +kernel
theorem dX2_quietest_34 : decode cX2_quietest 34 = .ok (.iaload, 1) := by decide +kernel
theorem dX2_quietest_35 : decode cX2_quietest 35 = .ok (.if_icmp .le 5, 3) := by decide +kernel
theorem dX2_quietest_38 : decode cX2_quietest 38 = .ok (.iload_n 2, 1) := by decide +kernel
theorem dX2_quietest_39 : decode cX2_quietest 39 = .ok (.istore_n 1, 1) := by decide +kernel
theorem dX2_quietest_40 : decode cX2_quietest 40 = .ok (.iinc 2 1, 3) := by decide +kernel
theorem dX2_quietest_43 : decode cX2_quietest 43 = .ok (.goto (-34), 3) := by decide +kernel
theorem dX2_quietest_46 : decode cX2_quietest 46 = .ok (.iload_n 1, 1) := by decide +kernel
theorem dX2_quietest_47 : decode cX2_quietest 47 = .ok (.ireturn, 1) := by decide +kernel
set_option maxRecDepth 20000 in
theorem ggX2_rating_X2_rated : GoodIn wsX2_rating wsX2_rated := goodIn_r _ [5, 6, 7, 8, 9, 10, 11, 12, 13, 14, 15, 16, 4, 17, 18, 24, 25, 26, 27, 28, 29, 30] (by decide +kernel) (by decide +kernel)
set_option maxRecDepth 20000 in
theorem gX2_rating_X2_rated : GoodIn wsX2_rating (wsV RX2 78 RX2 yX2_rated wsX2_rated) := goodIn_app (goodIn_of _ (by decide +kernel)) ggX2_rating_X2_rated
set_option maxRecDepth 20000 in
theorem ggX2_rating_X2_told : GoodIn wsX2_rating wsX2_told := goodIn_r _ [22, 23, 24, 25, 26, 27, 28, 29, 30] (by decide +kernel) (by decide +kernel)
set_option maxRecDepth 20000 in
theorem gX2_rating_X2_told : GoodIn wsX2_rating (wsV RX2 99 RX2 yX2_told wsX2_told) := goodIn_app (goodIn_of _ (by decide +kernel)) ggX2_rating_X2_told
theorem dX2_rating_0 : decode cX2_rating 0 = .ok (.aload_n 0, 1) := by decide +kernel
theorem dX2_rating_1 : decode cX2_rating 1 = .ok (.aload_n 0, 1) := by decide +kernel
theorem dX2_rating_2 : decode cX2_rating 2 = .ok (.invokevirtual 78, 3) := by decide +kernel
theorem dX2_rating_5 : decode cX2_rating 5 = .ok (.invokevirtual 99, 3) := by decide +kernel
theorem dX2_rating_8 : decode cX2_rating 8 = .ok (.ireturn, 1) := by decide +kernel
set_option maxRecDepth 20000 in
theorem ggX2_allUnsaidIn_X2_isIn : GoodIn wsX2_allUnsaidIn wsX2_isIn := goodIn_r _ [5] (by decide +kernel) (by decide +kernel)
set_option maxRecDepth 20000 in
theorem gX2_allUnsaidIn_X2_isIn : GoodIn wsX2_allUnsaidIn (va_wsS RX2 29 yX2_isIn wsX2_isIn) := goodIn_app (goodIn_of _ (by decide +kernel)) ggX2_allUnsaidIn_X2_isIn
set_option maxRecDepth 20000 in
theorem ggX2_allUnsaidIn_X2_fail : GoodIn wsX2_allUnsaidIn wsX2_fail := goodIn_r _ [9, 1, 55, 56, 57, 58, 59, 60, 61] (by decide +kernel) (by decide +kernel)
set_option maxRecDepth 20000 in
theorem gX2_allUnsaidIn_X2_fail : GoodIn wsX2_allUnsaidIn (wsV RX2 75 RX2 yX2_fail wsX2_fail) := goodIn_app (goodIn_of _ (by decide +kernel)) ggX2_allUnsaidIn_X2_fail
set_option maxRecDepth 20000 in
theorem ggX2_allUnsaidIn_X2_keep : GoodIn wsX2_allUnsaidIn wsX2_keep := goodIn_r _ [13, 14, 15, 16, 17, 18, 19, 55, 56, 57, 58, 59, 60, 61] (by decide +kernel) (by decide +kernel)
set_option maxRecDepth 20000 in
theorem gX2_allUnsaidIn_X2_keep : GoodIn wsX2_allUnsaidIn (wsV RX2 115 RX2 yX2_keep wsX2_keep) := goodIn_app (goodIn_of _ (by decide +kernel)) ggX2_allUnsaidIn_X2_keep
set_option maxRecDepth 20000 in
theorem ggX2_allUnsaidIn_X2_secondsOn : GoodIn wsX2_allUnsaidIn wsX2_secondsOn := goodIn_r _ [23, 24, 25, 26, 4, 27, 14, 28, 29, 30, 31, 32, 33, 34, 35, 36, 37, 38, 39, 40, 41, 42, 43, 44, 45, 55, 56, 57, 58, 59, 60, 61] (by decide +kernel) (by decide +kernel)
set_option maxRecDepth 20000 in
theorem gX2_allUnsaidIn_X2_secondsOn : GoodIn wsX2_allUnsaidIn (wsV RX2 95 RX2 yX2_secondsOn wsX2_secondsOn) := goodIn_app (goodIn_of _ (by decide +kernel)) ggX2_allUnsaidIn_X2_secondsOn
set_option maxRecDepth 20000 in
theorem ggX2_allUnsaidIn_X2_unsaid : GoodIn wsX2_allUnsaidIn wsX2_unsaid := goodIn_r _ [49, 14, 50, 55, 56, 57, 58, 59, 60, 61] (by decide +kernel) (by decide +kernel)
set_option maxRecDepth 20000 in
theorem gX2_allUnsaidIn_X2_unsaid : GoodIn wsX2_allUnsaidIn (wsV RX2 49 RX2 yX2_unsaid wsX2_unsaid) := goodIn_app (goodIn_of _ (by decide +kernel)) ggX2_allUnsaidIn_X2_unsaid
set_option maxRecDepth 20000 in
theorem ggX2_allUnsaidIn_X2_bringBack : GoodIn wsX2_allUnsaidIn wsX2_bringBack := goodIn_r _ [54, 15, 14, 16, 17, 18, 19, 55, 56, 57, 58, 59, 60, 61] (by decide +kernel) (by decide +kernel)
set_option maxRecDepth 20000 in
theorem gX2_allUnsaidIn_X2_bringBack : GoodIn wsX2_allUnsaidIn (wsV RX2 118 RX2 yX2_bringBack wsX2_bringBack) := goodIn_app (goodIn_of _ (by decide +kernel)) ggX2_allUnsaidIn_X2_bringBack
theorem dX2_allUnsaidIn_0 : decode cX2_allUnsaidIn 0 = .ok (.aload_n 0, 1) := by decide +kernel
theorem dX2_allUnsaidIn_1 : decode cX2_allUnsaidIn 1 = .ok (.iconst 0, 1) := by decide +kernel
theorem dX2_allUnsaidIn_2 : decode cX2_allUnsaidIn 2 = .ok (.putfield 26, 3) := by decide +kernel
theorem dX2_allUnsaidIn_5 : decode cX2_allUnsaidIn 5 = .ok (.iload_n 1, 1) := by decide +kernel
theorem dX2_allUnsaidIn_6 : decode cX2_allUnsaidIn 6 = .ok (.iconst 1, 1) := by decide +kernel
theorem dX2_allUnsaidIn_7 : decode cX2_allUnsaidIn 7 = .ok (.bipush 120, 2) := by decide +kernel
theorem dX2_allUnsaidIn_9 : decode cX2_allUnsaidIn 9 = .ok (.invokestatic 29, 3) := by decide +kernel
theorem dX2_allUnsaidIn_12 : decode cX2_allUnsaidIn 12 = .ok (.ifCond .ne 9, 3) := by decide +kernel
theorem dX2_allUnsaidIn_15 : decode cX2_allUnsaidIn 15 = .ok (.aload_n 0, 1) := by decide +kernel
theorem dX2_allUnsaidIn_16 : decode cX2_allUnsaidIn 16 = .ok (.iconst 1, 1) := by decide +kernel
theorem dX2_allUnsaidIn_17 : decode cX2_allUnsaidIn 17 = .ok (.invokevirtual 75, 3) := by decide +kernel
theorem dX2_allUnsaidIn_20 : decode cX2_allUnsaidIn 20 = .ok (.ireturn, 1) := by decide +kernel
theorem dX2_allUnsaidIn_21 : decode cX2_allUnsaidIn 21 = .ok (.aload_n 0, 1) := by decide +kernel
theorem dX2_allUnsaidIn_22 : decode cX2_allUnsaidIn 22 = .ok (.invokevirtual 115, 3) := by decide +kernel
theorem dX2_allUnsaidIn_25 : decode cX2_allUnsaidIn 25 = .ok (.aload_n 0, 1) := by decide +kernel
theorem dX2_allUnsaidIn_26 : decode cX2_allUnsaidIn 26 = .ok (.iload_n 1, 1) := by decide +kernel
theorem dX2_allUnsaidIn_27 : decode cX2_allUnsaidIn 27 = .ok (.invokevirtual 95, 3) := by decide +kernel
theorem dX2_allUnsaidIn_30 : decode cX2_allUnsaidIn 30 = .ok (.aload_n 0, 1) := by decide +kernel
theorem dX2_allUnsaidIn_31 : decode cX2_allUnsaidIn 31 = .ok (.invokevirtual 49, 3) := by decide +kernel
theorem dX2_allUnsaidIn_34 : decode cX2_allUnsaidIn 34 = .ok (.istore_n 2, 1) := by decide +kernel
theorem dX2_allUnsaidIn_35 : decode cX2_allUnsaidIn 35 = .ok (.aload_n 0, 1) := by decide +kernel
theorem dX2_allUnsaidIn_36 : decode cX2_allUnsaidIn 36 = .ok (.invokevirtual 118, 3) := by decide +kernel
theorem dX2_allUnsaidIn_39 : decode cX2_allUnsaidIn 39 = .ok (.iload_n 2, 1) := by decide +kernel
theorem dX2_allUnsaidIn_40 : decode cX2_allUnsaidIn 40 = .ok (.ireturn, 1) := by decide +kernel
set_option maxRecDepth 20000 in
theorem ggX2_secondsUntilPauseCounts_X2_told : GoodIn wsX2_secondsUntilPauseCounts wsX2_told := goodIn_r _ [7, 8, 9, 10, 11, 12, 13, 14, 15] (by decide +kernel) (by decide +kernel)
set_option maxRecDepth 20000 in
theorem gX2_secondsUntilPauseCounts_X2_told : GoodIn wsX2_secondsUntilPauseCounts (wsV RX2 99 RX2 yX2_told wsX2_told) := goodIn_app (goodIn_of _ (by decide +kernel)) ggX2_secondsUntilPauseCounts_X2_told
theorem dX2_secondsUntilPauseCounts_0 : decode cX2_secondsUntilPauseCounts 0 = .ok (.aload_n 0, 1) := by decide +kernel
theorem dX2_secondsUntilPauseCounts_1 : decode cX2_secondsUntilPauseCounts 1 = .ok (.aload_n 0, 1) := by decide +kernel
theorem dX2_secondsUntilPauseCounts_2 : decode cX2_secondsUntilPauseCounts 2 = .ok (.getfield 16, 3) := by decide +kernel
theorem dX2_secondsUntilPauseCounts_5 : decode cX2_secondsUntilPauseCounts 5 = .ok (.iconst 1, 1) := by decide +kernel
theorem dX2_secondsUntilPauseCounts_6 : decode cX2_secondsUntilPauseCounts 6 = .ok (.iaload, 1) := by decide +kernel
theorem dX2_secondsUntilPauseCounts_7 : decode cX2_secondsUntilPauseCounts 7 = .ok (.iconst (-1), 1) := by decide +kernel
theorem dX2_secondsUntilPauseCounts_8 : decode cX2_secondsUntilPauseCounts 8 = .ok (.if_icmp .ne 22, 3) := by decide +kernel
theorem dX2_secondsUntilPauseCounts_11 : decode cX2_secondsUntilPauseCounts 11 = .ok (.aload_n 0, 1) := by decide +kernel
theorem dX2_secondsUntilPauseCounts_12 : decode cX2_secondsUntilPauseCounts 12 = .ok (.getfield 13, 3) := by decide +kernel
theorem dX2_secondsUntilPauseCounts_15 : decode cX2_secondsUntilPauseCounts 15 = .ok (.aload_n 0, 1) := by decide +kernel
theorem dX2_secondsUntilPauseCounts_16 : decode cX2_secondsUntilPauseCounts 16 = .ok (.getfield 16, 3) := by decide +kernel
theorem dX2_secondsUntilPauseCounts_19 : decode cX2_secondsUntilPauseCounts 19 = .ok (.iconst 3, 1) := by decide +kernel
theorem dX2_secondsUntilPauseCounts_20 : decode cX2_secondsUntilPauseCounts 20 = .ok (.iaload, 1) := by decide +kernel
theorem dX2_secondsUntilPauseCounts_21 : decode cX2_secondsUntilPauseCounts 21 = .ok (.aload_n 0, 1) := by decide +kernel
theorem dX2_secondsUntilPauseCounts_22 : decode cX2_secondsUntilPauseCounts 22 = .ok (.getfield 13, 3) := by decide +kernel
theorem dX2_secondsUntilPauseCounts_25 : decode cX2_secondsUntilPauseCounts 25 = .ok (.irem, 1) := by decide +kernel
theorem dX2_secondsUntilPauseCounts_26 : decode cX2_secondsUntilPauseCounts 26 = .ok (.isub, 1) := by decide +kernel
theorem dX2_secondsUntilPauseCounts_27 : decode cX2_secondsUntilPauseCounts 27 = .ok (.goto 14, 3) := by decide +kernel
theorem dX2_secondsUntilPauseCounts_30 : decode cX2_secondsUntilPauseCounts 30 = .ok (.aload_n 0, 1) := by decide +kernel
theorem dX2_secondsUntilPauseCounts_31 : decode cX2_secondsUntilPauseCounts 31 = .ok (.getfield 16, 3) := by decide +kernel
theorem dX2_secondsUntilPauseCounts_34 : decode cX2_secondsUntilPauseCounts 34 = .ok (.iconst 2, 1) := by decide +kernel
theorem dX2_secondsUntilPauseCounts_35 : decode cX2_secondsUntilPauseCounts 35 = .ok (.iaload, 1) := by decide +kernel
theorem dX2_secondsUntilPauseCounts_36 : decode cX2_secondsUntilPauseCounts 36 = .ok (.aload_n 0, 1) := by decide +kernel
theorem dX2_secondsUntilPauseCounts_37 : decode cX2_secondsUntilPauseCounts 37 = .ok (.getfield 13, 3) := by decide +kernel
theorem dX2_secondsUntilPauseCounts_40 : decode cX2_secondsUntilPauseCounts 40 = .ok (.iadd, 1) := by decide +kernel
theorem dX2_secondsUntilPauseCounts_41 : decode cX2_secondsUntilPauseCounts 41 = .ok (.invokevirtual 99, 3) := by decide +kernel
theorem dX2_secondsUntilPauseCounts_44 : decode cX2_secondsUntilPauseCounts 44 = .ok (.ireturn, 1) := by decide +kernel
set_option maxRecDepth 20000 in
theorem ggX2_becomes_X2_send : GoodIn wsX2_becomes wsX2_send := goodIn_r _ [8, 2, 9, 10, 7, 11, 12, 13, 14, 15, 16, 17, 18, 19, 20, 21, 22, 23, 50, 51, 52, 53, 54, 55, 56] (by decide +kernel) (by decide +kernel)
set_option maxRecDepth 20000 in
theorem gX2_becomes_X2_send : GoodIn wsX2_becomes (wsV RX2 92 RX2 yX2_send wsX2_send) := goodIn_app (goodIn_of _ (by decide +kernel)) ggX2_becomes_X2_send
set_option maxRecDepth 20000 in
theorem ggX2_becomes_X2_pair : GoodIn wsX2_becomes wsX2_pair := goodIn_r _ [11] (by decide +kernel) (by decide +kernel)
set_option maxRecDepth 20000 in
theorem gX2_becomes_X2_pair : GoodIn wsX2_becomes (va_wsS RX2 56 yX2_pair wsX2_pair) := goodIn_app (goodIn_of _ (by decide +kernel)) ggX2_becomes_X2_pair
set_option maxRecDepth 20000 in
theorem ggX2_becomes_X2_secondOn : GoodIn wsX2_becomes wsX2_secondOn := goodIn_r _ [27, 2, 28, 29, 30, 7, 31, 32, 33, 34, 35, 36, 37, 38, 39, 40, 1, 3, 9, 10, 11, 50, 51, 52, 53, 54, 55, 56] (by decide +kernel) (by decide +kernel)
set_option maxRecDepth 20000 in
theorem gX2_becomes_X2_secondOn : GoodIn wsX2_becomes (wsV RX2 72 RX2 yX2_secondOn wsX2_secondOn) := goodIn_app (goodIn_of _ (by decide +kernel)) ggX2_becomes_X2_secondOn
set_option maxRecDepth 20000 in
theorem ggX2_becomes_X2_bringBack : GoodIn wsX2_becomes wsX2_bringBack := goodIn_r _ [44, 45, 2, 46, 47, 48, 49, 50, 51, 52, 53, 54, 55, 56] (by decide +kernel) (by decide +kernel)
set_option maxRecDepth 20000 in
theorem gX2_becomes_X2_bringBack : GoodIn wsX2_becomes (wsV RX2 118 RX2 yX2_bringBack wsX2_bringBack) := goodIn_app (goodIn_of _ (by decide +kernel)) ggX2_becomes_X2_bringBack
theorem dX2_becomes_0 : decode cX2_becomes 0 = .ok (.aload_n 0, 1) := by decide +kernel
theorem dX2_becomes_1 : decode cX2_becomes 1 = .ok (.iload_n 1, 1) := by decide +kernel
theorem dX2_becomes_2 : decode cX2_becomes 2 = .ok (.iload_n 2, 1) := by decide +kernel
theorem dX2_becomes_3 : decode cX2_becomes 3 = .ok (.invokevirtual 92, 3) := by decide +kernel
theorem dX2_becomes_6 : decode cX2_becomes 6 = .ok (.pop, 1) := by decide +kernel
theorem dX2_becomes_7 : decode cX2_becomes 7 = .ok (.aload_n 0, 1) := by decide +kernel
theorem dX2_becomes_8 : decode cX2_becomes 8 = .ok (.iload_n 1, 1) := by decide +kernel
theorem dX2_becomes_9 : decode cX2_becomes 9 = .ok (.iload_n 2, 1) := by decide +kernel
theorem dX2_becomes_10 : decode cX2_becomes 10 = .ok (.invokestatic 56, 3) := by decide +kernel
theorem dX2_becomes_13 : decode cX2_becomes 13 = .ok (.putfield 23, 3) := by decide +kernel
theorem dX2_becomes_16 : decode cX2_becomes 16 = .ok (.aload_n 0, 1) := by decide +kernel
theorem dX2_becomes_17 : decode cX2_becomes 17 = .ok (.getfield 16, 3) := by decide +kernel
theorem dX2_becomes_20 : decode cX2_becomes 20 = .ok (.sipush 148, 3) := by decide +kernel
theorem dX2_becomes_23 : decode cX2_becomes 23 = .ok (.aload_n 0, 1) := by decide +kernel
theorem dX2_becomes_24 : decode cX2_becomes 24 = .ok (.getfield 23, 3) := by decide +kernel
theorem dX2_becomes_27 : decode cX2_becomes 27 = .ok (.iadd, 1) := by decide +kernel
theorem dX2_becomes_28 : decode cX2_becomes 28 = .ok (.iaload, 1) := by decide +kernel
theorem dX2_becomes_29 : decode cX2_becomes 29 = .ok (.ifCond .le 10, 3) := by decide +kernel
theorem dX2_becomes_32 : decode cX2_becomes 32 = .ok (.aload_n 0, 1) := by decide +kernel
theorem dX2_becomes_33 : decode cX2_becomes 33 = .ok (.invokevirtual 72, 3) := by decide +kernel
theorem dX2_becomes_36 : decode cX2_becomes 36 = .ok (.goto (-20), 3) := by decide +kernel
theorem dX2_becomes_39 : decode cX2_becomes 39 = .ok (.aload_n 0, 1) := by decide +kernel
theorem dX2_becomes_40 : decode cX2_becomes 40 = .ok (.getfield 59, 3) := by decide +kernel
theorem dX2_becomes_43 : decode cX2_becomes 43 = .ok (.istore_n 3, 1) := by decide +kernel
theorem dX2_becomes_44 : decode cX2_becomes 44 = .ok (.aload_n 0, 1) := by decide +kernel
theorem dX2_becomes_45 : decode cX2_becomes 45 = .ok (.invokevirtual 118, 3) := by decide +kernel
theorem dX2_becomes_48 : decode cX2_becomes 48 = .ok (.iload_n 3, 1) := by decide +kernel
theorem dX2_becomes_49 : decode cX2_becomes 49 = .ok (.ireturn, 1) := by decide +kernel
set_option maxRecDepth 20000 in
theorem ggX2_wouldLeave_X2_canSend : GoodIn wsX2_wouldLeave wsX2_canSend := goodIn_r _ [5, 6, 7, 8, 9, 10, 4, 11, 12, 13, 14, 15, 16, 17, 18, 70, 71, 72, 73, 74, 75, 76] (by decide +kernel) (by decide +kernel)
set_option maxRecDepth 20000 in
theorem gX2_wouldLeave_X2_canSend : GoodIn wsX2_wouldLeave (wsV RX2 88 RX2 yX2_canSend wsX2_canSend) := goodIn_app (goodIn_of _ (by decide +kernel)) ggX2_wouldLeave_X2_canSend
set_option maxRecDepth 20000 in
theorem ggX2_wouldLeave_X2_keep : GoodIn wsX2_wouldLeave wsX2_keep := goodIn_r _ [22, 6, 23, 24, 25, 26, 27, 70, 71, 72, 73, 74, 75, 76] (by decide +kernel) (by decide +kernel)
set_option maxRecDepth 20000 in
theorem gX2_wouldLeave_X2_keep : GoodIn wsX2_wouldLeave (wsV RX2 115 RX2 yX2_keep wsX2_keep) := goodIn_app (goodIn_of _ (by decide +kernel)) ggX2_wouldLeave_X2_keep
set_option maxRecDepth 20000 in
theorem ggX2_wouldLeave_X2_becomes : GoodIn wsX2_wouldLeave wsX2_becomes := goodIn_r _ [31, 32, 6, 33, 34, 35, 36, 4, 37, 16, 17, 18, 38, 39, 40, 41, 42, 43, 44, 45, 12, 46, 47, 48, 49, 50, 51, 52, 53, 54, 55, 56, 57, 58, 59, 60, 61, 62, 63, 64, 65, 66, 67, 68, 69, 23, 24, 25, 26, 27, 70, 71, 72, 73, 74, 75, 76] (by decide +kernel) (by decide +kernel)
set_option maxRecDepth 20000 in
theorem gX2_wouldLeave_X2_becomes : GoodIn wsX2_wouldLeave (wsV RX2 121 RX2 yX2_becomes wsX2_becomes) := goodIn_app (goodIn_of _ (by decide +kernel)) ggX2_wouldLeave_X2_becomes
theorem dX2_wouldLeave_0 : decode cX2_wouldLeave 0 = .ok (.aload_n 0, 1) := by decide +kernel
theorem dX2_wouldLeave_1 : decode cX2_wouldLeave 1 = .ok (.iload_n 1, 1) := by decide +kernel
theorem dX2_wouldLeave_2 : decode cX2_wouldLeave 2 = .ok (.iload_n 2, 1) := by decide +kernel
theorem dX2_wouldLeave_3 : decode cX2_wouldLeave 3 = .ok (.invokevirtual 88, 3) := by decide +kernel
theorem dX2_wouldLeave_6 : decode cX2_wouldLeave 6 = .ok (.ifCond .ne 5, 3) := by decide +kernel
theorem dX2_wouldLeave_9 : decode cX2_wouldLeave 9 = .ok (.iconst 0, 1) := by decide +kernel
theorem dX2_wouldLeave_10 : decode cX2_wouldLeave 10 = .ok (.ireturn, 1) := by decide +kernel
theorem dX2_wouldLeave_11 : decode cX2_wouldLeave 11 = .ok (.aload_n 0, 1) := by decide +kernel
theorem dX2_wouldLeave_12 : decode cX2_wouldLeave 12 = .ok (.invokevirtual 115, 3) := by decide +kernel
theorem dX2_wouldLeave_15 : decode cX2_wouldLeave 15 = .ok (.aload_n 0, 1) := by decide +kernel
theorem dX2_wouldLeave_16 : decode cX2_wouldLeave 16 = .ok (.iload_n 1, 1) := by decide +kernel
theorem dX2_wouldLeave_17 : decode cX2_wouldLeave 17 = .ok (.iload_n 2, 1) := by decide +kernel
theorem dX2_wouldLeave_18 : decode cX2_wouldLeave 18 = .ok (.invokevirtual 121, 3) := by decide +kernel
theorem dX2_wouldLeave_21 : decode cX2_wouldLeave 21 = .ok (.ireturn, 1) := by decide +kernel
set_option maxRecDepth 20000 in
theorem ggX2_bestMoment_X2_canSend : GoodIn wsX2_bestMoment wsX2_canSend := goodIn_r _ [5, 6, 7, 8, 9, 10, 4, 11, 12, 13, 14, 15, 16, 17, 18, 74, 75, 76, 77, 78, 79, 80] (by decide +kernel) (by decide +kernel)
set_option maxRecDepth 20000 in
theorem gX2_bestMoment_X2_canSend : GoodIn wsX2_bestMoment (wsV RX2 88 RX2 yX2_canSend wsX2_canSend) := goodIn_app (goodIn_of _ (by decide +kernel)) ggX2_bestMoment_X2_canSend
set_option maxRecDepth 20000 in
theorem ggX2_bestMoment_X2_keep : GoodIn wsX2_bestMoment wsX2_keep := goodIn_r _ [22, 6, 23, 24, 25, 26, 27, 74, 75, 76, 77, 78, 79, 80] (by decide +kernel) (by decide +kernel)
set_option maxRecDepth 20000 in
theorem gX2_bestMoment_X2_keep : GoodIn wsX2_bestMoment (wsV RX2 115 RX2 yX2_keep wsX2_keep) := goodIn_app (goodIn_of _ (by decide +kernel)) ggX2_bestMoment_X2_keep
set_option maxRecDepth 20000 in
theorem ggX2_bestMoment_X2_secondsOn : GoodIn wsX2_bestMoment wsX2_secondsOn := goodIn_r _ [31, 32, 33, 34, 4, 35, 6, 36, 37, 38, 39, 40, 41, 42, 43, 44, 45, 46, 47, 48, 49, 50, 16, 17, 18, 74, 75, 76, 77, 78, 79, 80] (by decide +kernel) (by decide +kernel)
set_option maxRecDepth 20000 in
theorem gX2_bestMoment_X2_secondsOn : GoodIn wsX2_bestMoment (wsV RX2 95 RX2 yX2_secondsOn wsX2_secondsOn) := goodIn_app (goodIn_of _ (by decide +kernel)) ggX2_bestMoment_X2_secondsOn
set_option maxRecDepth 20000 in
theorem ggX2_bestMoment_X2_becomes : GoodIn wsX2_bestMoment wsX2_becomes := goodIn_r _ [54, 49, 6, 50, 55, 56, 57, 4, 58, 16, 17, 18, 59, 60, 61, 62, 63, 64, 65, 66, 12, 67, 68, 69, 32, 33, 34, 35, 36, 37, 38, 39, 40, 41, 42, 43, 44, 45, 46, 47, 48, 70, 71, 72, 73, 23, 24, 25, 26, 27, 74, 75, 76, 77, 78, 79, 80] (by decide +kernel) (by decide +kernel)
set_option maxRecDepth 20000 in
theorem gX2_bestMoment_X2_becomes : GoodIn wsX2_bestMoment (wsV RX2 121 RX2 yX2_becomes wsX2_becomes) := goodIn_app (goodIn_of _ (by decide +kernel)) ggX2_bestMoment_X2_becomes
theorem dX2_bestMoment_0 : decode cX2_bestMoment 0 = .ok (.aload_n 0, 1) := by decide +kernel
theorem dX2_bestMoment_1 : decode cX2_bestMoment 1 = .ok (.iload_n 1, 1) := by decide +kernel
theorem dX2_bestMoment_2 : decode cX2_bestMoment 2 = .ok (.iload_n 2, 1) := by decide +kernel
theorem dX2_bestMoment_3 : decode cX2_bestMoment 3 = .ok (.invokevirtual 88, 3) := by decide +kernel
theorem dX2_bestMoment_6 : decode cX2_bestMoment 6 = .ok (.ifCond .ne 5, 3) := by decide +kernel
theorem dX2_bestMoment_9 : decode cX2_bestMoment 9 = .ok (.iconst 0, 1) := by decide +kernel
theorem dX2_bestMoment_10 : decode cX2_bestMoment 10 = .ok (.ireturn, 1) := by decide +kernel
theorem dX2_bestMoment_11 : decode cX2_bestMoment 11 = .ok (.aload_n 0, 1) := by decide +kernel
theorem dX2_bestMoment_12 : decode cX2_bestMoment 12 = .ok (.invokevirtual 115, 3) := by decide +kernel
theorem dX2_bestMoment_15 : decode cX2_bestMoment 15 = .ok (.iconst 0, 1) := by decide +kernel
theorem dX2_bestMoment_16 : decode cX2_bestMoment 16 = .ok (.istore_n 3, 1) := by decide +kernel
theorem dX2_bestMoment_17 : decode cX2_bestMoment 17 = .ok (.iload_n 3, 1) := by decide +kernel
theorem dX2_bestMoment_18 : decode cX2_bestMoment 18 = .ok (.bipush 60, 2) := by decide +kernel
theorem dX2_bestMoment_20 : decode cX2_bestMoment 20 = .ok (.if_icmp .gt 25, 3) := by decide +kernel
theorem dX2_bestMoment_23 : decode cX2_bestMoment 23 = .ok (.aload_n 0, 1) := by decide +kernel
theorem dX2_bestMoment_24 : decode cX2_bestMoment 24 = .ok (.iload_n 3, 1) := by decide +kernel
theorem dX2_bestMoment_25 : decode cX2_bestMoment 25 = .ok (.invokevirtual 95, 3) := by decide +kernel
theorem dX2_bestMoment_28 : decode cX2_bestMoment 28 = .ok (.aload_n 0, 1) := by decide +kernel
theorem dX2_bestMoment_29 : decode cX2_bestMoment 29 = .ok (.iload_n 1, 1) := by decide +kernel
theorem dX2_bestMoment_30 : decode cX2_bestMoment 30 = .ok (.iload_n 2, 1) := by decide +kernel
theorem dX2_bestMoment_31 : decode cX2_bestMoment 31 = .ok (.invokevirtual 121, 3) := by decide +kernel
theorem dX2_bestMoment_34 : decode cX2_bestMoment 34 = .ok (.ifCond .le 5, 3) := by decide +kernel
theorem dX2_bestMoment_37 : decode cX2_bestMoment 37 = .ok (.iload_n 3, 1) := by decide +kernel
theorem dX2_bestMoment_38 : decode cX2_bestMoment 38 = .ok (.ireturn, 1) := by decide +kernel
theorem dX2_bestMoment_39 : decode cX2_bestMoment 39 = .ok (.iinc 3 1, 3) := by decide +kernel
theorem dX2_bestMoment_42 : decode cX2_bestMoment 42 = .ok (.goto (-25), 3) := by decide +kernel
theorem dX2_bestMoment_45 : decode cX2_bestMoment 45 = .ok (.iconst (-1), 1) := by decide +kernel
theorem dX2_bestMoment_46 : decode cX2_bestMoment 46 = .ok (.ireturn, 1) := by decide +kernel
set_option maxRecDepth 20000 in
theorem ggX2_ratingIn_X2_isIn : GoodIn wsX2_ratingIn wsX2_isIn := goodIn_r _ [5] (by decide +kernel) (by decide +kernel)
set_option maxRecDepth 20000 in
theorem gX2_ratingIn_X2_isIn : GoodIn wsX2_ratingIn (va_wsS RX2 29 yX2_isIn wsX2_isIn) := goodIn_app (goodIn_of _ (by decide +kernel)) ggX2_ratingIn_X2_isIn
set_option maxRecDepth 20000 in
theorem ggX2_ratingIn_X2_fail : GoodIn wsX2_ratingIn wsX2_fail := goodIn_r _ [9, 1, 66, 67, 68, 69, 70, 71, 72] (by decide +kernel) (by decide +kernel)
set_option maxRecDepth 20000 in
theorem gX2_ratingIn_X2_fail : GoodIn wsX2_ratingIn (wsV RX2 75 RX2 yX2_fail wsX2_fail) := goodIn_app (goodIn_of _ (by decide +kernel)) ggX2_ratingIn_X2_fail
set_option maxRecDepth 20000 in
theorem ggX2_ratingIn_X2_keep : GoodIn wsX2_ratingIn wsX2_keep := goodIn_r _ [13, 14, 15, 16, 17, 18, 19, 66, 67, 68, 69, 70, 71, 72] (by decide +kernel) (by decide +kernel)
set_option maxRecDepth 20000 in
theorem gX2_ratingIn_X2_keep : GoodIn wsX2_ratingIn (wsV RX2 115 RX2 yX2_keep wsX2_keep) := goodIn_app (goodIn_of _ (by decide +kernel)) ggX2_ratingIn_X2_keep
set_option maxRecDepth 20000 in
theorem ggX2_ratingIn_X2_secondsOn : GoodIn wsX2_ratingIn wsX2_secondsOn := goodIn_r _ [23, 24, 25, 26, 4, 27, 14, 28, 29, 30, 31, 32, 33, 34, 35, 36, 37, 38, 39, 40, 41, 42, 43, 44, 45, 66, 67, 68, 69, 70, 71, 72] (by decide +kernel) (by decide +kernel)
set_option maxRecDepth 20000 in
theorem gX2_ratingIn_X2_secondsOn : GoodIn wsX2_ratingIn (wsV RX2 95 RX2 yX2_secondsOn wsX2_secondsOn) := goodIn_app (goodIn_of _ (by decide +kernel)) ggX2_ratingIn_X2_secondsOn
set_option maxRecDepth 20000 in
theorem ggX2_ratingIn_X2_rated : GoodIn wsX2_ratingIn wsX2_rated := goodIn_r _ [49, 50, 51, 52, 53, 54, 55, 56, 57, 58, 59, 60, 4, 61, 14, 66, 67, 68, 69, 70, 71, 72] (by decide +kernel) (by decide +kernel)
set_option maxRecDepth 20000 in
theorem gX2_ratingIn_X2_rated : GoodIn wsX2_ratingIn (wsV RX2 78 RX2 yX2_rated wsX2_rated) := goodIn_app (goodIn_of _ (by decide +kernel)) ggX2_ratingIn_X2_rated
set_option maxRecDepth 20000 in
theorem ggX2_ratingIn_X2_bringBack : GoodIn wsX2_ratingIn wsX2_bringBack := goodIn_r _ [65, 15, 14, 16, 17, 18, 19, 66, 67, 68, 69, 70, 71, 72] (by decide +kernel) (by decide +kernel)
set_option maxRecDepth 20000 in
theorem gX2_ratingIn_X2_bringBack : GoodIn wsX2_ratingIn (wsV RX2 118 RX2 yX2_bringBack wsX2_bringBack) := goodIn_app (goodIn_of _ (by decide +kernel)) ggX2_ratingIn_X2_bringBack
theorem dX2_ratingIn_0 : decode cX2_ratingIn 0 = .ok (.aload_n 0, 1) := by decide +kernel
theorem dX2_ratingIn_1 : decode cX2_ratingIn 1 = .ok (.iconst 0, 1) := by decide +kernel
theorem dX2_ratingIn_2 : decode cX2_ratingIn 2 = .ok (.putfield 26, 3) := by decide +kernel
theorem dX2_ratingIn_5 : decode cX2_ratingIn 5 = .ok (.iload_n 1, 1) := by decide +kernel
theorem dX2_ratingIn_6 : decode cX2_ratingIn 6 = .ok (.iconst 1, 1) := by decide +kernel
theorem dX2_ratingIn_7 : decode cX2_ratingIn 7 = .ok (.bipush 120, 2) := by decide +kernel
theorem dX2_ratingIn_9 : decode cX2_ratingIn 9 = .ok (.invokestatic 29, 3) := by decide +kernel
theorem dX2_ratingIn_12 : decode cX2_ratingIn 12 = .ok (.ifCond .ne 9, 3) := by decide +kernel
theorem dX2_ratingIn_15 : decode cX2_ratingIn 15 = .ok (.aload_n 0, 1) := by decide +kernel
theorem dX2_ratingIn_16 : decode cX2_ratingIn 16 = .ok (.iconst 1, 1) := by decide +kernel
theorem dX2_ratingIn_17 : decode cX2_ratingIn 17 = .ok (.invokevirtual 75, 3) := by decide +kernel
theorem dX2_ratingIn_20 : decode cX2_ratingIn 20 = .ok (.ireturn, 1) := by decide +kernel
theorem dX2_ratingIn_21 : decode cX2_ratingIn 21 = .ok (.aload_n 0, 1) := by decide +kernel
theorem dX2_ratingIn_22 : decode cX2_ratingIn 22 = .ok (.invokevirtual 115, 3) := by decide +kernel
theorem dX2_ratingIn_25 : decode cX2_ratingIn 25 = .ok (.aload_n 0, 1) := by decide +kernel
theorem dX2_ratingIn_26 : decode cX2_ratingIn 26 = .ok (.iload_n 1, 1) := by decide +kernel
theorem dX2_ratingIn_27 : decode cX2_ratingIn 27 = .ok (.invokevirtual 95, 3) := by decide +kernel
theorem dX2_ratingIn_30 : decode cX2_ratingIn 30 = .ok (.aload_n 0, 1) := by decide +kernel
theorem dX2_ratingIn_31 : decode cX2_ratingIn 31 = .ok (.invokevirtual 78, 3) := by decide +kernel
theorem dX2_ratingIn_34 : decode cX2_ratingIn 34 = .ok (.istore_n 2, 1) := by decide +kernel
theorem dX2_ratingIn_35 : decode cX2_ratingIn 35 = .ok (.aload_n 0, 1) := by decide +kernel
theorem dX2_ratingIn_36 : decode cX2_ratingIn 36 = .ok (.invokevirtual 118, 3) := by decide +kernel
theorem dX2_ratingIn_39 : decode cX2_ratingIn 39 = .ok (.iload_n 2, 1) := by decide +kernel
theorem dX2_ratingIn_40 : decode cX2_ratingIn 40 = .ok (.ireturn, 1) := by decide +kernel
set_option maxRecDepth 20000 in
theorem ggX2_meanUnsaid_X2_unsaid : GoodIn wsX2_meanUnsaid wsX2_unsaid := goodIn_r _ [8, 2, 3, 9, 10, 11, 12, 13, 14, 15] (by decide +kernel) (by decide +kernel)
set_option maxRecDepth 20000 in
theorem gX2_meanUnsaid_X2_unsaid : GoodIn wsX2_meanUnsaid (wsV RX2 49 RX2 yX2_unsaid wsX2_unsaid) := goodIn_app (goodIn_of _ (by decide +kernel)) ggX2_meanUnsaid_X2_unsaid
theorem dX2_meanUnsaid_0 : decode cX2_meanUnsaid 0 = .ok (.aload_n 0, 1) := by decide +kernel
theorem dX2_meanUnsaid_1 : decode cX2_meanUnsaid 1 = .ok (.iconst 0, 1) := by decide +kernel
theorem dX2_meanUnsaid_2 : decode cX2_meanUnsaid 2 = .ok (.putfield 26, 3) := by decide +kernel
theorem dX2_meanUnsaid_5 : decode cX2_meanUnsaid 5 = .ok (.aload_n 0, 1) := by decide +kernel
theorem dX2_meanUnsaid_6 : decode cX2_meanUnsaid 6 = .ok (.invokevirtual 49, 3) := by decide +kernel
theorem dX2_meanUnsaid_9 : decode cX2_meanUnsaid 9 = .ok (.aload_n 0, 1) := by decide +kernel
theorem dX2_meanUnsaid_10 : decode cX2_meanUnsaid 10 = .ok (.getfield 16, 3) := by decide +kernel
theorem dX2_meanUnsaid_13 : decode cX2_meanUnsaid 13 = .ok (.iconst 4, 1) := by decide +kernel
theorem dX2_meanUnsaid_14 : decode cX2_meanUnsaid 14 = .ok (.iaload, 1) := by decide +kernel
theorem dX2_meanUnsaid_15 : decode cX2_meanUnsaid 15 = .ok (.isub, 1) := by decide +kernel
theorem dX2_meanUnsaid_16 : decode cX2_meanUnsaid 16 = .ok (.i2d, 1) := by decide +kernel
theorem dX2_meanUnsaid_17 : decode cX2_meanUnsaid 17 = .ok (.aload_n 0, 1) := by decide +kernel
theorem dX2_meanUnsaid_18 : decode cX2_meanUnsaid 18 = .ok (.getfield 7, 3) := by decide +kernel
theorem dX2_meanUnsaid_21 : decode cX2_meanUnsaid 21 = .ok (.i2d, 1) := by decide +kernel
theorem dX2_meanUnsaid_22 : decode cX2_meanUnsaid 22 = .ok (.ddiv, 1) := by decide +kernel
theorem dX2_meanUnsaid_23 : decode cX2_meanUnsaid 23 = .ok (.dreturn, 1) := by decide +kernel
set_option maxRecDepth 20000 in
theorem ggX2_digest_X2_left : GoodIn wsX2_digest wsX2_left := goodIn_r _ [12, 4, 35, 36, 37, 38, 39, 40, 41] (by decide +kernel) (by decide +kernel)
set_option maxRecDepth 20000 in
theorem gX2_digest_X2_left : GoodIn wsX2_digest (wsV RX2 102 RX2 yX2_left wsX2_left) := goodIn_app (goodIn_of _ (by decide +kernel)) ggX2_digest_X2_left
set_option maxRecDepth 20000 in
theorem ggX2_digest_X2_underWay : GoodIn wsX2_digest wsX2_underWay := goodIn_r _ [16, 4, 35, 36, 37, 38, 39, 40, 41] (by decide +kernel) (by decide +kernel)
set_option maxRecDepth 20000 in
theorem gX2_digest_X2_underWay : GoodIn wsX2_digest (wsV RX2 112 RX2 yX2_underWay wsX2_underWay) := goodIn_app (goodIn_of _ (by decide +kernel)) ggX2_digest_X2_underWay
set_option maxRecDepth 20000 in
theorem ggX2_digest_X2_rated : GoodIn wsX2_digest wsX2_rated := goodIn_r _ [20, 3, 21, 22, 23, 24, 25, 26, 27, 28, 29, 30, 11, 31, 4, 35, 36, 37, 38, 39, 40, 41] (by decide +kernel) (by decide +kernel)
set_option maxRecDepth 20000 in
theorem gX2_digest_X2_rated : GoodIn wsX2_digest (wsV RX2 78 RX2 yX2_rated wsX2_rated) := goodIn_app (goodIn_of _ (by decide +kernel)) ggX2_digest_X2_rated
set_option maxRecDepth 20000 in
theorem ggX2_digest_X2_pair : GoodIn wsX2_digest wsX2_pair := goodIn_r _ [34] (by decide +kernel) (by decide +kernel)
set_option maxRecDepth 20000 in
theorem gX2_digest_X2_pair : GoodIn wsX2_digest (va_wsS RX2 56 yX2_pair wsX2_pair) := goodIn_app (goodIn_of _ (by decide +kernel)) ggX2_digest_X2_pair
theorem dX2_digest_0 : decode cX2_digest 0 = .ok (.aload_n 0, 1) := by decide +kernel
theorem dX2_digest_1 : decode cX2_digest 1 = .ok (.iconst 0, 1) := by decide +kernel
theorem dX2_digest_2 : decode cX2_digest 2 = .ok (.putfield 26, 3) := by decide +kernel
theorem dX2_digest_5 : decode cX2_digest 5 = .ok (.bipush 11, 2) := by decide +kernel
theorem dX2_digest_7 : decode cX2_digest 7 = .ok (.newarray .int, 2) := by decide +kernel
theorem dX2_digest_9 : decode cX2_digest 9 = .ok (.dup, 1) := by decide +kernel
theorem dX2_digest_10 : decode cX2_digest 10 = .ok (.iconst 0, 1) := by decide +kernel
theorem dX2_digest_11 : decode cX2_digest 11 = .ok (.aload_n 0, 1) := by decide +kernel
theorem dX2_digest_12 : decode cX2_digest 12 = .ok (.getfield 7, 3) := by decide +kernel
theorem dX2_digest_15 : decode cX2_digest 15 = .ok (.iastore, 1) := by decide +kernel
theorem dX2_digest_16 : decode cX2_digest 16 = .ok (.dup, 1) := by decide +kernel
theorem dX2_digest_17 : decode cX2_digest 17 = .ok (.iconst 1, 1) := by decide +kernel
theorem dX2_digest_18 : decode cX2_digest 18 = .ok (.aload_n 0, 1) := by decide +kernel
theorem dX2_digest_19 : decode cX2_digest 19 = .ok (.getfield 16, 3) := by decide +kernel
theorem dX2_digest_22 : decode cX2_digest 22 = .ok (.iconst 0, 1) := by decide +kernel
theorem dX2_digest_23 : decode cX2_digest 23 = .ok (.iaload, 1) := by decide +kernel
theorem dX2_digest_24 : decode cX2_digest 24 = .ok (.iastore, 1) := by decide +kernel
theorem dX2_digest_25 : decode cX2_digest 25 = .ok (.dup, 1) := by decide +kernel
theorem dX2_digest_26 : decode cX2_digest 26 = .ok (.iconst 2, 1) := by decide +kernel
theorem dX2_digest_27 : decode cX2_digest 27 = .ok (.aload_n 0, 1) := by decide +kernel
theorem dX2_digest_28 : decode cX2_digest 28 = .ok (.getfield 13, 3) := by decide +kernel
theorem dX2_digest_31 : decode cX2_digest 31 = .ok (.iastore, 1) := by decide +kernel
theorem dX2_digest_32 : decode cX2_digest 32 = .ok (.dup, 1) := by decide +kernel
theorem dX2_digest_33 : decode cX2_digest 33 = .ok (.iconst 3, 1) := by decide +kernel
theorem dX2_digest_34 : decode cX2_digest 34 = .ok (.aload_n 0, 1) := by decide +kernel
theorem dX2_digest_35 : decode cX2_digest 35 = .ok (.getfield 16, 3) := by decide +kernel
theorem dX2_digest_38 : decode cX2_digest 38 = .ok (.iconst 1, 1) := by decide +kernel
theorem dX2_digest_39 : decode cX2_digest 39 = .ok (.iaload, 1) := by decide +kernel
theorem dX2_digest_40 : decode cX2_digest 40 = .ok (.iastore, 1) := by decide +kernel
theorem dX2_digest_41 : decode cX2_digest 41 = .ok (.dup, 1) := by decide +kernel
theorem dX2_digest_42 : decode cX2_digest 42 = .ok (.iconst 4, 1) := by decide +kernel
theorem dX2_digest_43 : decode cX2_digest 43 = .ok (.aload_n 0, 1) := by decide +kernel
theorem dX2_digest_44 : decode cX2_digest 44 = .ok (.invokevirtual 102, 3) := by decide +kernel
theorem dX2_digest_47 : decode cX2_digest 47 = .ok (.iastore, 1) := by decide +kernel
theorem dX2_digest_48 : decode cX2_digest 48 = .ok (.dup, 1) := by decide +kernel
theorem dX2_digest_49 : decode cX2_digest 49 = .ok (.iconst 5, 1) := by decide +kernel
theorem dX2_digest_50 : decode cX2_digest 50 = .ok (.aload_n 0, 1) := by decide +kernel
theorem dX2_digest_51 : decode cX2_digest 51 = .ok (.getfield 16, 3) := by decide +kernel
theorem dX2_digest_54 : decode cX2_digest 54 = .ok (.iconst 3, 1) := by decide +kernel
theorem dX2_digest_55 : decode cX2_digest 55 = .ok (.iaload, 1) := by decide +kernel
theorem dX2_digest_56 : decode cX2_digest 56 = .ok (.iastore, 1) := by decide +kernel
theorem dX2_digest_57 : decode cX2_digest 57 = .ok (.dup, 1) := by decide +kernel
theorem dX2_digest_58 : decode cX2_digest 58 = .ok (.bipush 6, 2) := by decide +kernel
theorem dX2_digest_60 : decode cX2_digest 60 = .ok (.aload_n 0, 1) := by decide +kernel
theorem dX2_digest_61 : decode cX2_digest 61 = .ok (.getfield 16, 3) := by decide +kernel
theorem dX2_digest_64 : decode cX2_digest 64 = .ok (.iconst 4, 1) := by decide +kernel
theorem dX2_digest_65 : decode cX2_digest 65 = .ok (.iaload, 1) := by decide +kernel
theorem dX2_digest_66 : decode cX2_digest 66 = .ok (.iastore, 1) := by decide +kernel
theorem dX2_digest_67 : decode cX2_digest 67 = .ok (.dup, 1) := by decide +kernel
theorem dX2_digest_68 : decode cX2_digest 68 = .ok (.bipush 7, 2) := by decide +kernel
theorem dX2_digest_70 : decode cX2_digest 70 = .ok (.aload_n 0, 1) := by decide +kernel
theorem dX2_digest_71 : decode cX2_digest 71 = .ok (.invokevirtual 112, 3) := by decide +kernel
theorem dX2_digest_74 : decode cX2_digest 74 = .ok (.iastore, 1) := by decide +kernel
theorem dX2_digest_75 : decode cX2_digest 75 = .ok (.dup, 1) := by decide +kernel
theorem dX2_digest_76 : decode cX2_digest 76 = .ok (.bipush 8, 2) := by decide +kernel
theorem dX2_digest_78 : decode cX2_digest 78 = .ok (.aload_n 0, 1) := by decide +kernel
theorem dX2_digest_79 : decode cX2_digest 79 = .ok (.getfield 16, 3) := by decide +kernel
theorem dX2_digest_82 : decode cX2_digest 82 = .ok (.iconst 5, 1) := by decide +kernel
theorem dX2_digest_83 : decode cX2_digest 83 = .ok (.iaload, 1) := by decide +kernel
theorem dX2_digest_84 : decode cX2_digest 84 = .ok (.iastore, 1) := by decide +kernel
theorem dX2_digest_85 : decode cX2_digest 85 = .ok (.dup, 1) := by decide +kernel
theorem dX2_digest_86 : decode cX2_digest 86 = .ok (.bipush 9, 2) := by decide +kernel
theorem dX2_digest_88 : decode cX2_digest 88 = .ok (.aload_n 0, 1) := by decide +kernel
theorem dX2_digest_89 : decode cX2_digest 89 = .ok (.getfield 16, 3) := by decide +kernel
theorem dX2_digest_92 : decode cX2_digest 92 = .ok (.bipush 6, 2) := by decide +kernel
theorem dX2_digest_94 : decode cX2_digest 94 = .ok (.iaload, 1) := by decide +kernel
theorem dX2_digest_95 : decode cX2_digest 95 = .ok (.iastore, 1) := by decide +kernel
theorem dX2_digest_96 : decode cX2_digest 96 = .ok (.dup, 1) := by decide +kernel
theorem dX2_digest_97 : decode cX2_digest 97 = .ok (.bipush 10, 2) := by decide +kernel
theorem dX2_digest_99 : decode cX2_digest 99 = .ok (.aload_n 0, 1) := by decide +kernel
theorem dX2_digest_100 : decode cX2_digest 100 = .ok (.invokevirtual 78, 3) := by decide +kernel
theorem dX2_digest_103 : decode cX2_digest 103 = .ok (.iastore, 1) := by decide +kernel
theorem dX2_digest_104 : decode cX2_digest 104 = .ok (.astore_n 1, 1) := by decide +kernel
theorem dX2_digest_105 : decode cX2_digest 105 = .ok (.ldc2_w 124, 3) := by decide +kernel
theorem dX2_digest_108 : decode cX2_digest 108 = .ok (.lstore_n 2, 1) := by decide +kernel
theorem dX2_digest_109 : decode cX2_digest 109 = .ok (.aload_n 1, 1) := by decide +kernel
theorem dX2_digest_110 : decode cX2_digest 110 = .ok (.astore 4, 2) := by decide +kernel
theorem dX2_digest_112 : decode cX2_digest 112 = .ok (.aload 4, 2) := by decide +kernel
theorem dX2_digest_114 : decode cX2_digest 114 = .ok (.arraylength, 1) := by decide +kernel
theorem dX2_digest_115 : decode cX2_digest 115 = .ok (.istore 5, 2) := by decide +kernel
theorem dX2_digest_117 : decode cX2_digest 117 = .ok (.iconst 0, 1) := by decide +kernel
theorem dX2_digest_118 : decode cX2_digest 118 = .ok (.istore 6, 2) := by decide +kernel
theorem dX2_digest_120 : decode cX2_digest 120 = .ok (.iload 6, 2) := by decide +kernel
theorem dX2_digest_122 : decode cX2_digest 122 = .ok (.iload 5, 2) := by decide +kernel
theorem dX2_digest_124 : decode cX2_digest 124 = .ok (.if_icmp .ge 26, 3) := by decide +kernel
theorem dX2_digest_127 : decode cX2_digest 127 = .ok (.aload 4, 2) := by decide +kernel
theorem dX2_digest_129 : decode cX2_digest 129 = .ok (.iload 6, 2) := by decide +kernel
theorem dX2_digest_131 : decode cX2_digest 131 = .ok (.iaload, 1) := by decide +kernel
theorem dX2_digest_132 : decode cX2_digest 132 = .ok (.istore 7, 2) := by decide +kernel
theorem dX2_digest_134 : decode cX2_digest 134 = .ok (.lload_n 2, 1) := by decide +kernel
theorem dX2_digest_135 : decode cX2_digest 135 = .ok (.ldc2_w 126, 3) := by decide +kernel
theorem dX2_digest_138 : decode cX2_digest 138 = .ok (.lmul, 1) := by decide +kernel
theorem dX2_digest_139 : decode cX2_digest 139 = .ok (.iload 7, 2) := by decide +kernel
theorem dX2_digest_141 : decode cX2_digest 141 = .ok (.i2l, 1) := by decide +kernel
theorem dX2_digest_142 : decode cX2_digest 142 = .ok (.ladd, 1) := by decide +kernel
theorem dX2_digest_143 : decode cX2_digest 143 = .ok (.lstore_n 2, 1) := by decide +kernel
theorem dX2_digest_144 : decode cX2_digest 144 = .ok (.iinc 6 1, 3) := by decide +kernel
theorem dX2_digest_147 : decode cX2_digest 147 = .ok (.goto (-27), 3) := by decide +kernel
theorem dX2_digest_150 : decode cX2_digest 150 = .ok (.iconst 0, 1) := by decide +kernel
theorem dX2_digest_151 : decode cX2_digest 151 = .ok (.istore 4, 2) := by decide +kernel
theorem dX2_digest_153 : decode cX2_digest 153 = .ok (.iload 4, 2) := by decide +kernel
theorem dX2_digest_155 : decode cX2_digest 155 = .ok (.aload_n 0, 1) := by decide +kernel
theorem dX2_digest_156 : decode cX2_digest 156 = .ok (.getfield 7, 3) := by decide +kernel
theorem dX2_digest_159 : decode cX2_digest 159 = .ok (.if_icmp .ge 146, 3) := by decide +kernel
theorem dX2_digest_162 : decode cX2_digest 162 = .ok (.lload_n 2, 1) := by decide +kernel
theorem dX2_digest_163 : decode cX2_digest 163 = .ok (.ldc2_w 126, 3) := by decide +kernel
theorem dX2_digest_166 : decode cX2_digest 166 = .ok (.lmul, 1) := by decide +kernel
theorem dX2_digest_167 : decode cX2_digest 167 = .ok (.aload_n 0, 1) := by decide +kernel
theorem dX2_digest_168 : decode cX2_digest 168 = .ok (.getfield 16, 3) := by decide +kernel
theorem dX2_digest_171 : decode cX2_digest 171 = .ok (.bipush 8, 2) := by decide +kernel
theorem dX2_digest_173 : decode cX2_digest 173 = .ok (.iload 4, 2) := by decide +kernel
theorem dX2_digest_175 : decode cX2_digest 175 = .ok (.iadd, 1) := by decide +kernel
theorem dX2_digest_176 : decode cX2_digest 176 = .ok (.iaload, 1) := by decide +kernel
theorem dX2_digest_177 : decode cX2_digest 177 = .ok (.i2l, 1) := by decide +kernel
theorem dX2_digest_178 : decode cX2_digest 178 = .ok (.ladd, 1) := by decide +kernel
theorem dX2_digest_179 : decode cX2_digest 179 = .ok (.lstore_n 2, 1) := by decide +kernel
theorem dX2_digest_180 : decode cX2_digest 180 = .ok (.lload_n 2, 1) := by decide +kernel
theorem dX2_digest_181 : decode cX2_digest 181 = .ok (.ldc2_w 126, 3) := by decide +kernel
theorem dX2_digest_184 : decode cX2_digest 184 = .ok (.lmul, 1) := by decide +kernel
theorem dX2_digest_185 : decode cX2_digest 185 = .ok (.aload_n 0, 1) := by decide +kernel
theorem dX2_digest_186 : decode cX2_digest 186 = .ok (.getfield 16, 3) := by decide +kernel
theorem dX2_digest_189 : decode cX2_digest 189 = .ok (.bipush 18, 2) := by decide +kernel
theorem dX2_digest_191 : decode cX2_digest 191 = .ok (.iload 4, 2) := by decide +kernel
theorem dX2_digest_193 : decode cX2_digest 193 = .ok (.iadd, 1) := by decide +kernel
theorem dX2_digest_194 : decode cX2_digest 194 = .ok (.iaload, 1) := by decide +kernel
theorem dX2_digest_195 : decode cX2_digest 195 = .ok (.i2l, 1) := by decide +kernel
theorem dX2_digest_196 : decode cX2_digest 196 = .ok (.ladd, 1) := by decide +kernel
theorem dX2_digest_197 : decode cX2_digest 197 = .ok (.lstore_n 2, 1) := by decide +kernel
theorem dX2_digest_198 : decode cX2_digest 198 = .ok (.lload_n 2, 1) := by decide +kernel
theorem dX2_digest_199 : decode cX2_digest 199 = .ok (.ldc2_w 126, 3) := by decide +kernel
theorem dX2_digest_202 : decode cX2_digest 202 = .ok (.lmul, 1) := by decide +kernel
theorem dX2_digest_203 : decode cX2_digest 203 = .ok (.aload_n 0, 1) := by decide +kernel
theorem dX2_digest_204 : decode cX2_digest 204 = .ok (.getfield 16, 3) := by decide +kernel
theorem dX2_digest_207 : decode cX2_digest 207 = .ok (.bipush 28, 2) := by decide +kernel
theorem dX2_digest_209 : decode cX2_digest 209 = .ok (.iload 4, 2) := by decide +kernel
theorem dX2_digest_211 : decode cX2_digest 211 = .ok (.iadd, 1) := by decide +kernel
theorem dX2_digest_212 : decode cX2_digest 212 = .ok (.iaload, 1) := by decide +kernel
theorem dX2_digest_213 : decode cX2_digest 213 = .ok (.i2l, 1) := by decide +kernel
theorem dX2_digest_214 : decode cX2_digest 214 = .ok (.ladd, 1) := by decide +kernel
theorem dX2_digest_215 : decode cX2_digest 215 = .ok (.lstore_n 2, 1) := by decide +kernel
theorem dX2_digest_216 : decode cX2_digest 216 = .ok (.lload_n 2, 1) := by decide +kernel
theorem dX2_digest_217 : decode cX2_digest 217 = .ok (.ldc2_w 126, 3) := by decide +kernel
theorem dX2_digest_220 : decode cX2_digest 220 = .ok (.lmul, 1) := by decide +kernel
theorem dX2_digest_221 : decode cX2_digest 221 = .ok (.aload_n 0, 1) := by decide +kernel
theorem dX2_digest_222 : decode cX2_digest 222 = .ok (.getfield 16, 3) := by decide +kernel
theorem dX2_digest_225 : decode cX2_digest 225 = .ok (.bipush 38, 2) := by decide +kernel
theorem dX2_digest_227 : decode cX2_digest 227 = .ok (.iload 4, 2) := by decide +kernel
theorem dX2_digest_229 : decode cX2_digest 229 = .ok (.iadd, 1) := by decide +kernel
theorem dX2_digest_230 : decode cX2_digest 230 = .ok (.iaload, 1) := by decide +kernel
theorem dX2_digest_231 : decode cX2_digest 231 = .ok (.i2l, 1) := by decide +kernel
theorem dX2_digest_232 : decode cX2_digest 232 = .ok (.ladd, 1) := by decide +kernel
theorem dX2_digest_233 : decode cX2_digest 233 = .ok (.lstore_n 2, 1) := by decide +kernel
theorem dX2_digest_234 : decode cX2_digest 234 = .ok (.iconst 0, 1) := by decide +kernel
theorem dX2_digest_235 : decode cX2_digest 235 = .ok (.istore 5, 2) := by decide +kernel
theorem dX2_digest_237 : decode cX2_digest 237 = .ok (.iload 5, 2) := by decide +kernel
theorem dX2_digest_239 : decode cX2_digest 239 = .ok (.aload_n 0, 1) := by decide +kernel
theorem dX2_digest_240 : decode cX2_digest 240 = .ok (.getfield 7, 3) := by decide +kernel
theorem dX2_digest_243 : decode cX2_digest 243 = .ok (.if_icmp .ge 56, 3) := by decide +kernel
theorem dX2_digest_246 : decode cX2_digest 246 = .ok (.lload_n 2, 1) := by decide +kernel
theorem dX2_digest_247 : decode cX2_digest 247 = .ok (.ldc2_w 126, 3) := by decide +kernel
theorem dX2_digest_250 : decode cX2_digest 250 = .ok (.lmul, 1) := by decide +kernel
theorem dX2_digest_251 : decode cX2_digest 251 = .ok (.aload_n 0, 1) := by decide +kernel
theorem dX2_digest_252 : decode cX2_digest 252 = .ok (.getfield 16, 3) := by decide +kernel
theorem dX2_digest_255 : decode cX2_digest 255 = .ok (.bipush 48, 2) := by decide +kernel
theorem dX2_digest_257 : decode cX2_digest 257 = .ok (.iload 4, 2) := by decide +kernel
theorem dX2_digest_259 : decode cX2_digest 259 = .ok (.iload 5, 2) := by decide +kernel
theorem dX2_digest_261 : decode cX2_digest 261 = .ok (.invokestatic 56, 3) := by decide +kernel
theorem dX2_digest_264 : decode cX2_digest 264 = .ok (.iadd, 1) := by decide +kernel
theorem dX2_digest_265 : decode cX2_digest 265 = .ok (.iaload, 1) := by decide +kernel
theorem dX2_digest_266 : decode cX2_digest 266 = .ok (.i2l, 1) := by decide +kernel
theorem dX2_digest_267 : decode cX2_digest 267 = .ok (.ladd, 1) := by decide +kernel
theorem dX2_digest_268 : decode cX2_digest 268 = .ok (.lstore_n 2, 1) := by decide +kernel
theorem dX2_digest_269 : decode cX2_digest 269 = .ok (.lload_n 2, 1) := by decide +kernel
theorem dX2_digest_270 : decode cX2_digest 270 = .ok (.ldc2_w 126, 3) := by decide +kernel
theorem dX2_digest_273 : decode cX2_digest 273 = .ok (.lmul, 1) := by decide +kernel
theorem dX2_digest_274 : decode cX2_digest 274 = .ok (.aload_n 0, 1) := by decide +kernel
theorem dX2_digest_275 : decode cX2_digest 275 = .ok (.getfield 16, 3) := by decide +kernel
theorem dX2_digest_278 : decode cX2_digest 278 = .ok (.sipush 248, 3) := by decide +kernel
theorem dX2_digest_281 : decode cX2_digest 281 = .ok (.iload 4, 2) := by decide +kernel
theorem dX2_digest_283 : decode cX2_digest 283 = .ok (.iload 5, 2) := by decide +kernel
theorem dX2_digest_285 : decode cX2_digest 285 = .ok (.invokestatic 56, 3) := by decide +kernel
theorem dX2_digest_288 : decode cX2_digest 288 = .ok (.iadd, 1) := by decide +kernel
theorem dX2_digest_289 : decode cX2_digest 289 = .ok (.iaload, 1) := by decide +kernel
theorem dX2_digest_290 : decode cX2_digest 290 = .ok (.i2l, 1) := by decide +kernel
theorem dX2_digest_291 : decode cX2_digest 291 = .ok (.ladd, 1) := by decide +kernel
theorem dX2_digest_292 : decode cX2_digest 292 = .ok (.lstore_n 2, 1) := by decide +kernel
theorem dX2_digest_293 : decode cX2_digest 293 = .ok (.iinc 5 1, 3) := by decide +kernel
theorem dX2_digest_296 : decode cX2_digest 296 = .ok (.goto (-59), 3) := by decide +kernel
theorem dX2_digest_299 : decode cX2_digest 299 = .ok (.iinc 4 1, 3) := by decide +kernel
theorem dX2_digest_302 : decode cX2_digest 302 = .ok (.goto (-149), 3) := by decide +kernel
theorem dX2_digest_305 : decode cX2_digest 305 = .ok (.lload_n 2, 1) := by decide +kernel
theorem dX2_digest_306 : decode cX2_digest 306 = .ok (.lreturn, 1) := by decide +kernel
theorem dJ9_abs_0f7a4_0 : decode cJ9_abs_0f7a4 0 = .ok (.iload_n 0, 1) := by decide +kernel
theorem dJ9_abs_0f7a4_1 : decode cJ9_abs_0f7a4 1 = .ok (.ifCond .ge 8, 3) := by decide +kernel
theorem dJ9_abs_0f7a4_4 : decode cJ9_abs_0f7a4 4 = .ok (.iload_n 0, 1) := by decide +kernel
theorem dJ9_abs_0f7a4_5 : decode cJ9_abs_0f7a4 5 = .ok (.ineg, 1) := by decide +kernel
theorem dJ9_abs_0f7a4_6 : decode cJ9_abs_0f7a4 6 = .ok (.goto 4, 3) := by decide +kernel
theorem dJ9_abs_0f7a4_9 : decode cJ9_abs_0f7a4 9 = .ok (.iload_n 0, 1) := by decide +kernel
theorem dJ9_abs_0f7a4_10 : decode cJ9_abs_0f7a4 10 = .ok (.ireturn, 1) := by decide +kernel
theorem dJ9_max_7cf53_0 : decode cJ9_max_7cf53 0 = .ok (.iload_n 0, 1) := by decide +kernel
theorem dJ9_max_7cf53_1 : decode cJ9_max_7cf53 1 = .ok (.iload_n 1, 1) := by decide +kernel
theorem dJ9_max_7cf53_2 : decode cJ9_max_7cf53 2 = .ok (.if_icmp .lt 7, 3) := by decide +kernel
theorem dJ9_max_7cf53_5 : decode cJ9_max_7cf53 5 = .ok (.iload_n 0, 1) := by decide +kernel
theorem dJ9_max_7cf53_6 : decode cJ9_max_7cf53 6 = .ok (.goto 4, 3) := by decide +kernel
theorem dJ9_max_7cf53_9 : decode cJ9_max_7cf53 9 = .ok (.iload_n 1, 1) := by decide +kernel
theorem dJ9_max_7cf53_10 : decode cJ9_max_7cf53 10 = .ok (.ireturn, 1) := by decide +kernel
theorem dJ9_min_7cf53_0 : decode cJ9_min_7cf53 0 = .ok (.iload_n 0, 1) := by decide +kernel
theorem dJ9_min_7cf53_1 : decode cJ9_min_7cf53 1 = .ok (.iload_n 1, 1) := by decide +kernel
theorem dJ9_min_7cf53_2 : decode cJ9_min_7cf53 2 = .ok (.if_icmp .gt 7, 3) := by decide +kernel
theorem dJ9_min_7cf53_5 : decode cJ9_min_7cf53 5 = .ok (.iload_n 0, 1) := by decide +kernel
theorem dJ9_min_7cf53_6 : decode cJ9_min_7cf53 6 = .ok (.goto 4, 3) := by decide +kernel
theorem dJ9_min_7cf53_9 : decode cJ9_min_7cf53 9 = .ok (.iload_n 1, 1) := by decide +kernel
theorem dJ9_min_7cf53_10 : decode cJ9_min_7cf53 10 = .ok (.ireturn, 1) := by decide +kernel
theorem dJ7_fill_53178_0 : decode cJ7_fill_53178 0 = .ok (.iconst 0, 1) := by decide +kernel
theorem dJ7_fill_53178_1 : decode cJ7_fill_53178 1 = .ok (.istore_n 2, 1) := by decide +kernel
theorem dJ7_fill_53178_2 : decode cJ7_fill_53178 2 = .ok (.aload_n 0, 1) := by decide +kernel
theorem dJ7_fill_53178_3 : decode cJ7_fill_53178 3 = .ok (.arraylength, 1) := by decide +kernel
theorem dJ7_fill_53178_4 : decode cJ7_fill_53178 4 = .ok (.istore_n 3, 1) := by decide +kernel
theorem dJ7_fill_53178_5 : decode cJ7_fill_53178 5 = .ok (.iload_n 2, 1) := by decide +kernel
theorem dJ7_fill_53178_6 : decode cJ7_fill_53178 6 = .ok (.iload_n 3, 1) := by decide +kernel
theorem dJ7_fill_53178_7 : decode cJ7_fill_53178 7 = .ok (.if_icmp .ge 13, 3) := by decide +kernel
theorem dJ7_fill_53178_10 : decode cJ7_fill_53178 10 = .ok (.aload_n 0, 1) := by decide +kernel
theorem dJ7_fill_53178_11 : decode cJ7_fill_53178 11 = .ok (.iload_n 2, 1) := by decide +kernel
theorem dJ7_fill_53178_12 : decode cJ7_fill_53178 12 = .ok (.iload_n 1, 1) := by decide +kernel
theorem dJ7_fill_53178_13 : decode cJ7_fill_53178 13 = .ok (.iastore, 1) := by decide +kernel
theorem dJ7_fill_53178_14 : decode cJ7_fill_53178 14 = .ok (.iinc 2 1, 3) := by decide +kernel
theorem dJ7_fill_53178_17 : decode cJ7_fill_53178 17 = .ok (.goto (-12), 3) := by decide +kernel
theorem dJ7_fill_53178_20 : decode cJ7_fill_53178 20 = .ok (.return_, 1) := by decide +kernel
