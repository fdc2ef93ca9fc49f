set_option maxRecDepth 20000 in
theorem ggX2_init_X1_init : GoodIn wsX2_init wsX1_init := goodIn_r _ [33, 34, 2, 3, 12, 35, 36, 37, 42, 43, 44] (by decide +kernel) (by decide +kernel)
set_option maxRecDepth 20000 in
theorem gX2_init_X1_init_n9 : GoodIn wsX2_init (wsX1_init) := ggX2_init_X1_init
set_option maxRecDepth 20000 in
theorem ggX2_init_X0_init : GoodIn wsX2_init wsX0_init := goodIn_r _ [39, 40, 2, 3, 12, 41, 59] (by decide +kernel) (by decide +kernel)
set_option maxRecDepth 20000 in
theorem gX2_init_X0_init_n18 : GoodIn wsX2_init (wsX0_init) := ggX2_init_X0_init
theorem dX2_init_0 : decode cX2_init 0 = .ok (.aload_n 0, 1) := by decide +kernel
theorem dX2_init_1 : decode cX2_init 1 = .ok (.invokespecial 1, 3) := by decide +kernel
theorem dX2_init_4 : decode cX2_init 4 = .ok (.aload_n 0, 1) := by decide +kernel
theorem dX2_init_5 : decode cX2_init 5 = .ok (.new 7, 3) := by decide +kernel
theorem dX2_init_8 : decode cX2_init 8 = .ok (.dup, 1) := by decide +kernel
theorem dX2_init_9 : decode cX2_init 9 = .ok (.invokespecial 9, 3) := by decide +kernel
theorem dX2_init_12 : decode cX2_init 12 = .ok (.putfield 10, 3) := by decide +kernel
theorem dX2_init_15 : decode cX2_init 15 = .ok (.aload_n 0, 1) := by decide +kernel
theorem dX2_init_16 : decode cX2_init 16 = .ok (.new 16, 3) := by decide +kernel
theorem dX2_init_19 : decode cX2_init 19 = .ok (.dup, 1) := by decide +kernel
theorem dX2_init_20 : decode cX2_init 20 = .ok (.invokespecial 18, 3) := by decide +kernel
theorem dX2_init_23 : decode cX2_init 23 = .ok (.putfield 19, 3) := by decide +kernel
theorem dX2_init_26 : decode cX2_init 26 = .ok (.aload_n 0, 1) := by decide +kernel
theorem dX2_init_27 : decode cX2_init 27 = .ok (.sipush 2040, 3) := by decide +kernel
theorem dX2_init_30 : decode cX2_init 30 = .ok (.newarray .int, 2) := by decide +kernel
theorem dX2_init_32 : decode cX2_init 32 = .ok (.putfield 23, 3) := by decide +kernel
theorem dX2_init_35 : decode cX2_init 35 = .ok (.aload_n 0, 1) := by decide +kernel
theorem dX2_init_36 : decode cX2_init 36 = .ok (.bipush 8, 2) := by decide +kernel
theorem dX2_init_38 : decode cX2_init 38 = .ok (.newarray .int, 2) := by decide +kernel
theorem dX2_init_40 : decode cX2_init 40 = .ok (.putfield 27, 3) := by decide +kernel
theorem dX2_init_43 : decode cX2_init 43 = .ok (.aload_n 0, 1) := by decide +kernel
theorem dX2_init_44 : decode cX2_init 44 = .ok (.bipush 34, 2) := by decide +kernel
theorem dX2_init_46 : decode cX2_init 46 = .ok (.newarray .int, 2) := by decide +kernel
theorem dX2_init_48 : decode cX2_init 48 = .ok (.putfield 30, 3) := by decide +kernel
theorem dX2_init_51 : decode cX2_init 51 = .ok (.aload_n 0, 1) := by decide +kernel
theorem dX2_init_52 : decode cX2_init 52 = .ok (.sipush 1560, 3) := by decide +kernel
theorem dX2_init_55 : decode cX2_init 55 = .ok (.newarray .int, 2) := by decide +kernel
theorem dX2_init_57 : decode cX2_init 57 = .ok (.putfield 33, 3) := by decide +kernel
theorem dX2_init_60 : decode cX2_init 60 = .ok (.aload_n 0, 1) := by decide +kernel
theorem dX2_init_61 : decode cX2_init 61 = .ok (.iconst 0, 1) := by decide +kernel
theorem dX2_init_62 : decode cX2_init 62 = .ok (.putfield 36, 3) := by decide +kernel
theorem dX2_init_65 : decode cX2_init 65 = .ok (.aload_n 0, 1) := by decide +kernel
theorem dX2_init_66 : decode cX2_init 66 = .ok (.iconst 0, 1) := by decide +kernel
theorem dX2_init_67 : decode cX2_init 67 = .ok (.putfield 40, 3) := by decide +kernel
theorem dX2_init_70 : decode cX2_init 70 = .ok (.aload_n 0, 1) := by decide +kernel
theorem dX2_init_71 : decode cX2_init 71 = .ok (.iconst 0, 1) := by decide +kernel
theorem dX2_init_72 : decode cX2_init 72 = .ok (.bipush 20, 2) := by decide +kernel
theorem dX2_init_74 : decode cX2_init 74 = .ok (.iload_n 1, 1) := by decide +kernel
theorem dX2_init_75 : decode cX2_init 75 = .ok (.invokestatic 43, 3) := by decide +kernel
theorem dX2_init_78 : decode cX2_init 78 = .ok (.invokestatic 49, 3) := by decide +kernel
theorem dX2_init_81 : decode cX2_init 81 = .ok (.putfield 52, 3) := by decide +kernel
theorem dX2_init_84 : decode cX2_init 84 = .ok (.aload_n 0, 1) := by decide +kernel
theorem dX2_init_85 : decode cX2_init 85 = .ok (.iconst 0, 1) := by decide +kernel
theorem dX2_init_86 : decode cX2_init 86 = .ok (.putfield 55, 3) := by decide +kernel
theorem dX2_init_89 : decode cX2_init 89 = .ok (.aload_n 0, 1) := by decide +kernel
theorem dX2_init_90 : decode cX2_init 90 = .ok (.iconst (-1), 1) := by decide +kernel
theorem dX2_init_91 : decode cX2_init 91 = .ok (.putfield 58, 3) := by decide +kernel
theorem dX2_init_94 : decode cX2_init 94 = .ok (.aload_n 0, 1) := by decide +kernel
theorem dX2_init_95 : decode cX2_init 95 = .ok (.iconst 0, 1) := by decide +kernel
theorem dX2_init_96 : decode cX2_init 96 = .ok (.putfield 61, 3) := by decide +kernel
theorem dX2_init_99 : decode cX2_init 99 = .ok (.aload_n 0, 1) := by decide +kernel
theorem dX2_init_100 : decode cX2_init 100 = .ok (.iconst 0, 1) := by decide +kernel
theorem dX2_init_101 : decode cX2_init 101 = .ok (.putfield 64, 3) := by decide +kernel
theorem dX2_init_104 : decode cX2_init 104 = .ok (.aload_n 0, 1) := by decide +kernel
theorem dX2_init_105 : decode cX2_init 105 = .ok (.iconst 0, 1) := by decide +kernel
theorem dX2_init_106 : decode cX2_init 106 = .ok (.putfield 67, 3) := by decide +kernel
theorem dX2_init_109 : decode cX2_init 109 = .ok (.return_, 1) := by decide +kernel
set_option maxRecDepth 20000 in
theorem ggX2_put_X2_forgetNonces : GoodIn wsX2_put wsX2_forgetNonces := goodIn_r _ [7, 8, 9, 10, 11, 12, 13, 14, 15, 16, 17, 18, 19, 20, 21, 22, 23] (by decide +kernel) (by decide +kernel)
set_option maxRecDepth 20000 in
theorem gX2_put_X2_forgetNonces : GoodIn wsX2_put (wsV RX2 70 RX2 yX2_forgetNonces wsX2_forgetNonces) := goodIn_app (goodIn_of _ (by decide +kernel)) ggX2_put_X2_forgetNonces
theorem dX2_put_0 : decode cX2_put 0 = .ok (.aload_n 0, 1) := by decide +kernel
theorem dX2_put_1 : decode cX2_put 1 = .ok (.getfield 40, 3) := by decide +kernel
theorem dX2_put_4 : decode cX2_put 4 = .ok (.bipush 8, 2) := by decide +kernel
theorem dX2_put_6 : decode cX2_put 6 = .ok (.if_icmp .lt 6, 3) := by decide +kernel
theorem dX2_put_9 : decode cX2_put 9 = .ok (.bipush (-3), 2) := by decide +kernel
theorem dX2_put_11 : decode cX2_put 11 = .ok (.ireturn, 1) := by decide +kernel
theorem dX2_put_12 : decode cX2_put 12 = .ok (.aload_n 0, 1) := by decide +kernel
theorem dX2_put_13 : decode cX2_put 13 = .ok (.getfield 30, 3) := by decide +kernel
theorem dX2_put_16 : decode cX2_put 16 = .ok (.bipush 16, 2) := by decide +kernel
theorem dX2_put_18 : decode cX2_put 18 = .ok (.aload_n 0, 1) := by decide +kernel
theorem dX2_put_19 : decode cX2_put 19 = .ok (.getfield 40, 3) := by decide +kernel
theorem dX2_put_22 : decode cX2_put 22 = .ok (.iadd, 1) := by decide +kernel
theorem dX2_put_23 : decode cX2_put 23 = .ok (.iload_n 1, 1) := by decide +kernel
theorem dX2_put_24 : decode cX2_put 24 = .ok (.iastore, 1) := by decide +kernel
theorem dX2_put_25 : decode cX2_put 25 = .ok (.aload_n 0, 1) := by decide +kernel
theorem dX2_put_26 : decode cX2_put 26 = .ok (.dup, 1) := by decide +kernel
theorem dX2_put_27 : decode cX2_put 27 = .ok (.getfield 40, 3) := by decide +kernel
theorem dX2_put_30 : decode cX2_put 30 = .ok (.iconst 1, 1) := by decide +kernel
theorem dX2_put_31 : decode cX2_put 31 = .ok (.iadd, 1) := by decide +kernel
theorem dX2_put_32 : decode cX2_put 32 = .ok (.putfield 40, 3) := by decide +kernel
theorem dX2_put_35 : decode cX2_put 35 = .ok (.aload_n 0, 1) := by decide +kernel
theorem dX2_put_36 : decode cX2_put 36 = .ok (.invokevirtual 70, 3) := by decide +kernel
theorem dX2_put_39 : decode cX2_put 39 = .ok (.aload_n 0, 1) := by decide +kernel
theorem dX2_put_40 : decode cX2_put 40 = .ok (.getfield 40, 3) := by decide +kernel
theorem dX2_put_43 : decode cX2_put 43 = .ok (.ireturn, 1) := by decide +kernel
set_option maxRecDepth 20000 in
theorem ggX2_takeBack_X2_clearWordsFrom : GoodIn wsX2_takeBack wsX2_clearWordsFrom := goodIn_r _ [6, 7, 1, 8, 9, 10, 11, 12, 13, 14, 21, 22, 23, 24, 25, 26, 27, 28, 29, 30, 31, 32, 33, 34] (by decide +kernel) (by decide +kernel)
set_option maxRecDepth 20000 in
theorem gX2_takeBack_X2_clearWordsFrom : GoodIn wsX2_takeBack (wsV RX2 73 RX2 yX2_clearWordsFrom wsX2_clearWordsFrom) := goodIn_app (goodIn_of _ (by decide +kernel)) ggX2_takeBack_X2_clearWordsFrom
set_option maxRecDepth 20000 in
theorem ggX2_takeBack_X2_forgetNonces : GoodIn wsX2_takeBack wsX2_forgetNonces := goodIn_r _ [18, 19, 20, 21, 22, 23, 24, 25, 26, 27, 28, 29, 30, 31, 32, 33, 34] (by decide +kernel) (by decide +kernel)
set_option maxRecDepth 20000 in
theorem gX2_takeBack_X2_forgetNonces : GoodIn wsX2_takeBack (wsV RX2 70 RX2 yX2_forgetNonces wsX2_forgetNonces) := goodIn_app (goodIn_of _ (by decide +kernel)) ggX2_takeBack_X2_forgetNonces
theorem dX2_takeBack_0 : decode cX2_takeBack 0 = .ok (.iload_n 1, 1) := by decide +kernel
theorem dX2_takeBack_1 : decode cX2_takeBack 1 = .ok (.iconst 1, 1) := by decide +kernel
theorem dX2_takeBack_2 : decode cX2_takeBack 2 = .ok (.if_icmp .lt 11, 3) := by decide +kernel
theorem dX2_takeBack_5 : decode cX2_takeBack 5 = .ok (.iload_n 1, 1) := by decide +kernel
theorem dX2_takeBack_6 : decode cX2_takeBack 6 = .ok (.aload_n 0, 1) := by decide +kernel
theorem dX2_takeBack_7 : decode cX2_takeBack 7 = .ok (.getfield 40, 3) := by decide +kernel
theorem dX2_takeBack_10 : decode cX2_takeBack 10 = .ok (.if_icmp .le 6, 3) := by decide +kernel
theorem dX2_takeBack_13 : decode cX2_takeBack 13 = .ok (.bipush (-2), 2) := by decide +kernel
theorem dX2_takeBack_15 : decode cX2_takeBack 15 = .ok (.ireturn, 1) := by decide +kernel
theorem dX2_takeBack_16 : decode cX2_takeBack 16 = .ok (.aload_n 0, 1) := by decide +kernel
theorem dX2_takeBack_17 : decode cX2_takeBack 17 = .ok (.aload_n 0, 1) := by decide +kernel
theorem dX2_takeBack_18 : decode cX2_takeBack 18 = .ok (.getfield 40, 3) := by decide +kernel
theorem dX2_takeBack_21 : decode cX2_takeBack 21 = .ok (.iload_n 1, 1) := by decide +kernel
theorem dX2_takeBack_22 : decode cX2_takeBack 22 = .ok (.isub, 1) := by decide +kernel
theorem dX2_takeBack_23 : decode cX2_takeBack 23 = .ok (.invokevirtual 73, 3) := by decide +kernel
theorem dX2_takeBack_26 : decode cX2_takeBack 26 = .ok (.aload_n 0, 1) := by decide +kernel
theorem dX2_takeBack_27 : decode cX2_takeBack 27 = .ok (.invokevirtual 70, 3) := by decide +kernel
theorem dX2_takeBack_30 : decode cX2_takeBack 30 = .ok (.aload_n 0, 1) := by decide +kernel
theorem dX2_takeBack_31 : decode cX2_takeBack 31 = .ok (.getfield 40, 3) := by decide +kernel
theorem dX2_takeBack_34 : decode cX2_takeBack 34 = .ok (.ireturn, 1) := by decide +kernel
theorem dX2_pending_0 : decode cX2_pending 0 = .ok (.iload_n 1, 1) := by decide +kernel
theorem dX2_pending_1 : decode cX2_pending 1 = .ok (.ifCond .lt 11, 3) := by decide +kernel
theorem dX2_pending_4 : decode cX2_pending 4 = .ok (.iload_n 1, 1) := by decide +kernel
theorem dX2_pending_5 : decode cX2_pending 5 = .ok (.aload_n 0, 1) := by decide +kernel
theorem dX2_pending_6 : decode cX2_pending 6 = .ok (.getfield 40, 3) := by decide +kernel
theorem dX2_pending_9 : decode cX2_pending 9 = .ok (.if_icmp .lt 5, 3) := by decide +kernel
theorem dX2_pending_12 : decode cX2_pending 12 = .ok (.iconst 0, 1) := by decide +kernel
theorem dX2_pending_13 : decode cX2_pending 13 = .ok (.ireturn, 1) := by decide +kernel
theorem dX2_pending_14 : decode cX2_pending 14 = .ok (.aload_n 0, 1) := by decide +kernel
theorem dX2_pending_15 : decode cX2_pending 15 = .ok (.getfield 30, 3) := by decide +kernel
theorem dX2_pending_18 : decode cX2_pending 18 = .ok (.bipush 16, 2) := by decide +kernel
theorem dX2_pending_20 : decode cX2_pending 20 = .ok (.iload_n 1, 1) := by decide +kernel
theorem dX2_pending_21 : decode cX2_pending 21 = .ok (.iadd, 1) := by decide +kernel
theorem dX2_pending_22 : decode cX2_pending 22 = .ok (.iaload, 1) := by decide +kernel
theorem dX2_pending_23 : decode cX2_pending 23 = .ok (.ireturn, 1) := by decide +kernel
set_option maxRecDepth 20000 in
theorem ggX2_difficulty_X2_forgetNonces : GoodIn wsX2_difficulty wsX2_forgetNonces := goodIn_r _ [6, 7, 8, 9, 10, 11, 12, 13, 14, 15, 16, 17, 18, 19, 20, 21, 22] (by decide +kernel) (by decide +kernel)
set_option maxRecDepth 20000 in
theorem gX2_difficulty_X2_forgetNonces : GoodIn wsX2_difficulty (wsV RX2 70 RX2 yX2_forgetNonces wsX2_forgetNonces) := goodIn_app (goodIn_of _ (by decide +kernel)) ggX2_difficulty_X2_forgetNonces
theorem dX2_difficulty_0 : decode cX2_difficulty 0 = .ok (.iload_n 1, 1) := by decide +kernel
theorem dX2_difficulty_1 : decode cX2_difficulty 1 = .ok (.ifCond .lt 9, 3) := by decide +kernel
theorem dX2_difficulty_4 : decode cX2_difficulty 4 = .ok (.iload_n 1, 1) := by decide +kernel
theorem dX2_difficulty_5 : decode cX2_difficulty 5 = .ok (.bipush 20, 2) := by decide +kernel
theorem dX2_difficulty_7 : decode cX2_difficulty 7 = .ok (.if_icmp .le 6, 3) := by decide +kernel
theorem dX2_difficulty_10 : decode cX2_difficulty 10 = .ok (.bipush (-2), 2) := by decide +kernel
theorem dX2_difficulty_12 : decode cX2_difficulty 12 = .ok (.ireturn, 1) := by decide +kernel
theorem dX2_difficulty_13 : decode cX2_difficulty 13 = .ok (.aload_n 0, 1) := by decide +kernel
theorem dX2_difficulty_14 : decode cX2_difficulty 14 = .ok (.getfield 52, 3) := by decide +kernel
theorem dX2_difficulty_17 : decode cX2_difficulty 17 = .ok (.istore_n 2, 1) := by decide +kernel
theorem dX2_difficulty_18 : decode cX2_difficulty 18 = .ok (.aload_n 0, 1) := by decide +kernel
theorem dX2_difficulty_19 : decode cX2_difficulty 19 = .ok (.iload_n 1, 1) := by decide +kernel
theorem dX2_difficulty_20 : decode cX2_difficulty 20 = .ok (.putfield 52, 3) := by decide +kernel
theorem dX2_difficulty_23 : decode cX2_difficulty 23 = .ok (.aload_n 0, 1) := by decide +kernel
theorem dX2_difficulty_24 : decode cX2_difficulty 24 = .ok (.invokevirtual 70, 3) := by decide +kernel
theorem dX2_difficulty_27 : decode cX2_difficulty 27 = .ok (.iload_n 2, 1) := by decide +kernel
theorem dX2_difficulty_28 : decode cX2_difficulty 28 = .ok (.ireturn, 1) := by decide +kernel
set_option maxRecDepth 20000 in
theorem ggX2_mine_X2_fillDraft : GoodIn wsX2_mine wsX2_fillDraft := goodIn_r _ [12, 13, 14, 15, 16, 17, 18, 19, 11, 20, 21, 22, 23, 24, 25, 26, 27, 28, 29, 30, 31, 32, 33, 34, 35, 36, 37, 38, 39, 85, 86, 87, 88, 89, 90, 91, 92, 93, 94, 95, 96, 97, 98] (by decide +kernel) (by decide +kernel)
set_option maxRecDepth 20000 in
theorem gX2_mine_X2_fillDraft : GoodIn wsX2_mine (wsV RX2 78 RX2 yX2_fillDraft wsX2_fillDraft) := goodIn_app (goodIn_of _ (by decide +kernel)) ggX2_mine_X2_fillDraft
set_option maxRecDepth 20000 in
theorem ggX2_mine_X2_tryNonces : GoodIn wsX2_mine wsX2_tryNonces := goodIn_r _ [43, 44, 14, 1, 2, 15, 45, 46, 47, 48, 49, 50, 51, 52, 23, 24, 25, 53, 54, 55, 56, 57, 58, 59, 60, 61, 62, 63, 11, 64, 65, 66, 67, 68, 69, 70, 71, 31, 32, 33, 34, 35, 36, 72, 73, 74, 75, 76, 77, 78, 79, 80, 81, 82, 83, 84, 85, 86, 87, 88, 89, 90, 91, 92, 93, 94, 95, 96, 97, 98, 99, 100, 101] (by decide +kernel) (by decide +kernel)
set_option maxRecDepth 20000 in
theorem gX2_mine_X2_tryNonces : GoodIn wsX2_mine (wsV RX2 81 RX2 yX2_tryNonces wsX2_tryNonces) := goodIn_app (goodIn_of _ (by decide +kernel)) ggX2_mine_X2_tryNonces
theorem dX2_mine_0 : decode cX2_mine 0 = .ok (.iload_n 1, 1) := by decide +kernel
theorem dX2_mine_1 : decode cX2_mine 1 = .ok (.iconst 1, 1) := by decide +kernel
theorem dX2_mine_2 : decode cX2_mine 2 = .ok (.if_icmp .lt 10, 3) := by decide +kernel
theorem dX2_mine_5 : decode cX2_mine 5 = .ok (.iload_n 1, 1) := by decide +kernel
theorem dX2_mine_6 : decode cX2_mine 6 = .ok (.sipush 3000, 3) := by decide +kernel
theorem dX2_mine_9 : decode cX2_mine 9 = .ok (.if_icmp .le 6, 3) := by decide +kernel
theorem dX2_mine_12 : decode cX2_mine 12 = .ok (.bipush (-2), 2) := by decide +kernel
theorem dX2_mine_14 : decode cX2_mine 14 = .ok (.ireturn, 1) := by decide +kernel
theorem dX2_mine_15 : decode cX2_mine 15 = .ok (.aload_n 0, 1) := by decide +kernel
theorem dX2_mine_16 : decode cX2_mine 16 = .ok (.getfield 58, 3) := by decide +kernel
theorem dX2_mine_19 : decode cX2_mine 19 = .ok (.iconst (-1), 1) := by decide +kernel
theorem dX2_mine_20 : decode cX2_mine 20 = .ok (.if_icmp .eq 8, 3) := by decide +kernel
theorem dX2_mine_23 : decode cX2_mine 23 = .ok (.aload_n 0, 1) := by decide +kernel
theorem dX2_mine_24 : decode cX2_mine 24 = .ok (.getfield 58, 3) := by decide +kernel
theorem dX2_mine_27 : decode cX2_mine 27 = .ok (.ireturn, 1) := by decide +kernel
theorem dX2_mine_28 : decode cX2_mine 28 = .ok (.aload_n 0, 1) := by decide +kernel
theorem dX2_mine_29 : decode cX2_mine 29 = .ok (.getfield 55, 3) := by decide +kernel
theorem dX2_mine_32 : decode cX2_mine 32 = .ok (.ldc 77, 2) := by decide +kernel
theorem dX2_mine_34 : decode cX2_mine 34 = .ok (.if_icmp .lt 6, 3) := by decide +kernel
theorem dX2_mine_37 : decode cX2_mine 37 = .ok (.bipush (-3), 2) := by decide +kernel
theorem dX2_mine_39 : decode cX2_mine 39 = .ok (.ireturn, 1) := by decide +kernel
theorem dX2_mine_40 : decode cX2_mine 40 = .ok (.aload_n 0, 1) := by decide +kernel
theorem dX2_mine_41 : decode cX2_mine 41 = .ok (.invokevirtual 78, 3) := by decide +kernel
theorem dX2_mine_44 : decode cX2_mine 44 = .ok (.aload_n 0, 1) := by decide +kernel
theorem dX2_mine_45 : decode cX2_mine 45 = .ok (.iload_n 1, 1) := by decide +kernel
theorem dX2_mine_46 : decode cX2_mine 46 = .ok (.ldc 77, 2) := by decide +kernel
theorem dX2_mine_48 : decode cX2_mine 48 = .ok (.aload_n 0, 1) := by decide +kernel
theorem dX2_mine_49 : decode cX2_mine 49 = .ok (.getfield 55, 3) := by decide +kernel
theorem dX2_mine_52 : decode cX2_mine 52 = .ok (.isub, 1) := by decide +kernel
theorem dX2_mine_53 : decode cX2_mine 53 = .ok (.invokestatic 43, 3) := by decide +kernel
theorem dX2_mine_56 : decode cX2_mine 56 = .ok (.invokevirtual 81, 3) := by decide +kernel
theorem dX2_mine_59 : decode cX2_mine 59 = .ok (.aload_n 0, 1) := by decide +kernel
theorem dX2_mine_60 : decode cX2_mine 60 = .ok (.getfield 58, 3) := by decide +kernel
theorem dX2_mine_63 : decode cX2_mine 63 = .ok (.ireturn, 1) := by decide +kernel
theorem dX2_tried_0 : decode cX2_tried 0 = .ok (.aload_n 0, 1) := by decide +kernel
theorem dX2_tried_1 : decode cX2_tried 1 = .ok (.getfield 55, 3) := by decide +kernel
theorem dX2_tried_4 : decode cX2_tried 4 = .ok (.ireturn, 1) := by decide +kernel
set_option maxRecDepth 20000 in
theorem ggX2_commit_X2_addToFilter : GoodIn wsX2_commit wsX2_addToFilter := goodIn_r _ [14, 15, 4, 16, 17, 18, 19, 20, 21, 22, 23, 24, 25, 26, 27, 28, 29, 30, 31, 32, 33, 34, 13, 35, 53, 54, 55, 56, 57, 58, 59, 60, 61, 62, 63, 64, 65, 66, 67] (by decide +kernel) (by decide +kernel)
set_option maxRecDepth 20000 in
theorem gX2_commit_X2_addToFilter : GoodIn wsX2_commit (wsV RX2 90 RX2 yX2_addToFilter wsX2_addToFilter) := goodIn_app (goodIn_of _ (by decide +kernel)) ggX2_commit_X2_addToFilter
set_option maxRecDepth 20000 in
theorem ggX2_commit_X2_clearWordsFrom : GoodIn wsX2_commit wsX2_clearWordsFrom := goodIn_r _ [39, 3, 40, 41, 42, 43, 44, 45, 46, 47, 53, 54, 55, 56, 57, 58, 59, 60, 61, 62, 63, 64, 65, 66] (by decide +kernel) (by decide +kernel)
set_option maxRecDepth 20000 in
theorem gX2_commit_X2_clearWordsFrom : GoodIn wsX2_commit (wsV RX2 73 RX2 yX2_clearWordsFrom wsX2_clearWordsFrom) := goodIn_app (goodIn_of _ (by decide +kernel)) ggX2_commit_X2_clearWordsFrom
set_option maxRecDepth 20000 in
theorem ggX2_commit_X2_forgetNonces : GoodIn wsX2_commit wsX2_forgetNonces := goodIn_r _ [51, 52, 2, 53, 54, 55, 56, 57, 58, 59, 60, 61, 62, 63, 64, 65, 66] (by decide +kernel) (by decide +kernel)
set_option maxRecDepth 20000 in
theorem gX2_commit_X2_forgetNonces : GoodIn wsX2_commit (wsV RX2 70 RX2 yX2_forgetNonces wsX2_forgetNonces) := goodIn_app (goodIn_of _ (by decide +kernel)) ggX2_commit_X2_forgetNonces
theorem dX2_commit_0 : decode cX2_commit 0 = .ok (.aload_n 0, 1) := by decide +kernel
theorem dX2_commit_1 : decode cX2_commit 1 = .ok (.getfield 36, 3) := by decide +kernel
theorem dX2_commit_4 : decode cX2_commit 4 = .ok (.bipush 60, 2) := by decide +kernel
theorem dX2_commit_6 : decode cX2_commit 6 = .ok (.if_icmp .lt 6, 3) := by decide +kernel
theorem dX2_commit_9 : decode cX2_commit 9 = .ok (.bipush (-4), 2) := by decide +kernel
theorem dX2_commit_11 : decode cX2_commit 11 = .ok (.ireturn, 1) := by decide +kernel
theorem dX2_commit_12 : decode cX2_commit 12 = .ok (.aload_n 0, 1) := by decide +kernel
theorem dX2_commit_13 : decode cX2_commit 13 = .ok (.getfield 58, 3) := by decide +kernel
theorem dX2_commit_16 : decode cX2_commit 16 = .ok (.iconst (-1), 1) := by decide +kernel
theorem dX2_commit_17 : decode cX2_commit 17 = .ok (.if_icmp .ne 6, 3) := by decide +kernel
theorem dX2_commit_20 : decode cX2_commit 20 = .ok (.bipush (-3), 2) := by decide +kernel
theorem dX2_commit_22 : decode cX2_commit 22 = .ok (.ireturn, 1) := by decide +kernel
theorem dX2_commit_23 : decode cX2_commit 23 = .ok (.aload_n 0, 1) := by decide +kernel
theorem dX2_commit_24 : decode cX2_commit 24 = .ok (.getfield 36, 3) := by decide +kernel
theorem dX2_commit_27 : decode cX2_commit 27 = .ok (.istore_n 1, 1) := by decide +kernel
theorem dX2_commit_28 : decode cX2_commit 28 = .ok (.aload_n 0, 1) := by decide +kernel
theorem dX2_commit_29 : decode cX2_commit 29 = .ok (.getfield 30, 3) := by decide +kernel
theorem dX2_commit_32 : decode cX2_commit 32 = .ok (.iconst 0, 1) := by decide +kernel
theorem dX2_commit_33 : decode cX2_commit 33 = .ok (.aload_n 0, 1) := by decide +kernel
theorem dX2_commit_34 : decode cX2_commit 34 = .ok (.getfield 23, 3) := by decide +kernel
theorem dX2_commit_37 : decode cX2_commit 37 = .ok (.iload_n 1, 1) := by decide +kernel
theorem dX2_commit_38 : decode cX2_commit 38 = .ok (.bipush 34, 2) := by decide +kernel
theorem dX2_commit_40 : decode cX2_commit 40 = .ok (.imul, 1) := by decide +kernel
theorem dX2_commit_41 : decode cX2_commit 41 = .ok (.bipush 34, 2) := by decide +kernel
theorem dX2_commit_43 : decode cX2_commit 43 = .ok (.invokestatic 84, 3) := by decide +kernel
theorem dX2_commit_46 : decode cX2_commit 46 = .ok (.aload_n 0, 1) := by decide +kernel
theorem dX2_commit_47 : decode cX2_commit 47 = .ok (.getfield 30, 3) := by decide +kernel
theorem dX2_commit_50 : decode cX2_commit 50 = .ok (.bipush 26, 2) := by decide +kernel
theorem dX2_commit_52 : decode cX2_commit 52 = .ok (.aload_n 0, 1) := by decide +kernel
theorem dX2_commit_53 : decode cX2_commit 53 = .ok (.getfield 27, 3) := by decide +kernel
theorem dX2_commit_56 : decode cX2_commit 56 = .ok (.iconst 0, 1) := by decide +kernel
theorem dX2_commit_57 : decode cX2_commit 57 = .ok (.bipush 8, 2) := by decide +kernel
theorem dX2_commit_59 : decode cX2_commit 59 = .ok (.invokestatic 84, 3) := by decide +kernel
theorem dX2_commit_62 : decode cX2_commit 62 = .ok (.aload_n 0, 1) := by decide +kernel
theorem dX2_commit_63 : decode cX2_commit 63 = .ok (.dup, 1) := by decide +kernel
theorem dX2_commit_64 : decode cX2_commit 64 = .ok (.getfield 36, 3) := by decide +kernel
theorem dX2_commit_67 : decode cX2_commit 67 = .ok (.iconst 1, 1) := by decide +kernel
theorem dX2_commit_68 : decode cX2_commit 68 = .ok (.iadd, 1) := by decide +kernel
theorem dX2_commit_69 : decode cX2_commit 69 = .ok (.putfield 36, 3) := by decide +kernel
theorem dX2_commit_72 : decode cX2_commit 72 = .ok (.aload_n 0, 1) := by decide +kernel
theorem dX2_commit_73 : decode cX2_commit 73 = .ok (.iload_n 1, 1) := by decide +kernel
theorem dX2_commit_74 : decode cX2_commit 74 = .ok (.invokevirtual 90, 3) := by decide +kernel
theorem dX2_commit_77 : decode cX2_commit 77 = .ok (.aload_n 0, 1) := by decide +kernel
theorem dX2_commit_78 : decode cX2_commit 78 = .ok (.iconst 0, 1) := by decide +kernel
theorem dX2_commit_79 : decode cX2_commit 79 = .ok (.invokevirtual 73, 3) := by decide +kernel
theorem dX2_commit_82 : decode cX2_commit 82 = .ok (.aload_n 0, 1) := by decide +kernel
theorem dX2_commit_83 : decode cX2_commit 83 = .ok (.invokevirtual 70, 3) := by decide +kernel
theorem dX2_commit_86 : decode cX2_commit 86 = .ok (.iload_n 1, 1) := by decide +kernel
theorem dX2_commit_87 : decode cX2_commit 87 = .ok (.ireturn, 1) := by decide +kernel
set_option maxRecDepth 20000 in
theorem ggX2_clearWordsFrom_J7_fill_fda19 : GoodIn wsX2_clearWordsFrom wsJ7_fill_fda19 := goodIn_r _ [6, 7, 8, 5, 9] (by decide +kernel) (by decide +kernel)
set_option maxRecDepth 20000 in
theorem gX2_clearWordsFrom_J7_fill_fda19 : GoodIn wsX2_clearWordsFrom (va_wsS RX2 93 yJ7_fill_fda19 wsJ7_fill_fda19) := goodIn_app (goodIn_of _ (by decide +kernel)) ggX2_clearWordsFrom_J7_fill_fda19
theorem dX2_clearWordsFrom_0 : decode cX2_clearWordsFrom 0 = .ok (.aload_n 0, 1) := by decide +kernel
theorem dX2_clearWordsFrom_1 : decode cX2_clearWordsFrom 1 = .ok (.getfield 30, 3) := by decide +kernel
theorem dX2_clearWordsFrom_4 : decode cX2_clearWordsFrom 4 = .ok (.bipush 16, 2) := by decide +kernel
theorem dX2_clearWordsFrom_6 : decode cX2_clearWordsFrom 6 = .ok (.iload_n 1, 1) := by decide +kernel
theorem dX2_clearWordsFrom_7 : decode cX2_clearWordsFrom 7 = .ok (.iadd, 1) := by decide +kernel
theorem dX2_clearWordsFrom_8 : decode cX2_clearWordsFrom 8 = .ok (.bipush 24, 2) := by decide +kernel
theorem dX2_clearWordsFrom_10 : decode cX2_clearWordsFrom 10 = .ok (.iconst 0, 1) := by decide +kernel
theorem dX2_clearWordsFrom_11 : decode cX2_clearWordsFrom 11 = .ok (.invokestatic 93, 3) := by decide +kernel
theorem dX2_clearWordsFrom_14 : decode cX2_clearWordsFrom 14 = .ok (.aload_n 0, 1) := by decide +kernel
theorem dX2_clearWordsFrom_15 : decode cX2_clearWordsFrom 15 = .ok (.iload_n 1, 1) := by decide +kernel
theorem dX2_clearWordsFrom_16 : decode cX2_clearWordsFrom 16 = .ok (.putfield 40, 3) := by decide +kernel
theorem dX2_clearWordsFrom_19 : decode cX2_clearWordsFrom 19 = .ok (.return_, 1) := by decide +kernel
theorem dX2_forgetNonces_0 : decode cX2_forgetNonces 0 = .ok (.aload_n 0, 1) := by decide +kernel
theorem dX2_forgetNonces_1 : decode cX2_forgetNonces 1 = .ok (.iconst 0, 1) := by decide +kernel
theorem dX2_forgetNonces_2 : decode cX2_forgetNonces 2 = .ok (.putfield 55, 3) := by decide +kernel
theorem dX2_forgetNonces_5 : decode cX2_forgetNonces 5 = .ok (.aload_n 0, 1) := by decide +kernel
theorem dX2_forgetNonces_6 : decode cX2_forgetNonces 6 = .ok (.iconst (-1), 1) := by decide +kernel
theorem dX2_forgetNonces_7 : decode cX2_forgetNonces 7 = .ok (.putfield 58, 3) := by decide +kernel
theorem dX2_forgetNonces_10 : decode cX2_forgetNonces 10 = .ok (.return_, 1) := by decide +kernel
set_option maxRecDepth 20000 in
theorem ggX2_fillDraft_X2_copyHashOf : GoodIn wsX2_fillDraft wsX2_copyHashOf := goodIn_r _ [9, 10, 2, 11, 12, 13, 14, 15, 16, 17, 8, 18, 1, 19, 20, 21, 22, 23, 24, 25, 29, 30, 31, 32, 33, 34, 35, 36, 37, 38, 39, 40, 41, 42] (by decide +kernel) (by decide +kernel)
set_option maxRecDepth 20000 in
theorem gX2_fillDraft_X2_copyHashOf : GoodIn wsX2_fillDraft (wsV RX2 99 RX2 yX2_copyHashOf wsX2_copyHashOf) := goodIn_app (goodIn_of _ (by decide +kernel)) ggX2_fillDraft_X2_copyHashOf
set_option maxRecDepth 20000 in
theorem ggX2_fillDraft_X2_skipOf : GoodIn wsX2_fillDraft wsX2_skipOf := goodIn_r _ [28] (by decide +kernel) (by decide +kernel)
set_option maxRecDepth 20000 in
theorem gX2_fillDraft_X2_skipOf : GoodIn wsX2_fillDraft (va_wsS RX2 103 yX2_skipOf wsX2_skipOf) := goodIn_app (goodIn_of _ (by decide +kernel)) ggX2_fillDraft_X2_skipOf
theorem dX2_fillDraft_0 : decode cX2_fillDraft 0 = .ok (.aload_n 0, 1) := by decide +kernel
theorem dX2_fillDraft_1 : decode cX2_fillDraft 1 = .ok (.aload_n 0, 1) := by decide +kernel
theorem dX2_fillDraft_2 : decode cX2_fillDraft 2 = .ok (.getfield 36, 3) := by decide +kernel
theorem dX2_fillDraft_5 : decode cX2_fillDraft 5 = .ok (.iconst 1, 1) := by decide +kernel
theorem dX2_fillDraft_6 : decode cX2_fillDraft 6 = .ok (.isub, 1) := by decide +kernel
theorem dX2_fillDraft_7 : decode cX2_fillDraft 7 = .ok (.iconst 0, 1) := by decide +kernel
theorem dX2_fillDraft_8 : decode cX2_fillDraft 8 = .ok (.invokevirtual 99, 3) := by decide +kernel
theorem dX2_fillDraft_11 : decode cX2_fillDraft 11 = .ok (.aload_n 0, 1) := by decide +kernel
theorem dX2_fillDraft_12 : decode cX2_fillDraft 12 = .ok (.aload_n 0, 1) := by decide +kernel
theorem dX2_fillDraft_13 : decode cX2_fillDraft 13 = .ok (.getfield 36, 3) := by decide +kernel
theorem dX2_fillDraft_16 : decode cX2_fillDraft 16 = .ok (.invokestatic 103, 3) := by decide +kernel
theorem dX2_fillDraft_19 : decode cX2_fillDraft 19 = .ok (.bipush 8, 2) := by decide +kernel
theorem dX2_fillDraft_21 : decode cX2_fillDraft 21 = .ok (.invokevirtual 99, 3) := by decide +kernel
theorem dX2_fillDraft_24 : decode cX2_fillDraft 24 = .ok (.aload_n 0, 1) := by decide +kernel
theorem dX2_fillDraft_25 : decode cX2_fillDraft 25 = .ok (.getfield 30, 3) := by decide +kernel
theorem dX2_fillDraft_28 : decode cX2_fillDraft 28 = .ok (.bipush 24, 2) := by decide +kernel
theorem dX2_fillDraft_30 : decode cX2_fillDraft 30 = .ok (.bipush 16, 2) := by decide +kernel
theorem dX2_fillDraft_32 : decode cX2_fillDraft 32 = .ok (.aload_n 0, 1) := by decide +kernel
theorem dX2_fillDraft_33 : decode cX2_fillDraft 33 = .ok (.getfield 52, 3) := by decide +kernel
theorem dX2_fillDraft_36 : decode cX2_fillDraft 36 = .ok (.imul, 1) := by decide +kernel
theorem dX2_fillDraft_37 : decode cX2_fillDraft 37 = .ok (.aload_n 0, 1) := by decide +kernel
theorem dX2_fillDraft_38 : decode cX2_fillDraft 38 = .ok (.getfield 40, 3) := by decide +kernel
theorem dX2_fillDraft_41 : decode cX2_fillDraft 41 = .ok (.iadd, 1) := by decide +kernel
theorem dX2_fillDraft_42 : decode cX2_fillDraft 42 = .ok (.iastore, 1) := by decide +kernel
theorem dX2_fillDraft_43 : decode cX2_fillDraft 43 = .ok (.return_, 1) := by decide +kernel
set_option maxRecDepth 20000 in
theorem ggX2_copyHashOf_X2_hasEntry : GoodIn wsX2_copyHashOf wsX2_hasEntry := goodIn_r _ [11, 12, 20, 21, 22, 23, 24, 25, 26, 27, 28, 29, 30, 31, 32, 33] (by decide +kernel) (by decide +kernel)
set_option maxRecDepth 20000 in
theorem gX2_copyHashOf_X2_hasEntry : GoodIn wsX2_copyHashOf (wsV RX2 107 RX2 yX2_hasEntry wsX2_hasEntry) := goodIn_app (goodIn_of _ (by decide +kernel)) ggX2_copyHashOf_X2_hasEntry
set_option maxRecDepth 20000 in
theorem ggX2_copyHashOf_J7_fill_fda19 : GoodIn wsX2_copyHashOf wsJ7_fill_fda19 := goodIn_r _ [16, 17, 18, 15, 19] (by decide +kernel) (by decide +kernel)
set_option maxRecDepth 20000 in
theorem gX2_copyHashOf_J7_fill_fda19 : GoodIn wsX2_copyHashOf (va_wsS RX2 93 yJ7_fill_fda19 wsJ7_fill_fda19) := goodIn_app (goodIn_of _ (by decide +kernel)) ggX2_copyHashOf_J7_fill_fda19
theorem dX2_copyHashOf_0 : decode cX2_copyHashOf 0 = .ok (.aload_n 0, 1) := by decide +kernel
theorem dX2_copyHashOf_1 : decode cX2_copyHashOf 1 = .ok (.iload_n 1, 1) := by decide +kernel
theorem dX2_copyHashOf_2 : decode cX2_copyHashOf 2 = .ok (.invokevirtual 107, 3) := by decide +kernel
theorem dX2_copyHashOf_5 : decode cX2_copyHashOf 5 = .ok (.ifCond .eq 27, 3) := by decide +kernel
theorem dX2_copyHashOf_8 : decode cX2_copyHashOf 8 = .ok (.aload_n 0, 1) := by decide +kernel
theorem dX2_copyHashOf_9 : decode cX2_copyHashOf 9 = .ok (.getfield 23, 3) := by decide +kernel
theorem dX2_copyHashOf_12 : decode cX2_copyHashOf 12 = .ok (.iload_n 1, 1) := by decide +kernel
theorem dX2_copyHashOf_13 : decode cX2_copyHashOf 13 = .ok (.bipush 34, 2) := by decide +kernel
theorem dX2_copyHashOf_15 : decode cX2_copyHashOf 15 = .ok (.imul, 1) := by decide +kernel
theorem dX2_copyHashOf_16 : decode cX2_copyHashOf 16 = .ok (.bipush 26, 2) := by decide +kernel
theorem dX2_copyHashOf_18 : decode cX2_copyHashOf 18 = .ok (.iadd, 1) := by decide +kernel
theorem dX2_copyHashOf_19 : decode cX2_copyHashOf 19 = .ok (.aload_n 0, 1) := by decide +kernel
theorem dX2_copyHashOf_20 : decode cX2_copyHashOf 20 = .ok (.getfield 30, 3) := by decide +kernel
theorem dX2_copyHashOf_23 : decode cX2_copyHashOf 23 = .ok (.iload_n 2, 1) := by decide +kernel
theorem dX2_copyHashOf_24 : decode cX2_copyHashOf 24 = .ok (.bipush 8, 2) := by decide +kernel
theorem dX2_copyHashOf_26 : decode cX2_copyHashOf 26 = .ok (.invokestatic 84, 3) := by decide +kernel
theorem dX2_copyHashOf_29 : decode cX2_copyHashOf 29 = .ok (.goto 16, 3) := by decide +kernel
theorem dX2_copyHashOf_32 : decode cX2_copyHashOf 32 = .ok (.aload_n 0, 1) := by decide +kernel
theorem dX2_copyHashOf_33 : decode cX2_copyHashOf 33 = .ok (.getfield 30, 3) := by decide +kernel
theorem dX2_copyHashOf_36 : decode cX2_copyHashOf 36 = .ok (.iload_n 2, 1) := by decide +kernel
theorem dX2_copyHashOf_37 : decode cX2_copyHashOf 37 = .ok (.iload_n 2, 1) := by decide +kernel
theorem dX2_copyHashOf_38 : decode cX2_copyHashOf 38 = .ok (.bipush 8, 2) := by decide +kernel
theorem dX2_copyHashOf_40 : decode cX2_copyHashOf 40 = .ok (.iadd, 1) := by decide +kernel
theorem dX2_copyHashOf_41 : decode cX2_copyHashOf 41 = .ok (.iconst 0, 1) := by decide +kernel
theorem dX2_copyHashOf_42 : decode cX2_copyHashOf 42 = .ok (.invokestatic 93, 3) := by decide +kernel
theorem dX2_copyHashOf_45 : decode cX2_copyHashOf 45 = .ok (.return_, 1) := by decide +kernel
set_option maxRecDepth 20000 in
theorem ggX2_tryNonces_X1_takeFirst : GoodIn wsX2_tryNonces wsX1_takeFirst := goodIn_r _ [10, 11, 12, 13, 14, 15, 16, 17, 18, 19, 20, 9, 21, 22, 23, 24, 25, 26, 27, 28, 29, 70, 71, 72] (by decide +kernel) (by decide +kernel)
set_option maxRecDepth 20000 in
theorem gX2_tryNonces_X1_takeFirst : GoodIn wsX2_tryNonces (wsV RX2 111 RX1 yX1_takeFirst wsX1_takeFirst) := goodIn_app (goodIn_of _ (by decide +kernel)) ggX2_tryNonces_X1_takeFirst
set_option maxRecDepth 20000 in
theorem ggX2_tryNonces_X1_takeRest : GoodIn wsX2_tryNonces wsX1_takeRest := goodIn_r _ [33, 12, 34, 13, 14, 15, 16, 17, 35, 36, 37, 38, 39, 40, 41, 42, 18, 19, 20, 9, 21, 22, 23, 24, 25, 26, 27, 28, 29, 70, 71, 72] (by decide +kernel) (by decide +kernel)
set_option maxRecDepth 20000 in
theorem gX2_tryNonces_X1_takeRest : GoodIn wsX2_tryNonces (wsV RX2 115 RX1 yX1_takeRest wsX1_takeRest) := goodIn_app (goodIn_of _ (by decide +kernel)) ggX2_tryNonces_X1_takeRest
set_option maxRecDepth 20000 in
theorem ggX2_tryNonces_X1_zeros : GoodIn wsX2_tryNonces wsX1_zeros := goodIn_r _ [46, 34, 47, 48, 49, 50, 51, 70, 71, 72] (by decide +kernel) (by decide +kernel)
set_option maxRecDepth 20000 in
theorem gX2_tryNonces_X1_zeros : GoodIn wsX2_tryNonces (wsV RX2 118 RX1 yX1_zeros wsX1_zeros) := goodIn_app (goodIn_of _ (by decide +kernel)) ggX2_tryNonces_X1_zeros
set_option maxRecDepth 20000 in
theorem ggX2_tryNonces_X1_copyTo : GoodIn wsX2_tryNonces wsX1_copyTo := goodIn_r _ [55, 34, 13, 14, 15, 16, 70, 71, 72] (by decide +kernel) (by decide +kernel)
set_option maxRecDepth 20000 in
theorem gX2_tryNonces_X1_copyTo : GoodIn wsX2_tryNonces (wsV RX2 122 RX1 yX1_copyTo wsX1_copyTo) := goodIn_app (goodIn_of _ (by decide +kernel)) ggX2_tryNonces_X1_copyTo
theorem dX2_tryNonces_0 : decode cX2_tryNonces 0 = .ok (.aload_n 0, 1) := by decide +kernel
theorem dX2_tryNonces_1 : decode cX2_tryNonces 1 = .ok (.getfield 10, 3) := by decide +kernel
theorem dX2_tryNonces_4 : decode cX2_tryNonces 4 = .ok (.aload_n 0, 1) := by decide +kernel
theorem dX2_tryNonces_5 : decode cX2_tryNonces 5 = .ok (.getfield 30, 3) := by decide +kernel
theorem dX2_tryNonces_8 : decode cX2_tryNonces 8 = .ok (.iconst 0, 1) := by decide +kernel
theorem dX2_tryNonces_9 : decode cX2_tryNonces 9 = .ok (.invokevirtual 111, 3) := by decide +kernel
theorem dX2_tryNonces_12 : decode cX2_tryNonces 12 = .ok (.iconst 0, 1) := by decide +kernel
theorem dX2_tryNonces_13 : decode cX2_tryNonces 13 = .ok (.istore_n 2, 1) := by decide +kernel
theorem dX2_tryNonces_14 : decode cX2_tryNonces 14 = .ok (.iload_n 2, 1) := by decide +kernel
theorem dX2_tryNonces_15 : decode cX2_tryNonces 15 = .ok (.iload_n 1, 1) := by decide +kernel
theorem dX2_tryNonces_16 : decode cX2_tryNonces 16 = .ok (.if_icmp .ge 88, 3) := by decide +kernel
theorem dX2_tryNonces_19 : decode cX2_tryNonces 19 = .ok (.aload_n 0, 1) := by decide +kernel
theorem dX2_tryNonces_20 : decode cX2_tryNonces 20 = .ok (.getfield 58, 3) := by decide +kernel
theorem dX2_tryNonces_23 : decode cX2_tryNonces 23 = .ok (.iconst (-1), 1) := by decide +kernel
theorem dX2_tryNonces_24 : decode cX2_tryNonces 24 = .ok (.if_icmp .ne 80, 3) := by decide +kernel
theorem dX2_tryNonces_27 : decode cX2_tryNonces 27 = .ok (.aload_n 0, 1) := by decide +kernel
theorem dX2_tryNonces_28 : decode cX2_tryNonces 28 = .ok (.getfield 30, 3) := by decide +kernel
theorem dX2_tryNonces_31 : decode cX2_tryNonces 31 = .ok (.bipush 25, 2) := by decide +kernel
theorem dX2_tryNonces_33 : decode cX2_tryNonces 33 = .ok (.aload_n 0, 1) := by decide +kernel
theorem dX2_tryNonces_34 : decode cX2_tryNonces 34 = .ok (.getfield 55, 3) := by decide +kernel
theorem dX2_tryNonces_37 : decode cX2_tryNonces 37 = .ok (.iastore, 1) := by decide +kernel
theorem dX2_tryNonces_38 : decode cX2_tryNonces 38 = .ok (.aload_n 0, 1) := by decide +kernel
theorem dX2_tryNonces_39 : decode cX2_tryNonces 39 = .ok (.dup, 1) := by decide +kernel
theorem dX2_tryNonces_40 : decode cX2_tryNonces 40 = .ok (.getfield 55, 3) := by decide +kernel
theorem dX2_tryNonces_43 : decode cX2_tryNonces 43 = .ok (.iconst 1, 1) := by decide +kernel
theorem dX2_tryNonces_44 : decode cX2_tryNonces 44 = .ok (.iadd, 1) := by decide +kernel
theorem dX2_tryNonces_45 : decode cX2_tryNonces 45 = .ok (.putfield 55, 3) := by decide +kernel
theorem dX2_tryNonces_48 : decode cX2_tryNonces 48 = .ok (.aload_n 0, 1) := by decide +kernel
theorem dX2_tryNonces_49 : decode cX2_tryNonces 49 = .ok (.getfield 10, 3) := by decide +kernel
theorem dX2_tryNonces_52 : decode cX2_tryNonces 52 = .ok (.aload_n 0, 1) := by decide +kernel
theorem dX2_tryNonces_53 : decode cX2_tryNonces 53 = .ok (.getfield 30, 3) := by decide +kernel
theorem dX2_tryNonces_56 : decode cX2_tryNonces 56 = .ok (.iconst 0, 1) := by decide +kernel
theorem dX2_tryNonces_57 : decode cX2_tryNonces 57 = .ok (.invokevirtual 115, 3) := by decide +kernel
theorem dX2_tryNonces_60 : decode cX2_tryNonces 60 = .ok (.aload_n 0, 1) := by decide +kernel
theorem dX2_tryNonces_61 : decode cX2_tryNonces 61 = .ok (.getfield 10, 3) := by decide +kernel
theorem dX2_tryNonces_64 : decode cX2_tryNonces 64 = .ok (.invokevirtual 118, 3) := by decide +kernel
theorem dX2_tryNonces_67 : decode cX2_tryNonces 67 = .ok (.aload_n 0, 1) := by decide +kernel
theorem dX2_tryNonces_68 : decode cX2_tryNonces 68 = .ok (.getfield 52, 3) := by decide +kernel
theorem dX2_tryNonces_71 : decode cX2_tryNonces 71 = .ok (.if_icmp .lt 27, 3) := by decide +kernel
theorem dX2_tryNonces_74 : decode cX2_tryNonces 74 = .ok (.aload_n 0, 1) := by decide +kernel
theorem dX2_tryNonces_75 : decode cX2_tryNonces 75 = .ok (.aload_n 0, 1) := by decide +kernel
theorem dX2_tryNonces_76 : decode cX2_tryNonces 76 = .ok (.getfield 30, 3) := by decide +kernel
theorem dX2_tryNonces_79 : decode cX2_tryNonces 79 = .ok (.bipush 25, 2) := by decide +kernel
theorem dX2_tryNonces_81 : decode cX2_tryNonces 81 = .ok (.iaload, 1) := by decide +kernel
theorem dX2_tryNonces_82 : decode cX2_tryNonces 82 = .ok (.putfield 58, 3) := by decide +kernel
theorem dX2_tryNonces_85 : decode cX2_tryNonces 85 = .ok (.aload_n 0, 1) := by decide +kernel
theorem dX2_tryNonces_86 : decode cX2_tryNonces 86 = .ok (.getfield 10, 3) := by decide +kernel
theorem dX2_tryNonces_89 : decode cX2_tryNonces 89 = .ok (.aload_n 0, 1) := by decide +kernel
theorem dX2_tryNonces_90 : decode cX2_tryNonces 90 = .ok (.getfield 30, 3) := by decide +kernel
theorem dX2_tryNonces_93 : decode cX2_tryNonces 93 = .ok (.bipush 26, 2) := by decide +kernel
theorem dX2_tryNonces_95 : decode cX2_tryNonces 95 = .ok (.invokevirtual 122, 3) := by decide +kernel
theorem dX2_tryNonces_98 : decode cX2_tryNonces 98 = .ok (.iinc 2 1, 3) := by decide +kernel
theorem dX2_tryNonces_101 : decode cX2_tryNonces 101 = .ok (.goto (-87), 3) := by decide +kernel
theorem dX2_tryNonces_104 : decode cX2_tryNonces 104 = .ok (.return_, 1) := by decide +kernel
theorem dX2_count_0 : decode cX2_count 0 = .ok (.aload_n 0, 1) := by decide +kernel
theorem dX2_count_1 : decode cX2_count 1 = .ok (.getfield 36, 3) := by decide +kernel
theorem dX2_count_4 : decode cX2_count 4 = .ok (.ireturn, 1) := by decide +kernel
theorem dX2_head_0 : decode cX2_head 0 = .ok (.iload_n 1, 1) := by decide +kernel
theorem dX2_head_1 : decode cX2_head 1 = .ok (.ifCond .lt 9, 3) := by decide +kernel
theorem dX2_head_4 : decode cX2_head 4 = .ok (.iload_n 1, 1) := by decide +kernel
theorem dX2_head_5 : decode cX2_head 5 = .ok (.bipush 8, 2) := by decide +kernel
theorem dX2_head_7 : decode cX2_head 7 = .ok (.if_icmp .lt 5, 3) := by decide +kernel
theorem dX2_head_10 : decode cX2_head 10 = .ok (.iconst 0, 1) := by decide +kernel
theorem dX2_head_11 : decode cX2_head 11 = .ok (.ireturn, 1) := by decide +kernel
theorem dX2_head_12 : decode cX2_head 12 = .ok (.aload_n 0, 1) := by decide +kernel
theorem dX2_head_13 : decode cX2_head 13 = .ok (.getfield 27, 3) := by decide +kernel
theorem dX2_head_16 : decode cX2_head 16 = .ok (.iload_n 1, 1) := by decide +kernel
theorem dX2_head_17 : decode cX2_head 17 = .ok (.iaload, 1) := by decide +kernel
theorem dX2_head_18 : decode cX2_head 18 = .ok (.ireturn, 1) := by decide +kernel
set_option maxRecDepth 20000 in
theorem ggX2_cell_X2_hasCell : GoodIn wsX2_cell wsX2_hasCell := goodIn_r _ [6, 7, 8, 9, 5, 10, 11, 12, 13, 14, 15, 16, 17, 18, 19, 20, 21, 22, 23, 24, 25] (by decide +kernel) (by decide +kernel)
set_option maxRecDepth 20000 in
theorem gX2_cell_X2_hasCell : GoodIn wsX2_cell (wsV RX2 125 RX2 yX2_hasCell wsX2_hasCell) := goodIn_app (goodIn_of _ (by decide +kernel)) ggX2_cell_X2_hasCell
theorem dX2_cell_0 : decode cX2_cell 0 = .ok (.aload_n 0, 1) := by decide +kernel
theorem dX2_cell_1 : decode cX2_cell 1 = .ok (.iload_n 1, 1) := by decide +kernel
theorem dX2_cell_2 : decode cX2_cell 2 = .ok (.iload_n 2, 1) := by decide +kernel
theorem dX2_cell_3 : decode cX2_cell 3 = .ok (.invokevirtual 125, 3) := by decide +kernel
theorem dX2_cell_6 : decode cX2_cell 6 = .ok (.ifCond .ne 5, 3) := by decide +kernel
theorem dX2_cell_9 : decode cX2_cell 9 = .ok (.iconst 0, 1) := by decide +kernel
theorem dX2_cell_10 : decode cX2_cell 10 = .ok (.ireturn, 1) := by decide +kernel
theorem dX2_cell_11 : decode cX2_cell 11 = .ok (.aload_n 0, 1) := by decide +kernel
theorem dX2_cell_12 : decode cX2_cell 12 = .ok (.getfield 23, 3) := by decide +kernel
theorem dX2_cell_15 : decode cX2_cell 15 = .ok (.iload_n 1, 1) := by decide +kernel
theorem dX2_cell_16 : decode cX2_cell 16 = .ok (.bipush 34, 2) := by decide +kernel
theorem dX2_cell_18 : decode cX2_cell 18 = .ok (.imul, 1) := by decide +kernel
theorem dX2_cell_19 : decode cX2_cell 19 = .ok (.iload_n 2, 1) := by decide +kernel
theorem dX2_cell_20 : decode cX2_cell 20 = .ok (.iadd, 1) := by decide +kernel
theorem dX2_cell_21 : decode cX2_cell 21 = .ok (.iaload, 1) := by decide +kernel
theorem dX2_cell_22 : decode cX2_cell 22 = .ok (.ireturn, 1) := by decide +kernel
set_option maxRecDepth 20000 in
theorem ggX2_spoil_X2_hasCell : GoodIn wsX2_spoil wsX2_hasCell := goodIn_r _ [6, 7, 8, 9, 5, 10, 11, 18, 19, 20, 21, 22, 23, 24, 25, 26, 27, 28, 29, 30, 31] (by decide +kernel) (by decide +kernel)
set_option maxRecDepth 20000 in
theorem gX2_spoil_X2_hasCell : GoodIn wsX2_spoil (wsV RX2 125 RX2 yX2_hasCell wsX2_hasCell) := goodIn_app (goodIn_of _ (by decide +kernel)) ggX2_spoil_X2_hasCell
set_option maxRecDepth 20000 in
theorem ggX2_spoil_X2_forgetNonces : GoodIn wsX2_spoil wsX2_forgetNonces := goodIn_r _ [15, 16, 17, 18, 19, 20, 21, 22, 23, 24, 25, 26, 27, 28, 29, 30, 31] (by decide +kernel) (by decide +kernel)
set_option maxRecDepth 20000 in
theorem gX2_spoil_X2_forgetNonces : GoodIn wsX2_spoil (wsV RX2 70 RX2 yX2_forgetNonces wsX2_forgetNonces) := goodIn_app (goodIn_of _ (by decide +kernel)) ggX2_spoil_X2_forgetNonces
theorem dX2_spoil_0 : decode cX2_spoil 0 = .ok (.aload_n 0, 1) := by decide +kernel
theorem dX2_spoil_1 : decode cX2_spoil 1 = .ok (.iload_n 1, 1) := by decide +kernel
theorem dX2_spoil_2 : decode cX2_spoil 2 = .ok (.iload_n 2, 1) := by decide +kernel
theorem dX2_spoil_3 : decode cX2_spoil 3 = .ok (.invokevirtual 125, 3) := by decide +kernel
theorem dX2_spoil_6 : decode cX2_spoil 6 = .ok (.ifCond .ne 5, 3) := by decide +kernel
theorem dX2_spoil_9 : decode cX2_spoil 9 = .ok (.iconst 0, 1) := by decide +kernel
theorem dX2_spoil_10 : decode cX2_spoil 10 = .ok (.ireturn, 1) := by decide +kernel
theorem dX2_spoil_11 : decode cX2_spoil 11 = .ok (.aload_n 0, 1) := by decide +kernel
theorem dX2_spoil_12 : decode cX2_spoil 12 = .ok (.getfield 23, 3) := by decide +kernel
theorem dX2_spoil_15 : decode cX2_spoil 15 = .ok (.iload_n 1, 1) := by decide +kernel
theorem dX2_spoil_16 : decode cX2_spoil 16 = .ok (.bipush 34, 2) := by decide +kernel
theorem dX2_spoil_18 : decode cX2_spoil 18 = .ok (.imul, 1) := by decide +kernel
theorem dX2_spoil_19 : decode cX2_spoil 19 = .ok (.iload_n 2, 1) := by decide +kernel
theorem dX2_spoil_20 : decode cX2_spoil 20 = .ok (.iadd, 1) := by decide +kernel
theorem dX2_spoil_21 : decode cX2_spoil 21 = .ok (.iaload, 1) := by decide +kernel
theorem dX2_spoil_22 : decode cX2_spoil 22 = .ok (.istore 4, 2) := by decide +kernel
theorem dX2_spoil_24 : decode cX2_spoil 24 = .ok (.aload_n 0, 1) := by decide +kernel
theorem dX2_spoil_25 : decode cX2_spoil 25 = .ok (.getfield 23, 3) := by decide +kernel
theorem dX2_spoil_28 : decode cX2_spoil 28 = .ok (.iload_n 1, 1) := by decide +kernel
theorem dX2_spoil_29 : decode cX2_spoil 29 = .ok (.bipush 34, 2) := by decide +kernel
theorem dX2_spoil_31 : decode cX2_spoil 31 = .ok (.imul, 1) := by decide +kernel
theorem dX2_spoil_32 : decode cX2_spoil 32 = .ok (.iload_n 2, 1) := by decide +kernel
theorem dX2_spoil_33 : decode cX2_spoil 33 = .ok (.iadd, 1) := by decide +kernel
theorem dX2_spoil_34 : decode cX2_spoil 34 = .ok (.iload_n 3, 1) := by decide +kernel
theorem dX2_spoil_35 : decode cX2_spoil 35 = .ok (.iastore, 1) := by decide +kernel
theorem dX2_spoil_36 : decode cX2_spoil 36 = .ok (.aload_n 0, 1) := by decide +kernel
theorem dX2_spoil_37 : decode cX2_spoil 37 = .ok (.invokevirtual 70, 3) := by decide +kernel
theorem dX2_spoil_40 : decode cX2_spoil 40 = .ok (.iload 4, 2) := by decide +kernel
theorem dX2_spoil_42 : decode cX2_spoil 42 = .ok (.ireturn, 1) := by decide +kernel
set_option maxRecDepth 20000 in
theorem ggX2_drop_X2_remakeFilter : GoodIn wsX2_drop wsX2_remakeFilter := goodIn_r _ [17, 18, 1, 19, 20, 21, 22, 23, 24, 25, 26, 27, 28, 29, 30, 31, 16, 32, 2, 33, 34, 35, 36, 37, 38, 39, 40, 41, 42, 43, 44, 45, 46, 47, 48, 49, 50, 57, 58, 59, 60, 61, 62, 63, 64, 65, 66, 67, 68, 69, 70, 71] (by decide +kernel) (by decide +kernel)
set_option maxRecDepth 20000 in
theorem gX2_drop_X2_remakeFilter : GoodIn wsX2_drop (wsV RX2 129 RX2 yX2_remakeFilter wsX2_remakeFilter) := goodIn_app (goodIn_of _ (by decide +kernel)) ggX2_drop_X2_remakeFilter
set_option maxRecDepth 20000 in
theorem ggX2_drop_X2_forgetNonces : GoodIn wsX2_drop wsX2_forgetNonces := goodIn_r _ [54, 55, 56, 57, 58, 59, 60, 61, 62, 63, 64, 65, 66, 67, 68, 69, 70] (by decide +kernel) (by decide +kernel)
set_option maxRecDepth 20000 in
theorem gX2_drop_X2_forgetNonces : GoodIn wsX2_drop (wsV RX2 70 RX2 yX2_forgetNonces wsX2_forgetNonces) := goodIn_app (goodIn_of _ (by decide +kernel)) ggX2_drop_X2_forgetNonces
theorem dX2_drop_0 : decode cX2_drop 0 = .ok (.aload_n 0, 1) := by decide +kernel
theorem dX2_drop_1 : decode cX2_drop 1 = .ok (.getfield 36, 3) := by decide +kernel
theorem dX2_drop_4 : decode cX2_drop 4 = .ok (.ifCond .ne 5, 3) := by decide +kernel
theorem dX2_drop_7 : decode cX2_drop 7 = .ok (.iconst (-1), 1) := by decide +kernel
theorem dX2_drop_8 : decode cX2_drop 8 = .ok (.ireturn, 1) := by decide +kernel
theorem dX2_drop_9 : decode cX2_drop 9 = .ok (.aload_n 0, 1) := by decide +kernel
theorem dX2_drop_10 : decode cX2_drop 10 = .ok (.dup, 1) := by decide +kernel
theorem dX2_drop_11 : decode cX2_drop 11 = .ok (.getfield 36, 3) := by decide +kernel
theorem dX2_drop_14 : decode cX2_drop 14 = .ok (.iconst 1, 1) := by decide +kernel
theorem dX2_drop_15 : decode cX2_drop 15 = .ok (.isub, 1) := by decide +kernel
theorem dX2_drop_16 : decode cX2_drop 16 = .ok (.putfield 36, 3) := by decide +kernel
theorem dX2_drop_19 : decode cX2_drop 19 = .ok (.aload_n 0, 1) := by decide +kernel
theorem dX2_drop_20 : decode cX2_drop 20 = .ok (.getfield 23, 3) := by decide +kernel
theorem dX2_drop_23 : decode cX2_drop 23 = .ok (.aload_n 0, 1) := by decide +kernel
theorem dX2_drop_24 : decode cX2_drop 24 = .ok (.getfield 36, 3) := by decide +kernel
theorem dX2_drop_27 : decode cX2_drop 27 = .ok (.bipush 34, 2) := by decide +kernel
theorem dX2_drop_29 : decode cX2_drop 29 = .ok (.imul, 1) := by decide +kernel
theorem dX2_drop_30 : decode cX2_drop 30 = .ok (.iconst 0, 1) := by decide +kernel
theorem dX2_drop_31 : decode cX2_drop 31 = .ok (.iadd, 1) := by decide +kernel
theorem dX2_drop_32 : decode cX2_drop 32 = .ok (.aload_n 0, 1) := by decide +kernel
theorem dX2_drop_33 : decode cX2_drop 33 = .ok (.getfield 27, 3) := by decide +kernel
theorem dX2_drop_36 : decode cX2_drop 36 = .ok (.iconst 0, 1) := by decide +kernel
theorem dX2_drop_37 : decode cX2_drop 37 = .ok (.bipush 8, 2) := by decide +kernel
theorem dX2_drop_39 : decode cX2_drop 39 = .ok (.invokestatic 84, 3) := by decide +kernel
theorem dX2_drop_42 : decode cX2_drop 42 = .ok (.aload_n 0, 1) := by decide +kernel
theorem dX2_drop_43 : decode cX2_drop 43 = .ok (.invokevirtual 129, 3) := by decide +kernel
theorem dX2_drop_46 : decode cX2_drop 46 = .ok (.aload_n 0, 1) := by decide +kernel
theorem dX2_drop_47 : decode cX2_drop 47 = .ok (.aload_n 0, 1) := by decide +kernel
theorem dX2_drop_48 : decode cX2_drop 48 = .ok (.getfield 61, 3) := by decide +kernel
theorem dX2_drop_51 : decode cX2_drop 51 = .ok (.aload_n 0, 1) := by decide +kernel
theorem dX2_drop_52 : decode cX2_drop 52 = .ok (.getfield 36, 3) := by decide +kernel
theorem dX2_drop_55 : decode cX2_drop 55 = .ok (.invokestatic 43, 3) := by decide +kernel
theorem dX2_drop_58 : decode cX2_drop 58 = .ok (.putfield 61, 3) := by decide +kernel
theorem dX2_drop_61 : decode cX2_drop 61 = .ok (.aload_n 0, 1) := by decide +kernel
theorem dX2_drop_62 : decode cX2_drop 62 = .ok (.invokevirtual 70, 3) := by decide +kernel
theorem dX2_drop_65 : decode cX2_drop 65 = .ok (.aload_n 0, 1) := by decide +kernel
theorem dX2_drop_66 : decode cX2_drop 66 = .ok (.getfield 36, 3) := by decide +kernel
theorem dX2_drop_69 : decode cX2_drop 69 = .ok (.ireturn, 1) := by decide +kernel
theorem dX2_hasEntry_0 : decode cX2_hasEntry 0 = .ok (.iload_n 1, 1) := by decide +kernel
theorem dX2_hasEntry_1 : decode cX2_hasEntry 1 = .ok (.ifCond .lt 15, 3) := by decide +kernel
theorem dX2_hasEntry_4 : decode cX2_hasEntry 4 = .ok (.iload_n 1, 1) := by decide +kernel
theorem dX2_hasEntry_5 : decode cX2_hasEntry 5 = .ok (.aload_n 0, 1) := by decide +kernel
theorem dX2_hasEntry_6 : decode cX2_hasEntry 6 = .ok (.getfield 36, 3) := by decide +kernel
theorem dX2_hasEntry_9 : decode cX2_hasEntry 9 = .ok (.if_icmp .ge 7, 3) := by decide +kernel
theorem dX2_hasEntry_12 : decode cX2_hasEntry 12 = .ok (.iconst 1, 1) := by decide +kernel
theorem dX2_hasEntry_13 : decode cX2_hasEntry 13 = .ok (.goto 4, 3) := by decide +kernel
theorem dX2_hasEntry_16 : decode cX2_hasEntry 16 = .ok (.iconst 0, 1) := by decide +kernel
theorem dX2_hasEntry_17 : decode cX2_hasEntry 17 = .ok (.ireturn, 1) := by decide +kernel
set_option maxRecDepth 20000 in
theorem ggX2_hasCell_X2_hasEntry : GoodIn wsX2_hasCell wsX2_hasEntry := goodIn_r _ [5, 6, 7, 8, 9, 10, 11, 12, 13, 14, 15, 16, 17, 18, 19, 20] (by decide +kernel) (by decide +kernel)
set_option maxRecDepth 20000 in
theorem gX2_hasCell_X2_hasEntry : GoodIn wsX2_hasCell (wsV RX2 107 RX2 yX2_hasEntry wsX2_hasEntry) := goodIn_app (goodIn_of _ (by decide +kernel)) ggX2_hasCell_X2_hasEntry
theorem dX2_hasCell_0 : decode cX2_hasCell 0 = .ok (.aload_n 0, 1) := by decide +kernel
theorem dX2_hasCell_1 : decode cX2_hasCell 1 = .ok (.iload_n 1, 1) := by decide +kernel
theorem dX2_hasCell_2 : decode cX2_hasCell 2 = .ok (.invokevirtual 107, 3) := by decide +kernel
theorem dX2_hasCell_5 : decode cX2_hasCell 5 = .ok (.ifCond .eq 17, 3) := by decide +kernel
theorem dX2_hasCell_8 : decode cX2_hasCell 8 = .ok (.iload_n 2, 1) := by decide +kernel
theorem dX2_hasCell_9 : decode cX2_hasCell 9 = .ok (.ifCond .lt 13, 3) := by decide +kernel
theorem dX2_hasCell_12 : decode cX2_hasCell 12 = .ok (.iload_n 2, 1) := by decide +kernel
theorem dX2_hasCell_13 : decode cX2_hasCell 13 = .ok (.bipush 34, 2) := by decide +kernel
theorem dX2_hasCell_15 : decode cX2_hasCell 15 = .ok (.if_icmp .ge 7, 3) := by decide +kernel
theorem dX2_hasCell_18 : decode cX2_hasCell 18 = .ok (.iconst 1, 1) := by decide +kernel
theorem dX2_hasCell_19 : decode cX2_hasCell 19 = .ok (.goto 4, 3) := by decide +kernel
theorem dX2_hasCell_22 : decode cX2_hasCell 22 = .ok (.iconst 0, 1) := by decide +kernel
theorem dX2_hasCell_23 : decode cX2_hasCell 23 = .ok (.ireturn, 1) := by decide +kernel
theorem dX2_skipOf_0 : decode cX2_skipOf 0 = .ok (.iload_n 0, 1) := by decide +kernel
theorem dX2_skipOf_1 : decode cX2_skipOf 1 = .ok (.ifCond .ne 7, 3) := by decide +kernel
theorem dX2_skipOf_4 : decode cX2_skipOf 4 = .ok (.iconst (-1), 1) := by decide +kernel
theorem dX2_skipOf_5 : decode cX2_skipOf 5 = .ok (.goto 9, 3) := by decide +kernel
theorem dX2_skipOf_8 : decode cX2_skipOf 8 = .ok (.iload_n 0, 1) := by decide +kernel
theorem dX2_skipOf_9 : decode cX2_skipOf 9 = .ok (.iload_n 0, 1) := by decide +kernel
theorem dX2_skipOf_10 : decode cX2_skipOf 10 = .ok (.iload_n 0, 1) := by decide +kernel
theorem dX2_skipOf_11 : decode cX2_skipOf 11 = .ok (.ineg, 1) := by decide +kernel
theorem dX2_skipOf_12 : decode cX2_skipOf 12 = .ok (.iand, 1) := by decide +kernel
theorem dX2_skipOf_13 : decode cX2_skipOf 13 = .ok (.isub, 1) := by decide +kernel
theorem dX2_skipOf_14 : decode cX2_skipOf 14 = .ok (.ireturn, 1) := by decide +kernel
set_option maxRecDepth 20000 in
theorem ggX2_may_X0_mayHave : GoodIn wsX2_may wsX0_mayHave := goodIn_r _ [6, 7, 8, 9, 5, 10, 11, 12, 13, 14, 15, 16, 17, 18, 19, 20, 21, 22, 37] (by decide +kernel) (by decide +kernel)
set_option maxRecDepth 20000 in
theorem gX2_may_X0_mayHave : GoodIn wsX2_may (wsV RX2 132 RX0 yX0_mayHave wsX0_mayHave) := goodIn_app (goodIn_of _ (by decide +kernel)) ggX2_may_X0_mayHave
theorem dX2_may_0 : decode cX2_may 0 = .ok (.aload_n 0, 1) := by decide +kernel
theorem dX2_may_1 : decode cX2_may 1 = .ok (.getfield 19, 3) := by decide +kernel
theorem dX2_may_4 : decode cX2_may 4 = .ok (.iload_n 1, 1) := by decide +kernel
theorem dX2_may_5 : decode cX2_may 5 = .ok (.invokevirtual 132, 3) := by decide +kernel
theorem dX2_may_8 : decode cX2_may 8 = .ok (.ifCond .eq 7, 3) := by decide +kernel
theorem dX2_may_11 : decode cX2_may 11 = .ok (.iconst 1, 1) := by decide +kernel
theorem dX2_may_12 : decode cX2_may 12 = .ok (.goto 4, 3) := by decide +kernel
theorem dX2_may_15 : decode cX2_may 15 = .ok (.iconst 0, 1) := by decide +kernel
theorem dX2_may_16 : decode cX2_may 16 = .ok (.ireturn, 1) := by decide +kernel
set_option maxRecDepth 20000 in
theorem ggX2_find_X0_mayHave : GoodIn wsX2_find wsX0_mayHave := goodIn_r _ [7, 8, 9, 10, 6, 11, 12, 13, 14, 15, 16, 17, 18, 19, 20, 21, 22, 23, 43] (by decide +kernel) (by decide +kernel)
set_option maxRecDepth 20000 in
theorem gX2_find_X0_mayHave : GoodIn wsX2_find (wsV RX2 132 RX0 yX0_mayHave wsX0_mayHave) := goodIn_app (goodIn_of _ (by decide +kernel)) ggX2_find_X0_mayHave
set_option maxRecDepth 20000 in
theorem ggX2_find_X2_hasWord : GoodIn wsX2_find wsX2_hasWord := goodIn_r _ [27, 28, 29, 30, 31, 32, 33, 34, 35, 36, 37, 38, 39, 40, 41, 42] (by decide +kernel) (by decide +kernel)
set_option maxRecDepth 20000 in
theorem gX2_find_X2_hasWord : GoodIn wsX2_find (wsV RX2 135 RX2 yX2_hasWord wsX2_hasWord) := goodIn_app (goodIn_of _ (by decide +kernel)) ggX2_find_X2_hasWord
theorem dX2_find_0 : decode cX2_find 0 = .ok (.aload_n 0, 1) := by decide +kernel
theorem dX2_find_1 : decode cX2_find 1 = .ok (.getfield 19, 3) := by decide +kernel
theorem dX2_find_4 : decode cX2_find 4 = .ok (.iload_n 1, 1) := by decide +kernel
theorem dX2_find_5 : decode cX2_find 5 = .ok (.invokevirtual 132, 3) := by decide +kernel
theorem dX2_find_8 : decode cX2_find 8 = .ok (.ifCond .ne 5, 3) := by decide +kernel
theorem dX2_find_11 : decode cX2_find 11 = .ok (.iconst (-1), 1) := by decide +kernel
theorem dX2_find_12 : decode cX2_find 12 = .ok (.ireturn, 1) := by decide +kernel
theorem dX2_find_13 : decode cX2_find 13 = .ok (.iconst 0, 1) := by decide +kernel
theorem dX2_find_14 : decode cX2_find 14 = .ok (.istore_n 2, 1) := by decide +kernel
theorem dX2_find_15 : decode cX2_find 15 = .ok (.iload_n 2, 1) := by decide +kernel
theorem dX2_find_16 : decode cX2_find 16 = .ok (.aload_n 0, 1) := by decide +kernel
theorem dX2_find_17 : decode cX2_find 17 = .ok (.getfield 36, 3) := by decide +kernel
theorem dX2_find_20 : decode cX2_find 20 = .ok (.if_icmp .ge 20, 3) := by decide +kernel
theorem dX2_find_23 : decode cX2_find 23 = .ok (.aload_n 0, 1) := by decide +kernel
theorem dX2_find_24 : decode cX2_find 24 = .ok (.iload_n 2, 1) := by decide +kernel
theorem dX2_find_25 : decode cX2_find 25 = .ok (.iload_n 1, 1) := by decide +kernel
theorem dX2_find_26 : decode cX2_find 26 = .ok (.invokevirtual 135, 3) := by decide +kernel
theorem dX2_find_29 : decode cX2_find 29 = .ok (.ifCond .eq 5, 3) := by decide +kernel
theorem dX2_find_32 : decode cX2_find 32 = .ok (.iload_n 2, 1) := by decide +kernel
