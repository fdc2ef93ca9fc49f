theorem dX3_mix_383 : decode cX3_mix 383 = .ok (.iadd, 1) := by decide +kernel
theorem dX3_mix_384 : decode cX3_mix 384 = .ok (.iastore, 1) := by decide +kernel
theorem dX3_mix_385 : decode cX3_mix 385 = .ok (.return_, 1) := by decide +kernel
set_option maxRecDepth 20000 in
theorem ggX3_mixFirst_X3_mix : GoodIn wsX3_mixFirst wsX3_mix := goodIn_r _ [10, 3, 1, 11, 12, 13, 9, 14, 15, 16, 17, 18, 19, 20, 21, 22, 23, 24, 25, 26, 27, 28, 29, 30, 31, 32, 33] (by decide +kernel) (by decide +kernel)
set_option maxRecDepth 20000 in
theorem gX3_mixFirst_X3_mix : GoodIn wsX3_mixFirst (wsV RX3 133 RX3 yX3_mix wsX3_mix) := goodIn_app (goodIn_of _ (by decide +kernel)) ggX3_mixFirst_X3_mix
theorem dX3_mixFirst_0 : decode cX3_mixFirst 0 = .ok (.iconst 0, 1) := by decide +kernel
theorem dX3_mixFirst_1 : decode cX3_mixFirst 1 = .ok (.istore_n 1, 1) := by decide +kernel
theorem dX3_mixFirst_2 : decode cX3_mixFirst 2 = .ok (.iload_n 1, 1) := by decide +kernel
theorem dX3_mixFirst_3 : decode cX3_mixFirst 3 = .ok (.bipush 8, 2) := by decide +kernel
theorem dX3_mixFirst_5 : decode cX3_mixFirst 5 = .ok (.if_icmp .ge 21, 3) := by decide +kernel
theorem dX3_mixFirst_8 : decode cX3_mixFirst 8 = .ok (.aload_n 0, 1) := by decide +kernel
theorem dX3_mixFirst_9 : decode cX3_mixFirst 9 = .ok (.getfield 36, 3) := by decide +kernel
theorem dX3_mixFirst_12 : decode cX3_mixFirst 12 = .ok (.iload_n 1, 1) := by decide +kernel
theorem dX3_mixFirst_13 : decode cX3_mixFirst 13 = .ok (.aload_n 0, 1) := by decide +kernel
theorem dX3_mixFirst_14 : decode cX3_mixFirst 14 = .ok (.getfield 33, 3) := by decide +kernel
theorem dX3_mixFirst_17 : decode cX3_mixFirst 17 = .ok (.iload_n 1, 1) := by decide +kernel
theorem dX3_mixFirst_18 : decode cX3_mixFirst 18 = .ok (.iaload, 1) := by decide +kernel
theorem dX3_mixFirst_19 : decode cX3_mixFirst 19 = .ok (.iastore, 1) := by decide +kernel
theorem dX3_mixFirst_20 : decode cX3_mixFirst 20 = .ok (.iinc 1 1, 3) := by decide +kernel
theorem dX3_mixFirst_23 : decode cX3_mixFirst 23 = .ok (.goto (-21), 3) := by decide +kernel
theorem dX3_mixFirst_26 : decode cX3_mixFirst 26 = .ok (.iconst 0, 1) := by decide +kernel
theorem dX3_mixFirst_27 : decode cX3_mixFirst 27 = .ok (.istore_n 1, 1) := by decide +kernel
theorem dX3_mixFirst_28 : decode cX3_mixFirst 28 = .ok (.iload_n 1, 1) := by decide +kernel
theorem dX3_mixFirst_29 : decode cX3_mixFirst 29 = .ok (.bipush 16, 2) := by decide +kernel
theorem dX3_mixFirst_31 : decode cX3_mixFirst 31 = .ok (.if_icmp .ge 21, 3) := by decide +kernel
theorem dX3_mixFirst_34 : decode cX3_mixFirst 34 = .ok (.aload_n 0, 1) := by decide +kernel
theorem dX3_mixFirst_35 : decode cX3_mixFirst 35 = .ok (.getfield 42, 3) := by decide +kernel
theorem dX3_mixFirst_38 : decode cX3_mixFirst 38 = .ok (.iload_n 1, 1) := by decide +kernel
theorem dX3_mixFirst_39 : decode cX3_mixFirst 39 = .ok (.aload_n 0, 1) := by decide +kernel
theorem dX3_mixFirst_40 : decode cX3_mixFirst 40 = .ok (.getfield 45, 3) := by decide +kernel
theorem dX3_mixFirst_43 : decode cX3_mixFirst 43 = .ok (.iload_n 1, 1) := by decide +kernel
theorem dX3_mixFirst_44 : decode cX3_mixFirst 44 = .ok (.iaload, 1) := by decide +kernel
theorem dX3_mixFirst_45 : decode cX3_mixFirst 45 = .ok (.iastore, 1) := by decide +kernel
theorem dX3_mixFirst_46 : decode cX3_mixFirst 46 = .ok (.iinc 1 1, 3) := by decide +kernel
theorem dX3_mixFirst_49 : decode cX3_mixFirst 49 = .ok (.goto (-21), 3) := by decide +kernel
theorem dX3_mixFirst_52 : decode cX3_mixFirst 52 = .ok (.aload_n 0, 1) := by decide +kernel
theorem dX3_mixFirst_53 : decode cX3_mixFirst 53 = .ok (.invokevirtual 133, 3) := by decide +kernel
theorem dX3_mixFirst_56 : decode cX3_mixFirst 56 = .ok (.iconst 0, 1) := by decide +kernel
theorem dX3_mixFirst_57 : decode cX3_mixFirst 57 = .ok (.istore_n 1, 1) := by decide +kernel
theorem dX3_mixFirst_58 : decode cX3_mixFirst 58 = .ok (.iload_n 1, 1) := by decide +kernel
theorem dX3_mixFirst_59 : decode cX3_mixFirst 59 = .ok (.bipush 8, 2) := by decide +kernel
theorem dX3_mixFirst_61 : decode cX3_mixFirst 61 = .ok (.if_icmp .ge 21, 3) := by decide +kernel
theorem dX3_mixFirst_64 : decode cX3_mixFirst 64 = .ok (.aload_n 0, 1) := by decide +kernel
theorem dX3_mixFirst_65 : decode cX3_mixFirst 65 = .ok (.getfield 39, 3) := by decide +kernel
theorem dX3_mixFirst_68 : decode cX3_mixFirst 68 = .ok (.iload_n 1, 1) := by decide +kernel
theorem dX3_mixFirst_69 : decode cX3_mixFirst 69 = .ok (.aload_n 0, 1) := by decide +kernel
theorem dX3_mixFirst_70 : decode cX3_mixFirst 70 = .ok (.getfield 36, 3) := by decide +kernel
theorem dX3_mixFirst_73 : decode cX3_mixFirst 73 = .ok (.iload_n 1, 1) := by decide +kernel
theorem dX3_mixFirst_74 : decode cX3_mixFirst 74 = .ok (.iaload, 1) := by decide +kernel
theorem dX3_mixFirst_75 : decode cX3_mixFirst 75 = .ok (.iastore, 1) := by decide +kernel
theorem dX3_mixFirst_76 : decode cX3_mixFirst 76 = .ok (.iinc 1 1, 3) := by decide +kernel
theorem dX3_mixFirst_79 : decode cX3_mixFirst 79 = .ok (.goto (-21), 3) := by decide +kernel
theorem dX3_mixFirst_82 : decode cX3_mixFirst 82 = .ok (.return_, 1) := by decide +kernel
set_option maxRecDepth 20000 in
theorem ggX3_mixSecond_X3_mix : GoodIn wsX3_mixSecond wsX3_mix := goodIn_r _ [10, 3, 1, 11, 12, 13, 9, 14, 15, 16, 17, 18, 19, 20, 21, 22, 23, 24, 25, 26, 27, 28, 29, 30, 31, 32, 33] (by decide +kernel) (by decide +kernel)
set_option maxRecDepth 20000 in
theorem gX3_mixSecond_X3_mix : GoodIn wsX3_mixSecond (wsV RX3 133 RX3 yX3_mix wsX3_mix) := goodIn_app (goodIn_of _ (by decide +kernel)) ggX3_mixSecond_X3_mix
theorem dX3_mixSecond_0 : decode cX3_mixSecond 0 = .ok (.iconst 0, 1) := by decide +kernel
theorem dX3_mixSecond_1 : decode cX3_mixSecond 1 = .ok (.istore_n 1, 1) := by decide +kernel
theorem dX3_mixSecond_2 : decode cX3_mixSecond 2 = .ok (.iload_n 1, 1) := by decide +kernel
theorem dX3_mixSecond_3 : decode cX3_mixSecond 3 = .ok (.bipush 8, 2) := by decide +kernel
theorem dX3_mixSecond_5 : decode cX3_mixSecond 5 = .ok (.if_icmp .ge 21, 3) := by decide +kernel
theorem dX3_mixSecond_8 : decode cX3_mixSecond 8 = .ok (.aload_n 0, 1) := by decide +kernel
theorem dX3_mixSecond_9 : decode cX3_mixSecond 9 = .ok (.getfield 36, 3) := by decide +kernel
theorem dX3_mixSecond_12 : decode cX3_mixSecond 12 = .ok (.iload_n 1, 1) := by decide +kernel
theorem dX3_mixSecond_13 : decode cX3_mixSecond 13 = .ok (.aload_n 0, 1) := by decide +kernel
theorem dX3_mixSecond_14 : decode cX3_mixSecond 14 = .ok (.getfield 39, 3) := by decide +kernel
theorem dX3_mixSecond_17 : decode cX3_mixSecond 17 = .ok (.iload_n 1, 1) := by decide +kernel
theorem dX3_mixSecond_18 : decode cX3_mixSecond 18 = .ok (.iaload, 1) := by decide +kernel
theorem dX3_mixSecond_19 : decode cX3_mixSecond 19 = .ok (.iastore, 1) := by decide +kernel
theorem dX3_mixSecond_20 : decode cX3_mixSecond 20 = .ok (.iinc 1 1, 3) := by decide +kernel
theorem dX3_mixSecond_23 : decode cX3_mixSecond 23 = .ok (.goto (-21), 3) := by decide +kernel
theorem dX3_mixSecond_26 : decode cX3_mixSecond 26 = .ok (.iconst 0, 1) := by decide +kernel
theorem dX3_mixSecond_27 : decode cX3_mixSecond 27 = .ok (.istore_n 1, 1) := by decide +kernel
theorem dX3_mixSecond_28 : decode cX3_mixSecond 28 = .ok (.iload_n 1, 1) := by decide +kernel
theorem dX3_mixSecond_29 : decode cX3_mixSecond 29 = .ok (.bipush 16, 2) := by decide +kernel
theorem dX3_mixSecond_31 : decode cX3_mixSecond 31 = .ok (.if_icmp .ge 34, 3) := by decide +kernel
theorem dX3_mixSecond_34 : decode cX3_mixSecond 34 = .ok (.aload_n 0, 1) := by decide +kernel
theorem dX3_mixSecond_35 : decode cX3_mixSecond 35 = .ok (.getfield 42, 3) := by decide +kernel
theorem dX3_mixSecond_38 : decode cX3_mixSecond 38 = .ok (.iload_n 1, 1) := by decide +kernel
theorem dX3_mixSecond_39 : decode cX3_mixSecond 39 = .ok (.iload_n 1, 1) := by decide +kernel
theorem dX3_mixSecond_40 : decode cX3_mixSecond 40 = .ok (.bipush 10, 2) := by decide +kernel
theorem dX3_mixSecond_42 : decode cX3_mixSecond 42 = .ok (.if_icmp .ge 15, 3) := by decide +kernel
theorem dX3_mixSecond_45 : decode cX3_mixSecond 45 = .ok (.aload_n 0, 1) := by decide +kernel
theorem dX3_mixSecond_46 : decode cX3_mixSecond 46 = .ok (.getfield 45, 3) := by decide +kernel
theorem dX3_mixSecond_49 : decode cX3_mixSecond 49 = .ok (.bipush 16, 2) := by decide +kernel
theorem dX3_mixSecond_51 : decode cX3_mixSecond 51 = .ok (.iload_n 1, 1) := by decide +kernel
theorem dX3_mixSecond_52 : decode cX3_mixSecond 52 = .ok (.iadd, 1) := by decide +kernel
theorem dX3_mixSecond_53 : decode cX3_mixSecond 53 = .ok (.iaload, 1) := by decide +kernel
theorem dX3_mixSecond_54 : decode cX3_mixSecond 54 = .ok (.goto 4, 3) := by decide +kernel
theorem dX3_mixSecond_57 : decode cX3_mixSecond 57 = .ok (.iconst 0, 1) := by decide +kernel
theorem dX3_mixSecond_58 : decode cX3_mixSecond 58 = .ok (.iastore, 1) := by decide +kernel
theorem dX3_mixSecond_59 : decode cX3_mixSecond 59 = .ok (.iinc 1 1, 3) := by decide +kernel
theorem dX3_mixSecond_62 : decode cX3_mixSecond 62 = .ok (.goto (-34), 3) := by decide +kernel
theorem dX3_mixSecond_65 : decode cX3_mixSecond 65 = .ok (.aload_n 0, 1) := by decide +kernel
theorem dX3_mixSecond_66 : decode cX3_mixSecond 66 = .ok (.getfield 42, 3) := by decide +kernel
theorem dX3_mixSecond_69 : decode cX3_mixSecond 69 = .ok (.bipush 10, 2) := by decide +kernel
theorem dX3_mixSecond_71 : decode cX3_mixSecond 71 = .ok (.ldc 136, 2) := by decide +kernel
theorem dX3_mixSecond_73 : decode cX3_mixSecond 73 = .ok (.iastore, 1) := by decide +kernel
theorem dX3_mixSecond_74 : decode cX3_mixSecond 74 = .ok (.aload_n 0, 1) := by decide +kernel
theorem dX3_mixSecond_75 : decode cX3_mixSecond 75 = .ok (.getfield 42, 3) := by decide +kernel
theorem dX3_mixSecond_78 : decode cX3_mixSecond 78 = .ok (.bipush 15, 2) := by decide +kernel
theorem dX3_mixSecond_80 : decode cX3_mixSecond 80 = .ok (.sipush 832, 3) := by decide +kernel
theorem dX3_mixSecond_83 : decode cX3_mixSecond 83 = .ok (.iastore, 1) := by decide +kernel
theorem dX3_mixSecond_84 : decode cX3_mixSecond 84 = .ok (.aload_n 0, 1) := by decide +kernel
theorem dX3_mixSecond_85 : decode cX3_mixSecond 85 = .ok (.invokevirtual 133, 3) := by decide +kernel
theorem dX3_mixSecond_88 : decode cX3_mixSecond 88 = .ok (.return_, 1) := by decide +kernel
theorem dX3_zerosOf_0 : decode cX3_zerosOf 0 = .ok (.iconst 0, 1) := by decide +kernel
theorem dX3_zerosOf_1 : decode cX3_zerosOf 1 = .ok (.istore_n 1, 1) := by decide +kernel
theorem dX3_zerosOf_2 : decode cX3_zerosOf 2 = .ok (.iload_n 1, 1) := by decide +kernel
theorem dX3_zerosOf_3 : decode cX3_zerosOf 3 = .ok (.bipush 32, 2) := by decide +kernel
theorem dX3_zerosOf_5 : decode cX3_zerosOf 5 = .ok (.if_icmp .ge 15, 3) := by decide +kernel
theorem dX3_zerosOf_8 : decode cX3_zerosOf 8 = .ok (.iload_n 0, 1) := by decide +kernel
theorem dX3_zerosOf_9 : decode cX3_zerosOf 9 = .ok (.iload_n 1, 1) := by decide +kernel
theorem dX3_zerosOf_10 : decode cX3_zerosOf 10 = .ok (.ishl, 1) := by decide +kernel
theorem dX3_zerosOf_11 : decode cX3_zerosOf 11 = .ok (.ifCond .lt 9, 3) := by decide +kernel
theorem dX3_zerosOf_14 : decode cX3_zerosOf 14 = .ok (.iinc 1 1, 3) := by decide +kernel
theorem dX3_zerosOf_17 : decode cX3_zerosOf 17 = .ok (.goto (-15), 3) := by decide +kernel
theorem dX3_zerosOf_20 : decode cX3_zerosOf 20 = .ok (.iload_n 1, 1) := by decide +kernel
theorem dX3_zerosOf_21 : decode cX3_zerosOf 21 = .ok (.ireturn, 1) := by decide +kernel
set_option maxRecDepth 20000 in
theorem ggX3_zeros_X3_zerosOf : GoodIn wsX3_zeros wsX3_zerosOf := goodIn_r _ [5] (by decide +kernel) (by decide +kernel)
set_option maxRecDepth 20000 in
theorem gX3_zeros_X3_zerosOf : GoodIn wsX3_zeros (va_wsS RX3 137 yX3_zerosOf wsX3_zerosOf) := goodIn_app (goodIn_of _ (by decide +kernel)) ggX3_zeros_X3_zerosOf
theorem dX3_zeros_0 : decode cX3_zeros 0 = .ok (.iconst 0, 1) := by decide +kernel
theorem dX3_zeros_1 : decode cX3_zeros 1 = .ok (.istore_n 1, 1) := by decide +kernel
theorem dX3_zeros_2 : decode cX3_zeros 2 = .ok (.iconst 0, 1) := by decide +kernel
theorem dX3_zeros_3 : decode cX3_zeros 3 = .ok (.istore_n 2, 1) := by decide +kernel
theorem dX3_zeros_4 : decode cX3_zeros 4 = .ok (.iload_n 2, 1) := by decide +kernel
theorem dX3_zeros_5 : decode cX3_zeros 5 = .ok (.bipush 8, 2) := by decide +kernel
theorem dX3_zeros_7 : decode cX3_zeros 7 = .ok (.if_icmp .ge 21, 3) := by decide +kernel
theorem dX3_zeros_10 : decode cX3_zeros 10 = .ok (.aload_n 0, 1) := by decide +kernel
theorem dX3_zeros_11 : decode cX3_zeros 11 = .ok (.getfield 36, 3) := by decide +kernel
theorem dX3_zeros_14 : decode cX3_zeros 14 = .ok (.iload_n 2, 1) := by decide +kernel
theorem dX3_zeros_15 : decode cX3_zeros 15 = .ok (.iaload, 1) := by decide +kernel
theorem dX3_zeros_16 : decode cX3_zeros 16 = .ok (.ifCond .ne 12, 3) := by decide +kernel
theorem dX3_zeros_19 : decode cX3_zeros 19 = .ok (.iinc 1 32, 3) := by decide +kernel
theorem dX3_zeros_22 : decode cX3_zeros 22 = .ok (.iinc 2 1, 3) := by decide +kernel
theorem dX3_zeros_25 : decode cX3_zeros 25 = .ok (.goto (-21), 3) := by decide +kernel
theorem dX3_zeros_28 : decode cX3_zeros 28 = .ok (.iload_n 2, 1) := by decide +kernel
theorem dX3_zeros_29 : decode cX3_zeros 29 = .ok (.bipush 8, 2) := by decide +kernel
theorem dX3_zeros_31 : decode cX3_zeros 31 = .ok (.if_icmp .ge 17, 3) := by decide +kernel
theorem dX3_zeros_34 : decode cX3_zeros 34 = .ok (.iload_n 1, 1) := by decide +kernel
theorem dX3_zeros_35 : decode cX3_zeros 35 = .ok (.aload_n 0, 1) := by decide +kernel
theorem dX3_zeros_36 : decode cX3_zeros 36 = .ok (.getfield 36, 3) := by decide +kernel
theorem dX3_zeros_39 : decode cX3_zeros 39 = .ok (.iload_n 2, 1) := by decide +kernel
theorem dX3_zeros_40 : decode cX3_zeros 40 = .ok (.iaload, 1) := by decide +kernel
theorem dX3_zeros_41 : decode cX3_zeros 41 = .ok (.invokestatic 137, 3) := by decide +kernel
theorem dX3_zeros_44 : decode cX3_zeros 44 = .ok (.iadd, 1) := by decide +kernel
theorem dX3_zeros_45 : decode cX3_zeros 45 = .ok (.goto 4, 3) := by decide +kernel
theorem dX3_zeros_48 : decode cX3_zeros 48 = .ok (.iload_n 1, 1) := by decide +kernel
theorem dX3_zeros_49 : decode cX3_zeros 49 = .ok (.ireturn, 1) := by decide +kernel
theorem dX3_lowest_0 : decode cX3_lowest 0 = .ok (.iload_n 0, 1) := by decide +kernel
theorem dX3_lowest_1 : decode cX3_lowest 1 = .ok (.iload_n 0, 1) := by decide +kernel
theorem dX3_lowest_2 : decode cX3_lowest 2 = .ok (.ineg, 1) := by decide +kernel
theorem dX3_lowest_3 : decode cX3_lowest 3 = .ok (.iand, 1) := by decide +kernel
theorem dX3_lowest_4 : decode cX3_lowest 4 = .ok (.ireturn, 1) := by decide +kernel
theorem dX3_hashCell_0 : decode cX3_hashCell 0 = .ok (.aload_n 0, 1) := by decide +kernel
theorem dX3_hashCell_1 : decode cX3_hashCell 1 = .ok (.getfield 7, 3) := by decide +kernel
theorem dX3_hashCell_4 : decode cX3_hashCell 4 = .ok (.bipush 34, 2) := by decide +kernel
theorem dX3_hashCell_6 : decode cX3_hashCell 6 = .ok (.iload_n 1, 1) := by decide +kernel
theorem dX3_hashCell_7 : decode cX3_hashCell 7 = .ok (.imul, 1) := by decide +kernel
theorem dX3_hashCell_8 : decode cX3_hashCell 8 = .ok (.bipush 26, 2) := by decide +kernel
theorem dX3_hashCell_10 : decode cX3_hashCell 10 = .ok (.iadd, 1) := by decide +kernel
theorem dX3_hashCell_11 : decode cX3_hashCell 11 = .ok (.iload_n 2, 1) := by decide +kernel
theorem dX3_hashCell_12 : decode cX3_hashCell 12 = .ok (.iadd, 1) := by decide +kernel
theorem dX3_hashCell_13 : decode cX3_hashCell 13 = .ok (.iaload, 1) := by decide +kernel
theorem dX3_hashCell_14 : decode cX3_hashCell 14 = .ok (.ireturn, 1) := by decide +kernel
set_option maxRecDepth 20000 in
theorem ggX3_draft_X3_hashCell : GoodIn wsX3_draft wsX3_hashCell := goodIn_r _ [10, 11, 15, 16, 17, 18, 19, 20, 21, 22, 23, 24, 25, 26, 27, 28, 29, 30, 31, 32, 33] (by decide +kernel) (by decide +kernel)
set_option maxRecDepth 20000 in
theorem gX3_draft_X3_hashCell : GoodIn wsX3_draft (wsV RX3 144 RX3 yX3_hashCell wsX3_hashCell) := goodIn_app (goodIn_of _ (by decide +kernel)) ggX3_draft_X3_hashCell
set_option maxRecDepth 20000 in
theorem ggX3_draft_X3_lowest : GoodIn wsX3_draft wsX3_lowest := goodIn_r _ [14] (by decide +kernel) (by decide +kernel)
set_option maxRecDepth 20000 in
theorem gX3_draft_X3_lowest : GoodIn wsX3_draft (va_wsS RX3 147 yX3_lowest wsX3_lowest) := goodIn_app (goodIn_of _ (by decide +kernel)) ggX3_draft_X3_lowest
theorem dX3_draft_0 : decode cX3_draft 0 = .ok (.iconst 0, 1) := by decide +kernel
theorem dX3_draft_1 : decode cX3_draft 1 = .ok (.istore_n 1, 1) := by decide +kernel
theorem dX3_draft_2 : decode cX3_draft 2 = .ok (.iload_n 1, 1) := by decide +kernel
theorem dX3_draft_3 : decode cX3_draft 3 = .ok (.bipush 8, 2) := by decide +kernel
theorem dX3_draft_5 : decode cX3_draft 5 = .ok (.if_icmp .ge 101, 3) := by decide +kernel
theorem dX3_draft_8 : decode cX3_draft 8 = .ok (.aload_n 0, 1) := by decide +kernel
theorem dX3_draft_9 : decode cX3_draft 9 = .ok (.getfield 45, 3) := by decide +kernel
theorem dX3_draft_12 : decode cX3_draft 12 = .ok (.iload_n 1, 1) := by decide +kernel
theorem dX3_draft_13 : decode cX3_draft 13 = .ok (.aload_n 0, 1) := by decide +kernel
theorem dX3_draft_14 : decode cX3_draft 14 = .ok (.getfield 141, 3) := by decide +kernel
theorem dX3_draft_17 : decode cX3_draft 17 = .ok (.ifCond .ne 7, 3) := by decide +kernel
theorem dX3_draft_20 : decode cX3_draft 20 = .ok (.iconst 0, 1) := by decide +kernel
theorem dX3_draft_21 : decode cX3_draft 21 = .ok (.goto 14, 3) := by decide +kernel
theorem dX3_draft_24 : decode cX3_draft 24 = .ok (.aload_n 0, 1) := by decide +kernel
theorem dX3_draft_25 : decode cX3_draft 25 = .ok (.aload_n 0, 1) := by decide +kernel
theorem dX3_draft_26 : decode cX3_draft 26 = .ok (.getfield 141, 3) := by decide +kernel
theorem dX3_draft_29 : decode cX3_draft 29 = .ok (.iconst 1, 1) := by decide +kernel
theorem dX3_draft_30 : decode cX3_draft 30 = .ok (.isub, 1) := by decide +kernel
theorem dX3_draft_31 : decode cX3_draft 31 = .ok (.iload_n 1, 1) := by decide +kernel
theorem dX3_draft_32 : decode cX3_draft 32 = .ok (.invokevirtual 144, 3) := by decide +kernel
theorem dX3_draft_35 : decode cX3_draft 35 = .ok (.iastore, 1) := by decide +kernel
theorem dX3_draft_36 : decode cX3_draft 36 = .ok (.aload_n 0, 1) := by decide +kernel
theorem dX3_draft_37 : decode cX3_draft 37 = .ok (.getfield 45, 3) := by decide +kernel
theorem dX3_draft_40 : decode cX3_draft 40 = .ok (.bipush 8, 2) := by decide +kernel
theorem dX3_draft_42 : decode cX3_draft 42 = .ok (.iload_n 1, 1) := by decide +kernel
theorem dX3_draft_43 : decode cX3_draft 43 = .ok (.iadd, 1) := by decide +kernel
theorem dX3_draft_44 : decode cX3_draft 44 = .ok (.aload_n 0, 1) := by decide +kernel
theorem dX3_draft_45 : decode cX3_draft 45 = .ok (.getfield 141, 3) := by decide +kernel
theorem dX3_draft_48 : decode cX3_draft 48 = .ok (.ifCond .ne 7, 3) := by decide +kernel
theorem dX3_draft_51 : decode cX3_draft 51 = .ok (.iconst 0, 1) := by decide +kernel
theorem dX3_draft_52 : decode cX3_draft 52 = .ok (.goto 20, 3) := by decide +kernel
theorem dX3_draft_55 : decode cX3_draft 55 = .ok (.aload_n 0, 1) := by decide +kernel
theorem dX3_draft_56 : decode cX3_draft 56 = .ok (.aload_n 0, 1) := by decide +kernel
theorem dX3_draft_57 : decode cX3_draft 57 = .ok (.getfield 141, 3) := by decide +kernel
theorem dX3_draft_60 : decode cX3_draft 60 = .ok (.aload_n 0, 1) := by decide +kernel
theorem dX3_draft_61 : decode cX3_draft 61 = .ok (.getfield 141, 3) := by decide +kernel
theorem dX3_draft_64 : decode cX3_draft 64 = .ok (.invokestatic 147, 3) := by decide +kernel
theorem dX3_draft_67 : decode cX3_draft 67 = .ok (.isub, 1) := by decide +kernel
theorem dX3_draft_68 : decode cX3_draft 68 = .ok (.iload_n 1, 1) := by decide +kernel
theorem dX3_draft_69 : decode cX3_draft 69 = .ok (.invokevirtual 144, 3) := by decide +kernel
theorem dX3_draft_72 : decode cX3_draft 72 = .ok (.iastore, 1) := by decide +kernel
theorem dX3_draft_73 : decode cX3_draft 73 = .ok (.aload_n 0, 1) := by decide +kernel
theorem dX3_draft_74 : decode cX3_draft 74 = .ok (.getfield 45, 3) := by decide +kernel
theorem dX3_draft_77 : decode cX3_draft 77 = .ok (.bipush 16, 2) := by decide +kernel
theorem dX3_draft_79 : decode cX3_draft 79 = .ok (.iload_n 1, 1) := by decide +kernel
theorem dX3_draft_80 : decode cX3_draft 80 = .ok (.iadd, 1) := by decide +kernel
theorem dX3_draft_81 : decode cX3_draft 81 = .ok (.iload_n 1, 1) := by decide +kernel
theorem dX3_draft_82 : decode cX3_draft 82 = .ok (.aload_n 0, 1) := by decide +kernel
theorem dX3_draft_83 : decode cX3_draft 83 = .ok (.getfield 150, 3) := by decide +kernel
theorem dX3_draft_86 : decode cX3_draft 86 = .ok (.if_icmp .ge 12, 3) := by decide +kernel
theorem dX3_draft_89 : decode cX3_draft 89 = .ok (.aload_n 0, 1) := by decide +kernel
theorem dX3_draft_90 : decode cX3_draft 90 = .ok (.getfield 16, 3) := by decide +kernel
theorem dX3_draft_93 : decode cX3_draft 93 = .ok (.iload_n 1, 1) := by decide +kernel
theorem dX3_draft_94 : decode cX3_draft 94 = .ok (.iaload, 1) := by decide +kernel
theorem dX3_draft_95 : decode cX3_draft 95 = .ok (.goto 4, 3) := by decide +kernel
theorem dX3_draft_98 : decode cX3_draft 98 = .ok (.iconst 0, 1) := by decide +kernel
theorem dX3_draft_99 : decode cX3_draft 99 = .ok (.iastore, 1) := by decide +kernel
theorem dX3_draft_100 : decode cX3_draft 100 = .ok (.iinc 1 1, 3) := by decide +kernel
theorem dX3_draft_103 : decode cX3_draft 103 = .ok (.goto (-101), 3) := by decide +kernel
theorem dX3_draft_106 : decode cX3_draft 106 = .ok (.aload_n 0, 1) := by decide +kernel
theorem dX3_draft_107 : decode cX3_draft 107 = .ok (.getfield 45, 3) := by decide +kernel
theorem dX3_draft_110 : decode cX3_draft 110 = .ok (.bipush 24, 2) := by decide +kernel
theorem dX3_draft_112 : decode cX3_draft 112 = .ok (.bipush 16, 2) := by decide +kernel
theorem dX3_draft_114 : decode cX3_draft 114 = .ok (.aload_n 0, 1) := by decide +kernel
theorem dX3_draft_115 : decode cX3_draft 115 = .ok (.getfield 48, 3) := by decide +kernel
theorem dX3_draft_118 : decode cX3_draft 118 = .ok (.imul, 1) := by decide +kernel
theorem dX3_draft_119 : decode cX3_draft 119 = .ok (.aload_n 0, 1) := by decide +kernel
theorem dX3_draft_120 : decode cX3_draft 120 = .ok (.getfield 150, 3) := by decide +kernel
theorem dX3_draft_123 : decode cX3_draft 123 = .ok (.iadd, 1) := by decide +kernel
theorem dX3_draft_124 : decode cX3_draft 124 = .ok (.iastore, 1) := by decide +kernel
theorem dX3_draft_125 : decode cX3_draft 125 = .ok (.return_, 1) := by decide +kernel
theorem dX3_forget_0 : decode cX3_forget 0 = .ok (.aload_n 0, 1) := by decide +kernel
theorem dX3_forget_1 : decode cX3_forget 1 = .ok (.iconst 0, 1) := by decide +kernel
theorem dX3_forget_2 : decode cX3_forget 2 = .ok (.putfield 153, 3) := by decide +kernel
theorem dX3_forget_5 : decode cX3_forget 5 = .ok (.aload_n 0, 1) := by decide +kernel
theorem dX3_forget_6 : decode cX3_forget 6 = .ok (.iconst (-1), 1) := by decide +kernel
theorem dX3_forget_7 : decode cX3_forget 7 = .ok (.putfield 19, 3) := by decide +kernel
theorem dX3_forget_10 : decode cX3_forget 10 = .ok (.return_, 1) := by decide +kernel
set_option maxRecDepth 20000 in
theorem ggX3_put_X3_forget : GoodIn wsX3_put wsX3_forget := goodIn_r _ [7, 8, 9, 10, 11, 12, 13, 14, 15, 16, 17, 18, 19, 20, 21, 22, 23, 24, 25, 26, 27, 28] (by decide +kernel) (by decide +kernel)
set_option maxRecDepth 20000 in
theorem gX3_put_X3_forget : GoodIn wsX3_put (wsV RX3 156 RX3 yX3_forget wsX3_forget) := goodIn_app (goodIn_of _ (by decide +kernel)) ggX3_put_X3_forget
theorem dX3_put_0 : decode cX3_put 0 = .ok (.aload_n 0, 1) := by decide +kernel
theorem dX3_put_1 : decode cX3_put 1 = .ok (.getfield 150, 3) := by decide +kernel
theorem dX3_put_4 : decode cX3_put 4 = .ok (.bipush 8, 2) := by decide +kernel
theorem dX3_put_6 : decode cX3_put 6 = .ok (.if_icmp .ne 6, 3) := by decide +kernel
theorem dX3_put_9 : decode cX3_put 9 = .ok (.bipush (-3), 2) := by decide +kernel
theorem dX3_put_11 : decode cX3_put 11 = .ok (.ireturn, 1) := by decide +kernel
theorem dX3_put_12 : decode cX3_put 12 = .ok (.aload_n 0, 1) := by decide +kernel
theorem dX3_put_13 : decode cX3_put 13 = .ok (.getfield 16, 3) := by decide +kernel
theorem dX3_put_16 : decode cX3_put 16 = .ok (.aload_n 0, 1) := by decide +kernel
theorem dX3_put_17 : decode cX3_put 17 = .ok (.getfield 150, 3) := by decide +kernel
theorem dX3_put_20 : decode cX3_put 20 = .ok (.iload_n 1, 1) := by decide +kernel
theorem dX3_put_21 : decode cX3_put 21 = .ok (.iastore, 1) := by decide +kernel
theorem dX3_put_22 : decode cX3_put 22 = .ok (.aload_n 0, 1) := by decide +kernel
theorem dX3_put_23 : decode cX3_put 23 = .ok (.dup, 1) := by decide +kernel
theorem dX3_put_24 : decode cX3_put 24 = .ok (.getfield 150, 3) := by decide +kernel
theorem dX3_put_27 : decode cX3_put 27 = .ok (.iconst 1, 1) := by decide +kernel
theorem dX3_put_28 : decode cX3_put 28 = .ok (.iadd, 1) := by decide +kernel
theorem dX3_put_29 : decode cX3_put 29 = .ok (.putfield 150, 3) := by decide +kernel
theorem dX3_put_32 : decode cX3_put 32 = .ok (.aload_n 0, 1) := by decide +kernel
theorem dX3_put_33 : decode cX3_put 33 = .ok (.invokevirtual 156, 3) := by decide +kernel
theorem dX3_put_36 : decode cX3_put 36 = .ok (.aload_n 0, 1) := by decide +kernel
theorem dX3_put_37 : decode cX3_put 37 = .ok (.getfield 150, 3) := by decide +kernel
theorem dX3_put_40 : decode cX3_put 40 = .ok (.ireturn, 1) := by decide +kernel
set_option maxRecDepth 20000 in
theorem ggX3_takeBack_X3_forget : GoodIn wsX3_takeBack wsX3_forget := goodIn_r _ [6, 7, 8, 9, 10, 11, 12, 13, 14, 15, 16, 17, 18, 19, 20, 21, 22, 23, 24, 25, 26, 27] (by decide +kernel) (by decide +kernel)
set_option maxRecDepth 20000 in
theorem gX3_takeBack_X3_forget : GoodIn wsX3_takeBack (wsV RX3 156 RX3 yX3_forget wsX3_forget) := goodIn_app (goodIn_of _ (by decide +kernel)) ggX3_takeBack_X3_forget
theorem dX3_takeBack_0 : decode cX3_takeBack 0 = .ok (.iload_n 1, 1) := by decide +kernel
theorem dX3_takeBack_1 : decode cX3_takeBack 1 = .ok (.iconst 1, 1) := by decide +kernel
theorem dX3_takeBack_2 : decode cX3_takeBack 2 = .ok (.if_icmp .lt 11, 3) := by decide +kernel
theorem dX3_takeBack_5 : decode cX3_takeBack 5 = .ok (.iload_n 1, 1) := by decide +kernel
theorem dX3_takeBack_6 : decode cX3_takeBack 6 = .ok (.aload_n 0, 1) := by decide +kernel
theorem dX3_takeBack_7 : decode cX3_takeBack 7 = .ok (.getfield 150, 3) := by decide +kernel
theorem dX3_takeBack_10 : decode cX3_takeBack 10 = .ok (.if_icmp .le 6, 3) := by decide +kernel
theorem dX3_takeBack_13 : decode cX3_takeBack 13 = .ok (.bipush (-2), 2) := by decide +kernel
theorem dX3_takeBack_15 : decode cX3_takeBack 15 = .ok (.ireturn, 1) := by decide +kernel
theorem dX3_takeBack_16 : decode cX3_takeBack 16 = .ok (.aload_n 0, 1) := by decide +kernel
theorem dX3_takeBack_17 : decode cX3_takeBack 17 = .ok (.dup, 1) := by decide +kernel
theorem dX3_takeBack_18 : decode cX3_takeBack 18 = .ok (.getfield 150, 3) := by decide +kernel
theorem dX3_takeBack_21 : decode cX3_takeBack 21 = .ok (.iload_n 1, 1) := by decide +kernel
theorem dX3_takeBack_22 : decode cX3_takeBack 22 = .ok (.isub, 1) := by decide +kernel
theorem dX3_takeBack_23 : decode cX3_takeBack 23 = .ok (.putfield 150, 3) := by decide +kernel
theorem dX3_takeBack_26 : decode cX3_takeBack 26 = .ok (.aload_n 0, 1) := by decide +kernel
theorem dX3_takeBack_27 : decode cX3_takeBack 27 = .ok (.invokevirtual 156, 3) := by decide +kernel
theorem dX3_takeBack_30 : decode cX3_takeBack 30 = .ok (.aload_n 0, 1) := by decide +kernel
theorem dX3_takeBack_31 : decode cX3_takeBack 31 = .ok (.getfield 150, 3) := by decide +kernel
theorem dX3_takeBack_34 : decode cX3_takeBack 34 = .ok (.ireturn, 1) := by decide +kernel
theorem dX3_pending_0 : decode cX3_pending 0 = .ok (.iload_n 1, 1) := by decide +kernel
theorem dX3_pending_1 : decode cX3_pending 1 = .ok (.ifCond .lt 20, 3) := by decide +kernel
theorem dX3_pending_4 : decode cX3_pending 4 = .ok (.iload_n 1, 1) := by decide +kernel
theorem dX3_pending_5 : decode cX3_pending 5 = .ok (.aload_n 0, 1) := by decide +kernel
theorem dX3_pending_6 : decode cX3_pending 6 = .ok (.getfield 150, 3) := by decide +kernel
theorem dX3_pending_9 : decode cX3_pending 9 = .ok (.if_icmp .ge 12, 3) := by decide +kernel
theorem dX3_pending_12 : decode cX3_pending 12 = .ok (.aload_n 0, 1) := by decide +kernel
theorem dX3_pending_13 : decode cX3_pending 13 = .ok (.getfield 16, 3) := by decide +kernel
theorem dX3_pending_16 : decode cX3_pending 16 = .ok (.iload_n 1, 1) := by decide +kernel
theorem dX3_pending_17 : decode cX3_pending 17 = .ok (.iaload, 1) := by decide +kernel
theorem dX3_pending_18 : decode cX3_pending 18 = .ok (.goto 4, 3) := by decide +kernel
theorem dX3_pending_21 : decode cX3_pending 21 = .ok (.iconst 0, 1) := by decide +kernel
theorem dX3_pending_22 : decode cX3_pending 22 = .ok (.ireturn, 1) := by decide +kernel
set_option maxRecDepth 20000 in
theorem ggX3_difficulty_X3_forget : GoodIn wsX3_difficulty wsX3_forget := goodIn_r _ [6, 7, 8, 9, 10, 11, 12, 13, 14, 15, 16, 17, 18, 19, 20, 21, 22, 23, 24, 25, 26, 27] (by decide +kernel) (by decide +kernel)
set_option maxRecDepth 20000 in
theorem gX3_difficulty_X3_forget : GoodIn wsX3_difficulty (wsV RX3 156 RX3 yX3_forget wsX3_forget) := goodIn_app (goodIn_of _ (by decide +kernel)) ggX3_difficulty_X3_forget
theorem dX3_difficulty_0 : decode cX3_difficulty 0 = .ok (.iload_n 1, 1) := by decide +kernel
theorem dX3_difficulty_1 : decode cX3_difficulty 1 = .ok (.ifCond .lt 9, 3) := by decide +kernel
theorem dX3_difficulty_4 : decode cX3_difficulty 4 = .ok (.iload_n 1, 1) := by decide +kernel
theorem dX3_difficulty_5 : decode cX3_difficulty 5 = .ok (.bipush 20, 2) := by decide +kernel
theorem dX3_difficulty_7 : decode cX3_difficulty 7 = .ok (.if_icmp .le 6, 3) := by decide +kernel
theorem dX3_difficulty_10 : decode cX3_difficulty 10 = .ok (.bipush (-2), 2) := by decide +kernel
theorem dX3_difficulty_12 : decode cX3_difficulty 12 = .ok (.ireturn, 1) := by decide +kernel
theorem dX3_difficulty_13 : decode cX3_difficulty 13 = .ok (.aload_n 0, 1) := by decide +kernel
theorem dX3_difficulty_14 : decode cX3_difficulty 14 = .ok (.getfield 48, 3) := by decide +kernel
theorem dX3_difficulty_17 : decode cX3_difficulty 17 = .ok (.istore_n 2, 1) := by decide +kernel
theorem dX3_difficulty_18 : decode cX3_difficulty 18 = .ok (.aload_n 0, 1) := by decide +kernel
theorem dX3_difficulty_19 : decode cX3_difficulty 19 = .ok (.iload_n 1, 1) := by decide +kernel
theorem dX3_difficulty_20 : decode cX3_difficulty 20 = .ok (.putfield 48, 3) := by decide +kernel
theorem dX3_difficulty_23 : decode cX3_difficulty 23 = .ok (.aload_n 0, 1) := by decide +kernel
theorem dX3_difficulty_24 : decode cX3_difficulty 24 = .ok (.invokevirtual 156, 3) := by decide +kernel
theorem dX3_difficulty_27 : decode cX3_difficulty 27 = .ok (.iload_n 2, 1) := by decide +kernel
theorem dX3_difficulty_28 : decode cX3_difficulty 28 = .ok (.ireturn, 1) := by decide +kernel
set_option maxRecDepth 20000 in
theorem ggX3_mine_X3_draft : GoodIn wsX3_mine wsX3_draft := goodIn_r _ [10, 4, 11, 12, 13, 5, 14, 15, 16, 9, 17, 18, 19, 20, 21, 50, 51, 52, 53, 54, 55, 56, 57, 58, 59, 60, 61, 62, 63, 64, 65, 66, 67, 68] (by decide +kernel) (by decide +kernel)
set_option maxRecDepth 20000 in
theorem gX3_mine_X3_draft : GoodIn wsX3_mine (wsV RX3 160 RX3 yX3_draft wsX3_draft) := goodIn_app (goodIn_of _ (by decide +kernel)) ggX3_mine_X3_draft
set_option maxRecDepth 20000 in
theorem ggX3_mine_X3_mixFirst : GoodIn wsX3_mine wsX3_mixFirst := goodIn_r _ [25, 26, 27, 28, 4, 29, 30, 31, 32, 9, 33, 34, 35, 36, 37, 50, 51, 52, 53, 54, 55, 56, 57, 58, 59, 60, 61, 62, 63, 64, 65, 66, 67, 68] (by decide +kernel) (by decide +kernel)
set_option maxRecDepth 20000 in
theorem gX3_mine_X3_mixFirst : GoodIn wsX3_mine (wsV RX3 163 RX3 yX3_mixFirst wsX3_mixFirst) := goodIn_app (goodIn_of _ (by decide +kernel)) ggX3_mine_X3_mixFirst
set_option maxRecDepth 20000 in
theorem ggX3_mine_X3_mixSecond : GoodIn wsX3_mine wsX3_mixSecond := goodIn_r _ [41, 26, 29, 28, 4, 42, 30, 31, 32, 9, 33, 34, 35, 36, 37, 50, 51, 52, 53, 54, 55, 56, 57, 58, 59, 60, 61, 62, 63, 64, 65, 66, 67, 68] (by decide +kernel) (by decide +kernel)
set_option maxRecDepth 20000 in
theorem gX3_mine_X3_mixSecond : GoodIn wsX3_mine (wsV RX3 166 RX3 yX3_mixSecond wsX3_mixSecond) := goodIn_app (goodIn_of _ (by decide +kernel)) ggX3_mine_X3_mixSecond
set_option maxRecDepth 20000 in
theorem ggX3_mine_X3_zeros : GoodIn wsX3_mine wsX3_zeros := goodIn_r _ [46, 26, 47, 48, 9, 49, 50, 51, 52, 53, 54, 55, 56, 57, 58, 59, 60, 61, 62, 63, 64, 65, 66, 67, 68] (by decide +kernel) (by decide +kernel)
set_option maxRecDepth 20000 in
theorem gX3_mine_X3_zeros : GoodIn wsX3_mine (wsV RX3 169 RX3 yX3_zeros wsX3_zeros) := goodIn_app (goodIn_of _ (by decide +kernel)) ggX3_mine_X3_zeros
theorem dX3_mine_0 : decode cX3_mine 0 = .ok (.iload_n 1, 1) := by decide +kernel
theorem dX3_mine_1 : decode cX3_mine 1 = .ok (.iconst 1, 1) := by decide +kernel
theorem dX3_mine_2 : decode cX3_mine 2 = .ok (.if_icmp .lt 10, 3) := by decide +kernel
theorem dX3_mine_5 : decode cX3_mine 5 = .ok (.iload_n 1, 1) := by decide +kernel
theorem dX3_mine_6 : decode cX3_mine 6 = .ok (.sipush 3000, 3) := by decide +kernel
theorem dX3_mine_9 : decode cX3_mine 9 = .ok (.if_icmp .le 6, 3) := by decide +kernel
theorem dX3_mine_12 : decode cX3_mine 12 = .ok (.bipush (-2), 2) := by decide +kernel
theorem dX3_mine_14 : decode cX3_mine 14 = .ok (.ireturn, 1) := by decide +kernel
theorem dX3_mine_15 : decode cX3_mine 15 = .ok (.aload_n 0, 1) := by decide +kernel
theorem dX3_mine_16 : decode cX3_mine 16 = .ok (.getfield 19, 3) := by decide +kernel
theorem dX3_mine_19 : decode cX3_mine 19 = .ok (.ifCond .lt 8, 3) := by decide +kernel
theorem dX3_mine_22 : decode cX3_mine 22 = .ok (.aload_n 0, 1) := by decide +kernel
theorem dX3_mine_23 : decode cX3_mine 23 = .ok (.getfield 19, 3) := by decide +kernel
theorem dX3_mine_26 : decode cX3_mine 26 = .ok (.ireturn, 1) := by decide +kernel
theorem dX3_mine_27 : decode cX3_mine 27 = .ok (.aload_n 0, 1) := by decide +kernel
theorem dX3_mine_28 : decode cX3_mine 28 = .ok (.getfield 153, 3) := by decide +kernel
theorem dX3_mine_31 : decode cX3_mine 31 = .ok (.ldc 159, 2) := by decide +kernel
theorem dX3_mine_33 : decode cX3_mine 33 = .ok (.if_icmp .ne 6, 3) := by decide +kernel
theorem dX3_mine_36 : decode cX3_mine 36 = .ok (.bipush (-3), 2) := by decide +kernel
theorem dX3_mine_38 : decode cX3_mine 38 = .ok (.ireturn, 1) := by decide +kernel
theorem dX3_mine_39 : decode cX3_mine 39 = .ok (.aload_n 0, 1) := by decide +kernel
theorem dX3_mine_40 : decode cX3_mine 40 = .ok (.invokevirtual 160, 3) := by decide +kernel
theorem dX3_mine_43 : decode cX3_mine 43 = .ok (.aload_n 0, 1) := by decide +kernel
theorem dX3_mine_44 : decode cX3_mine 44 = .ok (.invokevirtual 163, 3) := by decide +kernel
theorem dX3_mine_47 : decode cX3_mine 47 = .ok (.iconst 0, 1) := by decide +kernel
theorem dX3_mine_48 : decode cX3_mine 48 = .ok (.istore_n 2, 1) := by decide +kernel
theorem dX3_mine_49 : decode cX3_mine 49 = .ok (.iload_n 2, 1) := by decide +kernel
theorem dX3_mine_50 : decode cX3_mine 50 = .ok (.iload_n 1, 1) := by decide +kernel
theorem dX3_mine_51 : decode cX3_mine 51 = .ok (.if_icmp .ge 73, 3) := by decide +kernel
theorem dX3_mine_54 : decode cX3_mine 54 = .ok (.aload_n 0, 1) := by decide +kernel
theorem dX3_mine_55 : decode cX3_mine 55 = .ok (.getfield 153, 3) := by decide +kernel
theorem dX3_mine_58 : decode cX3_mine 58 = .ok (.ldc 159, 2) := by decide +kernel
theorem dX3_mine_60 : decode cX3_mine 60 = .ok (.if_icmp .ge 64, 3) := by decide +kernel
theorem dX3_mine_63 : decode cX3_mine 63 = .ok (.aload_n 0, 1) := by decide +kernel
theorem dX3_mine_64 : decode cX3_mine 64 = .ok (.getfield 19, 3) := by decide +kernel
theorem dX3_mine_67 : decode cX3_mine 67 = .ok (.ifCond .ge 57, 3) := by decide +kernel
theorem dX3_mine_70 : decode cX3_mine 70 = .ok (.aload_n 0, 1) := by decide +kernel
theorem dX3_mine_71 : decode cX3_mine 71 = .ok (.getfield 45, 3) := by decide +kernel
theorem dX3_mine_74 : decode cX3_mine 74 = .ok (.bipush 25, 2) := by decide +kernel
theorem dX3_mine_76 : decode cX3_mine 76 = .ok (.aload_n 0, 1) := by decide +kernel
theorem dX3_mine_77 : decode cX3_mine 77 = .ok (.getfield 153, 3) := by decide +kernel
theorem dX3_mine_80 : decode cX3_mine 80 = .ok (.iastore, 1) := by decide +kernel
theorem dX3_mine_81 : decode cX3_mine 81 = .ok (.aload_n 0, 1) := by decide +kernel
theorem dX3_mine_82 : decode cX3_mine 82 = .ok (.invokevirtual 166, 3) := by decide +kernel
theorem dX3_mine_85 : decode cX3_mine 85 = .ok (.aload_n 0, 1) := by decide +kernel
theorem dX3_mine_86 : decode cX3_mine 86 = .ok (.aload_n 0, 1) := by decide +kernel
theorem dX3_mine_87 : decode cX3_mine 87 = .ok (.invokevirtual 169, 3) := by decide +kernel
theorem dX3_mine_90 : decode cX3_mine 90 = .ok (.aload_n 0, 1) := by decide +kernel
theorem dX3_mine_91 : decode cX3_mine 91 = .ok (.getfield 48, 3) := by decide +kernel
theorem dX3_mine_94 : decode cX3_mine 94 = .ok (.if_icmp .lt 10, 3) := by decide +kernel
theorem dX3_mine_97 : decode cX3_mine 97 = .ok (.aload_n 0, 1) := by decide +kernel
theorem dX3_mine_98 : decode cX3_mine 98 = .ok (.getfield 153, 3) := by decide +kernel
theorem dX3_mine_101 : decode cX3_mine 101 = .ok (.goto 4, 3) := by decide +kernel
theorem dX3_mine_104 : decode cX3_mine 104 = .ok (.iconst (-1), 1) := by decide +kernel
theorem dX3_mine_105 : decode cX3_mine 105 = .ok (.putfield 19, 3) := by decide +kernel
theorem dX3_mine_108 : decode cX3_mine 108 = .ok (.aload_n 0, 1) := by decide +kernel
theorem dX3_mine_109 : decode cX3_mine 109 = .ok (.dup, 1) := by decide +kernel
theorem dX3_mine_110 : decode cX3_mine 110 = .ok (.getfield 153, 3) := by decide +kernel
theorem dX3_mine_113 : decode cX3_mine 113 = .ok (.iconst 1, 1) := by decide +kernel
theorem dX3_mine_114 : decode cX3_mine 114 = .ok (.iadd, 1) := by decide +kernel
theorem dX3_mine_115 : decode cX3_mine 115 = .ok (.putfield 153, 3) := by decide +kernel
theorem dX3_mine_118 : decode cX3_mine 118 = .ok (.iinc 2 1, 3) := by decide +kernel
theorem dX3_mine_121 : decode cX3_mine 121 = .ok (.goto (-72), 3) := by decide +kernel
theorem dX3_mine_124 : decode cX3_mine 124 = .ok (.aload_n 0, 1) := by decide +kernel
theorem dX3_mine_125 : decode cX3_mine 125 = .ok (.getfield 19, 3) := by decide +kernel
theorem dX3_mine_128 : decode cX3_mine 128 = .ok (.ireturn, 1) := by decide +kernel
theorem dX3_tried_0 : decode cX3_tried 0 = .ok (.aload_n 0, 1) := by decide +kernel
theorem dX3_tried_1 : decode cX3_tried 1 = .ok (.getfield 153, 3) := by decide +kernel
theorem dX3_tried_4 : decode cX3_tried 4 = .ok (.ireturn, 1) := by decide +kernel
set_option maxRecDepth 20000 in
theorem ggX3_commit_X3_draft : GoodIn wsX3_commit wsX3_draft := goodIn_r _ [12, 3, 1, 7, 13, 14, 15, 16, 17, 11, 18, 4, 19, 20, 21, 66, 67, 68, 69, 70, 71, 72, 73, 74, 75, 76, 77, 78, 79, 80, 81, 82, 83, 84] (by decide +kernel) (by decide +kernel)
set_option maxRecDepth 20000 in
theorem gX3_commit_X3_draft : GoodIn wsX3_commit (wsV RX3 160 RX3 yX3_draft wsX3_draft) := goodIn_app (goodIn_of _ (by decide +kernel)) ggX3_commit_X3_draft
set_option maxRecDepth 20000 in
theorem ggX3_commit_X3_mixFirst : GoodIn wsX3_commit wsX3_mixFirst := goodIn_r _ [25, 5, 26, 27, 3, 28, 29, 30, 31, 11, 32, 33, 34, 35, 36, 66, 67, 68, 69, 70, 71, 72, 73, 74, 75, 76, 77, 78, 79, 80, 81, 82, 83, 84] (by decide +kernel) (by decide +kernel)
set_option maxRecDepth 20000 in
theorem gX3_commit_X3_mixFirst : GoodIn wsX3_commit (wsV RX3 163 RX3 yX3_mixFirst wsX3_mixFirst) := goodIn_app (goodIn_of _ (by decide +kernel)) ggX3_commit_X3_mixFirst
set_option maxRecDepth 20000 in
theorem ggX3_commit_X3_mixSecond : GoodIn wsX3_commit wsX3_mixSecond := goodIn_r _ [40, 5, 28, 27, 3, 41, 29, 30, 31, 11, 32, 33, 34, 35, 36, 66, 67, 68, 69, 70, 71, 72, 73, 74, 75, 76, 77, 78, 79, 80, 81, 82, 83, 84] (by decide +kernel) (by decide +kernel)
set_option maxRecDepth 20000 in
theorem gX3_commit_X3_mixSecond : GoodIn wsX3_commit (wsV RX3 166 RX3 yX3_mixSecond wsX3_mixSecond) := goodIn_app (goodIn_of _ (by decide +kernel)) ggX3_commit_X3_mixSecond
set_option maxRecDepth 20000 in
theorem ggX3_commit_X3_setBits : GoodIn wsX3_commit wsX3_setBits := goodIn_r _ [45, 46, 4, 47, 48, 49, 11, 50, 51, 52, 53, 54, 55, 56, 57, 58, 59, 60, 34, 35, 36, 66, 67, 68, 69, 70, 71, 72, 73, 74, 75, 76, 77, 78, 79, 80, 81, 82, 83, 84] (by decide +kernel) (by decide +kernel)
set_option maxRecDepth 20000 in
theorem gX3_commit_X3_setBits : GoodIn wsX3_commit (wsV RX3 173 RX3 yX3_setBits wsX3_setBits) := goodIn_app (goodIn_of _ (by decide +kernel)) ggX3_commit_X3_setBits
set_option maxRecDepth 20000 in
theorem ggX3_commit_X3_forget : GoodIn wsX3_commit wsX3_forget := goodIn_r _ [64, 65, 2, 66, 67, 68, 69, 70, 71, 72, 73, 74, 75, 76, 77, 78, 79, 80, 81, 82, 83, 84] (by decide +kernel) (by decide +kernel)
set_option maxRecDepth 20000 in
theorem gX3_commit_X3_forget : GoodIn wsX3_commit (wsV RX3 156 RX3 yX3_forget wsX3_forget) := goodIn_app (goodIn_of _ (by decide +kernel)) ggX3_commit_X3_forget
theorem dX3_commit_0 : decode cX3_commit 0 = .ok (.aload_n 0, 1) := by decide +kernel
theorem dX3_commit_1 : decode cX3_commit 1 = .ok (.getfield 141, 3) := by decide +kernel
theorem dX3_commit_4 : decode cX3_commit 4 = .ok (.bipush 60, 2) := by decide +kernel
theorem dX3_commit_6 : decode cX3_commit 6 = .ok (.if_icmp .ne 6, 3) := by decide +kernel
theorem dX3_commit_9 : decode cX3_commit 9 = .ok (.bipush (-4), 2) := by decide +kernel
theorem dX3_commit_11 : decode cX3_commit 11 = .ok (.ireturn, 1) := by decide +kernel
theorem dX3_commit_12 : decode cX3_commit 12 = .ok (.aload_n 0, 1) := by decide +kernel
theorem dX3_commit_13 : decode cX3_commit 13 = .ok (.getfield 19, 3) := by decide +kernel
theorem dX3_commit_16 : decode cX3_commit 16 = .ok (.ifCond .ge 6, 3) := by decide +kernel
theorem dX3_commit_19 : decode cX3_commit 19 = .ok (.bipush (-3), 2) := by decide +kernel
theorem dX3_commit_21 : decode cX3_commit 21 = .ok (.ireturn, 1) := by decide +kernel
theorem dX3_commit_22 : decode cX3_commit 22 = .ok (.aload_n 0, 1) := by decide +kernel
theorem dX3_commit_23 : decode cX3_commit 23 = .ok (.invokevirtual 160, 3) := by decide +kernel
theorem dX3_commit_26 : decode cX3_commit 26 = .ok (.aload_n 0, 1) := by decide +kernel
theorem dX3_commit_27 : decode cX3_commit 27 = .ok (.getfield 45, 3) := by decide +kernel
theorem dX3_commit_30 : decode cX3_commit 30 = .ok (.bipush 25, 2) := by decide +kernel
theorem dX3_commit_32 : decode cX3_commit 32 = .ok (.aload_n 0, 1) := by decide +kernel
theorem dX3_commit_33 : decode cX3_commit 33 = .ok (.getfield 19, 3) := by decide +kernel
theorem dX3_commit_36 : decode cX3_commit 36 = .ok (.iastore, 1) := by decide +kernel
theorem dX3_commit_37 : decode cX3_commit 37 = .ok (.aload_n 0, 1) := by decide +kernel
theorem dX3_commit_38 : decode cX3_commit 38 = .ok (.invokevirtual 163, 3) := by decide +kernel
theorem dX3_commit_41 : decode cX3_commit 41 = .ok (.aload_n 0, 1) := by decide +kernel
theorem dX3_commit_42 : decode cX3_commit 42 = .ok (.invokevirtual 166, 3) := by decide +kernel
theorem dX3_commit_45 : decode cX3_commit 45 = .ok (.iconst 0, 1) := by decide +kernel
theorem dX3_commit_46 : decode cX3_commit 46 = .ok (.istore_n 1, 1) := by decide +kernel
theorem dX3_commit_47 : decode cX3_commit 47 = .ok (.iload_n 1, 1) := by decide +kernel
theorem dX3_commit_48 : decode cX3_commit 48 = .ok (.bipush 26, 2) := by decide +kernel
theorem dX3_commit_50 : decode cX3_commit 50 = .ok (.if_icmp .ge 29, 3) := by decide +kernel
theorem dX3_commit_53 : decode cX3_commit 53 = .ok (.aload_n 0, 1) := by decide +kernel
theorem dX3_commit_54 : decode cX3_commit 54 = .ok (.getfield 7, 3) := by decide +kernel
theorem dX3_commit_57 : decode cX3_commit 57 = .ok (.bipush 34, 2) := by decide +kernel
theorem dX3_commit_59 : decode cX3_commit 59 = .ok (.aload_n 0, 1) := by decide +kernel
theorem dX3_commit_60 : decode cX3_commit 60 = .ok (.getfield 141, 3) := by decide +kernel
theorem dX3_commit_63 : decode cX3_commit 63 = .ok (.imul, 1) := by decide +kernel
theorem dX3_commit_64 : decode cX3_commit 64 = .ok (.iload_n 1, 1) := by decide +kernel
theorem dX3_commit_65 : decode cX3_commit 65 = .ok (.iadd, 1) := by decide +kernel
theorem dX3_commit_66 : decode cX3_commit 66 = .ok (.aload_n 0, 1) := by decide +kernel
theorem dX3_commit_67 : decode cX3_commit 67 = .ok (.getfield 45, 3) := by decide +kernel
theorem dX3_commit_70 : decode cX3_commit 70 = .ok (.iload_n 1, 1) := by decide +kernel
theorem dX3_commit_71 : decode cX3_commit 71 = .ok (.iaload, 1) := by decide +kernel
theorem dX3_commit_72 : decode cX3_commit 72 = .ok (.iastore, 1) := by decide +kernel
theorem dX3_commit_73 : decode cX3_commit 73 = .ok (.iinc 1 1, 3) := by decide +kernel
theorem dX3_commit_76 : decode cX3_commit 76 = .ok (.goto (-29), 3) := by decide +kernel
theorem dX3_commit_79 : decode cX3_commit 79 = .ok (.iconst 0, 1) := by decide +kernel
theorem dX3_commit_80 : decode cX3_commit 80 = .ok (.istore_n 1, 1) := by decide +kernel
theorem dX3_commit_81 : decode cX3_commit 81 = .ok (.iload_n 1, 1) := by decide +kernel
theorem dX3_commit_82 : decode cX3_commit 82 = .ok (.bipush 8, 2) := by decide +kernel
theorem dX3_commit_84 : decode cX3_commit 84 = .ok (.if_icmp .ge 44, 3) := by decide +kernel
theorem dX3_commit_87 : decode cX3_commit 87 = .ok (.aload_n 0, 1) := by decide +kernel
theorem dX3_commit_88 : decode cX3_commit 88 = .ok (.getfield 7, 3) := by decide +kernel
theorem dX3_commit_91 : decode cX3_commit 91 = .ok (.bipush 34, 2) := by decide +kernel
theorem dX3_commit_93 : decode cX3_commit 93 = .ok (.aload_n 0, 1) := by decide +kernel
theorem dX3_commit_94 : decode cX3_commit 94 = .ok (.getfield 141, 3) := by decide +kernel
theorem dX3_commit_97 : decode cX3_commit 97 = .ok (.imul, 1) := by decide +kernel
theorem dX3_commit_98 : decode cX3_commit 98 = .ok (.bipush 26, 2) := by decide +kernel
theorem dX3_commit_100 : decode cX3_commit 100 = .ok (.iadd, 1) := by decide +kernel
theorem dX3_commit_101 : decode cX3_commit 101 = .ok (.iload_n 1, 1) := by decide +kernel
theorem dX3_commit_102 : decode cX3_commit 102 = .ok (.iadd, 1) := by decide +kernel
theorem dX3_commit_103 : decode cX3_commit 103 = .ok (.aload_n 0, 1) := by decide +kernel
theorem dX3_commit_104 : decode cX3_commit 104 = .ok (.getfield 36, 3) := by decide +kernel
theorem dX3_commit_107 : decode cX3_commit 107 = .ok (.iload_n 1, 1) := by decide +kernel
theorem dX3_commit_108 : decode cX3_commit 108 = .ok (.iaload, 1) := by decide +kernel
theorem dX3_commit_109 : decode cX3_commit 109 = .ok (.iastore, 1) := by decide +kernel
theorem dX3_commit_110 : decode cX3_commit 110 = .ok (.aload_n 0, 1) := by decide +kernel
theorem dX3_commit_111 : decode cX3_commit 111 = .ok (.getfield 13, 3) := by decide +kernel
theorem dX3_commit_114 : decode cX3_commit 114 = .ok (.iload_n 1, 1) := by decide +kernel
theorem dX3_commit_115 : decode cX3_commit 115 = .ok (.aload_n 0, 1) := by decide +kernel
theorem dX3_commit_116 : decode cX3_commit 116 = .ok (.getfield 36, 3) := by decide +kernel
theorem dX3_commit_119 : decode cX3_commit 119 = .ok (.iload_n 1, 1) := by decide +kernel
theorem dX3_commit_120 : decode cX3_commit 120 = .ok (.iaload, 1) := by decide +kernel
theorem dX3_commit_121 : decode cX3_commit 121 = .ok (.iastore, 1) := by decide +kernel
theorem dX3_commit_122 : decode cX3_commit 122 = .ok (.iinc 1 1, 3) := by decide +kernel
theorem dX3_commit_125 : decode cX3_commit 125 = .ok (.goto (-44), 3) := by decide +kernel
theorem dX3_commit_128 : decode cX3_commit 128 = .ok (.aload_n 0, 1) := by decide +kernel
theorem dX3_commit_129 : decode cX3_commit 129 = .ok (.dup, 1) := by decide +kernel
theorem dX3_commit_130 : decode cX3_commit 130 = .ok (.getfield 141, 3) := by decide +kernel
theorem dX3_commit_133 : decode cX3_commit 133 = .ok (.iconst 1, 1) := by decide +kernel
theorem dX3_commit_134 : decode cX3_commit 134 = .ok (.iadd, 1) := by decide +kernel
theorem dX3_commit_135 : decode cX3_commit 135 = .ok (.putfield 141, 3) := by decide +kernel
theorem dX3_commit_138 : decode cX3_commit 138 = .ok (.aload_n 0, 1) := by decide +kernel
theorem dX3_commit_139 : decode cX3_commit 139 = .ok (.aload_n 0, 1) := by decide +kernel
theorem dX3_commit_140 : decode cX3_commit 140 = .ok (.getfield 141, 3) := by decide +kernel
theorem dX3_commit_143 : decode cX3_commit 143 = .ok (.iconst 1, 1) := by decide +kernel
theorem dX3_commit_144 : decode cX3_commit 144 = .ok (.isub, 1) := by decide +kernel
theorem dX3_commit_145 : decode cX3_commit 145 = .ok (.invokevirtual 173, 3) := by decide +kernel
theorem dX3_commit_148 : decode cX3_commit 148 = .ok (.aload_n 0, 1) := by decide +kernel
theorem dX3_commit_149 : decode cX3_commit 149 = .ok (.iconst 0, 1) := by decide +kernel
theorem dX3_commit_150 : decode cX3_commit 150 = .ok (.putfield 150, 3) := by decide +kernel
theorem dX3_commit_153 : decode cX3_commit 153 = .ok (.aload_n 0, 1) := by decide +kernel
theorem dX3_commit_154 : decode cX3_commit 154 = .ok (.invokevirtual 156, 3) := by decide +kernel
theorem dX3_commit_157 : decode cX3_commit 157 = .ok (.aload_n 0, 1) := by decide +kernel
theorem dX3_commit_158 : decode cX3_commit 158 = .ok (.getfield 141, 3) := by decide +kernel
theorem dX3_commit_161 : decode cX3_commit 161 = .ok (.iconst 1, 1) := by decide +kernel
theorem dX3_commit_162 : decode cX3_commit 162 = .ok (.isub, 1) := by decide +kernel
theorem dX3_commit_163 : decode cX3_commit 163 = .ok (.ireturn, 1) := by decide +kernel
theorem dX3_count_0 : decode cX3_count 0 = .ok (.aload_n 0, 1) := by decide +kernel
theorem dX3_count_1 : decode cX3_count 1 = .ok (.getfield 141, 3) := by decide +kernel
theorem dX3_count_4 : decode cX3_count 4 = .ok (.ireturn, 1) := by decide +kernel
theorem dX3_head_0 : decode cX3_head 0 = .ok (.iload_n 1, 1) := by decide +kernel
theorem dX3_head_1 : decode cX3_head 1 = .ok (.ifCond .lt 18, 3) := by decide +kernel
theorem dX3_head_4 : decode cX3_head 4 = .ok (.iload_n 1, 1) := by decide +kernel
theorem dX3_head_5 : decode cX3_head 5 = .ok (.bipush 8, 2) := by decide +kernel
theorem dX3_head_7 : decode cX3_head 7 = .ok (.if_icmp .ge 12, 3) := by decide +kernel
theorem dX3_head_10 : decode cX3_head 10 = .ok (.aload_n 0, 1) := by decide +kernel
theorem dX3_head_11 : decode cX3_head 11 = .ok (.getfield 13, 3) := by decide +kernel
theorem dX3_head_14 : decode cX3_head 14 = .ok (.iload_n 1, 1) := by decide +kernel
theorem dX3_head_15 : decode cX3_head 15 = .ok (.iaload, 1) := by decide +kernel
theorem dX3_head_16 : decode cX3_head 16 = .ok (.goto 4, 3) := by decide +kernel
theorem dX3_head_19 : decode cX3_head 19 = .ok (.iconst 0, 1) := by decide +kernel
theorem dX3_head_20 : decode cX3_head 20 = .ok (.ireturn, 1) := by decide +kernel
theorem dX3_isCell_0 : decode cX3_isCell 0 = .ok (.iload_n 1, 1) := by decide +kernel
theorem dX3_isCell_1 : decode cX3_isCell 1 = .ok (.ifCond .lt 25, 3) := by decide +kernel
theorem dX3_isCell_4 : decode cX3_isCell 4 = .ok (.iload_n 1, 1) := by decide +kernel
theorem dX3_isCell_5 : decode cX3_isCell 5 = .ok (.aload_n 0, 1) := by decide +kernel
theorem dX3_isCell_6 : decode cX3_isCell 6 = .ok (.getfield 141, 3) := by decide +kernel
theorem dX3_isCell_9 : decode cX3_isCell 9 = .ok (.if_icmp .ge 17, 3) := by decide +kernel
theorem dX3_isCell_12 : decode cX3_isCell 12 = .ok (.iload_n 2, 1) := by decide +kernel
theorem dX3_isCell_13 : decode cX3_isCell 13 = .ok (.ifCond .lt 13, 3) := by decide +kernel
theorem dX3_isCell_16 : decode cX3_isCell 16 = .ok (.iload_n 2, 1) := by decide +kernel
theorem dX3_isCell_17 : decode cX3_isCell 17 = .ok (.bipush 34, 2) := by decide +kernel
theorem dX3_isCell_19 : decode cX3_isCell 19 = .ok (.if_icmp .ge 7, 3) := by decide +kernel
theorem dX3_isCell_22 : decode cX3_isCell 22 = .ok (.iconst 1, 1) := by decide +kernel
theorem dX3_isCell_23 : decode cX3_isCell 23 = .ok (.goto 4, 3) := by decide +kernel
theorem dX3_isCell_26 : decode cX3_isCell 26 = .ok (.iconst 0, 1) := by decide +kernel
theorem dX3_isCell_27 : decode cX3_isCell 27 = .ok (.ireturn, 1) := by decide +kernel
set_option maxRecDepth 20000 in
theorem ggX3_cell_X3_isCell : GoodIn wsX3_cell wsX3_isCell := goodIn_r _ [6, 7, 8, 9, 10, 11, 12, 13, 14, 15, 16, 17, 18, 19, 20, 21, 22, 23, 24, 25, 26] (by decide +kernel) (by decide +kernel)
set_option maxRecDepth 20000 in
theorem gX3_cell_X3_isCell : GoodIn wsX3_cell (wsV RX3 177 RX3 yX3_isCell wsX3_isCell) := goodIn_app (goodIn_of _ (by decide +kernel)) ggX3_cell_X3_isCell
theorem dX3_cell_0 : decode cX3_cell 0 = .ok (.aload_n 0, 1) := by decide +kernel
theorem dX3_cell_1 : decode cX3_cell 1 = .ok (.iload_n 1, 1) := by decide +kernel
theorem dX3_cell_2 : decode cX3_cell 2 = .ok (.iload_n 2, 1) := by decide +kernel
theorem dX3_cell_3 : decode cX3_cell 3 = .ok (.invokevirtual 177, 3) := by decide +kernel
theorem dX3_cell_6 : decode cX3_cell 6 = .ok (.ifCond .eq 17, 3) := by decide +kernel
theorem dX3_cell_9 : decode cX3_cell 9 = .ok (.aload_n 0, 1) := by decide +kernel
theorem dX3_cell_10 : decode cX3_cell 10 = .ok (.getfield 7, 3) := by decide +kernel
theorem dX3_cell_13 : decode cX3_cell 13 = .ok (.bipush 34, 2) := by decide +kernel
theorem dX3_cell_15 : decode cX3_cell 15 = .ok (.iload_n 1, 1) := by decide +kernel
theorem dX3_cell_16 : decode cX3_cell 16 = .ok (.imul, 1) := by decide +kernel
theorem dX3_cell_17 : decode cX3_cell 17 = .ok (.iload_n 2, 1) := by decide +kernel
theorem dX3_cell_18 : decode cX3_cell 18 = .ok (.iadd, 1) := by decide +kernel
theorem dX3_cell_19 : decode cX3_cell 19 = .ok (.iaload, 1) := by decide +kernel
theorem dX3_cell_20 : decode cX3_cell 20 = .ok (.goto 4, 3) := by decide +kernel
theorem dX3_cell_23 : decode cX3_cell 23 = .ok (.iconst 0, 1) := by decide +kernel
theorem dX3_cell_24 : decode cX3_cell 24 = .ok (.ireturn, 1) := by decide +kernel
set_option maxRecDepth 20000 in
theorem ggX3_spoil_X3_isCell : GoodIn wsX3_spoil wsX3_isCell := goodIn_r _ [6, 7, 14, 15, 16, 17, 18, 19, 20, 21, 22, 23, 24, 25, 26, 27, 28, 29, 30, 31, 32] (by decide +kernel) (by decide +kernel)
set_option maxRecDepth 20000 in
theorem gX3_spoil_X3_isCell : GoodIn wsX3_spoil (wsV RX3 177 RX3 yX3_isCell wsX3_isCell) := goodIn_app (goodIn_of _ (by decide +kernel)) ggX3_spoil_X3_isCell
set_option maxRecDepth 20000 in
theorem ggX3_spoil_X3_forget : GoodIn wsX3_spoil wsX3_forget := goodIn_r _ [11, 12, 13, 14, 15, 16, 17, 18, 19, 20, 21, 22, 23, 24, 25, 26, 27, 28, 29, 30, 31, 32] (by decide +kernel) (by decide +kernel)
set_option maxRecDepth 20000 in
theorem gX3_spoil_X3_forget : GoodIn wsX3_spoil (wsV RX3 156 RX3 yX3_forget wsX3_forget) := goodIn_app (goodIn_of _ (by decide +kernel)) ggX3_spoil_X3_forget
theorem dX3_spoil_0 : decode cX3_spoil 0 = .ok (.aload_n 0, 1) := by decide +kernel
theorem dX3_spoil_1 : decode cX3_spoil 1 = .ok (.iload_n 1, 1) := by decide +kernel
theorem dX3_spoil_2 : decode cX3_spoil 2 = .ok (.iload_n 2, 1) := by decide +kernel
theorem dX3_spoil_3 : decode cX3_spoil 3 = .ok (.invokevirtual 177, 3) := by decide +kernel
theorem dX3_spoil_6 : decode cX3_spoil 6 = .ok (.ifCond .ne 5, 3) := by decide +kernel
theorem dX3_spoil_9 : decode cX3_spoil 9 = .ok (.iconst 0, 1) := by decide +kernel
theorem dX3_spoil_10 : decode cX3_spoil 10 = .ok (.ireturn, 1) := by decide +kernel
theorem dX3_spoil_11 : decode cX3_spoil 11 = .ok (.aload_n 0, 1) := by decide +kernel
theorem dX3_spoil_12 : decode cX3_spoil 12 = .ok (.getfield 7, 3) := by decide +kernel
theorem dX3_spoil_15 : decode cX3_spoil 15 = .ok (.bipush 34, 2) := by decide +kernel
theorem dX3_spoil_17 : decode cX3_spoil 17 = .ok (.iload_n 1, 1) := by decide +kernel
theorem dX3_spoil_18 : decode cX3_spoil 18 = .ok (.imul, 1) := by decide +kernel
theorem dX3_spoil_19 : decode cX3_spoil 19 = .ok (.iload_n 2, 1) := by decide +kernel
theorem dX3_spoil_20 : decode cX3_spoil 20 = .ok (.iadd, 1) := by decide +kernel
theorem dX3_spoil_21 : decode cX3_spoil 21 = .ok (.iaload, 1) := by decide +kernel
theorem dX3_spoil_22 : decode cX3_spoil 22 = .ok (.istore 4, 2) := by decide +kernel
theorem dX3_spoil_24 : decode cX3_spoil 24 = .ok (.aload_n 0, 1) := by decide +kernel
theorem dX3_spoil_25 : decode cX3_spoil 25 = .ok (.getfield 7, 3) := by decide +kernel
theorem dX3_spoil_28 : decode cX3_spoil 28 = .ok (.bipush 34, 2) := by decide +kernel
theorem dX3_spoil_30 : decode cX3_spoil 30 = .ok (.iload_n 1, 1) := by decide +kernel
theorem dX3_spoil_31 : decode cX3_spoil 31 = .ok (.imul, 1) := by decide +kernel
theorem dX3_spoil_32 : decode cX3_spoil 32 = .ok (.iload_n 2, 1) := by decide +kernel
theorem dX3_spoil_33 : decode cX3_spoil 33 = .ok (.iadd, 1) := by decide +kernel
theorem dX3_spoil_34 : decode cX3_spoil 34 = .ok (.iload_n 3, 1) := by decide +kernel
theorem dX3_spoil_35 : decode cX3_spoil 35 = .ok (.iastore, 1) := by decide +kernel
theorem dX3_spoil_36 : decode cX3_spoil 36 = .ok (.aload_n 0, 1) := by decide +kernel
theorem dX3_spoil_37 : decode cX3_spoil 37 = .ok (.invokevirtual 156, 3) := by decide +kernel
theorem dX3_spoil_40 : decode cX3_spoil 40 = .ok (.iload 4, 2) := by decide +kernel
theorem dX3_spoil_42 : decode cX3_spoil 42 = .ok (.ireturn, 1) := by decide +kernel
set_option maxRecDepth 20000 in
theorem ggX3_drop_X3_setBits : GoodIn wsX3_drop wsX3_setBits := goodIn_r _ [10, 4, 3, 11, 12, 13, 9, 14, 15, 16, 17, 18, 19, 20, 21, 22, 23, 24, 25, 26, 27, 34, 35, 36, 37, 38, 39, 40, 41, 42, 43, 44, 45, 46, 47, 48, 49, 50, 51, 52] (by decide +kernel) (by decide +kernel)
set_option maxRecDepth 20000 in
theorem gX3_drop_X3_setBits : GoodIn wsX3_drop (wsV RX3 173 RX3 yX3_setBits wsX3_setBits) := goodIn_app (goodIn_of _ (by decide +kernel)) ggX3_drop_X3_setBits
set_option maxRecDepth 20000 in
theorem ggX3_drop_X3_forget : GoodIn wsX3_drop wsX3_forget := goodIn_r _ [31, 32, 33, 34, 35, 36, 37, 38, 39, 40, 41, 42, 43, 44, 45, 46, 47, 48, 49, 50, 51, 52] (by decide +kernel) (by decide +kernel)
set_option maxRecDepth 20000 in
theorem gX3_drop_X3_forget : GoodIn wsX3_drop (wsV RX3 156 RX3 yX3_forget wsX3_forget) := goodIn_app (goodIn_of _ (by decide +kernel)) ggX3_drop_X3_forget
theorem dX3_drop_0 : decode cX3_drop 0 = .ok (.aload_n 0, 1) := by decide +kernel
theorem dX3_drop_1 : decode cX3_drop 1 = .ok (.getfield 141, 3) := by decide +kernel
theorem dX3_drop_4 : decode cX3_drop 4 = .ok (.ifCond .ne 5, 3) := by decide +kernel
theorem dX3_drop_7 : decode cX3_drop 7 = .ok (.iconst (-1), 1) := by decide +kernel
theorem dX3_drop_8 : decode cX3_drop 8 = .ok (.ireturn, 1) := by decide +kernel
theorem dX3_drop_9 : decode cX3_drop 9 = .ok (.aload_n 0, 1) := by decide +kernel
theorem dX3_drop_10 : decode cX3_drop 10 = .ok (.dup, 1) := by decide +kernel
theorem dX3_drop_11 : decode cX3_drop 11 = .ok (.getfield 141, 3) := by decide +kernel
theorem dX3_drop_14 : decode cX3_drop 14 = .ok (.iconst 1, 1) := by decide +kernel
theorem dX3_drop_15 : decode cX3_drop 15 = .ok (.isub, 1) := by decide +kernel
theorem dX3_drop_16 : decode cX3_drop 16 = .ok (.putfield 141, 3) := by decide +kernel
theorem dX3_drop_19 : decode cX3_drop 19 = .ok (.iconst 0, 1) := by decide +kernel
theorem dX3_drop_20 : decode cX3_drop 20 = .ok (.istore_n 1, 1) := by decide +kernel
theorem dX3_drop_21 : decode cX3_drop 21 = .ok (.iload_n 1, 1) := by decide +kernel
theorem dX3_drop_22 : decode cX3_drop 22 = .ok (.bipush 8, 2) := by decide +kernel
theorem dX3_drop_24 : decode cX3_drop 24 = .ok (.if_icmp .ge 29, 3) := by decide +kernel
theorem dX3_drop_27 : decode cX3_drop 27 = .ok (.aload_n 0, 1) := by decide +kernel
theorem dX3_drop_28 : decode cX3_drop 28 = .ok (.getfield 13, 3) := by decide +kernel
theorem dX3_drop_31 : decode cX3_drop 31 = .ok (.iload_n 1, 1) := by decide +kernel
theorem dX3_drop_32 : decode cX3_drop 32 = .ok (.aload_n 0, 1) := by decide +kernel
theorem dX3_drop_33 : decode cX3_drop 33 = .ok (.getfield 7, 3) := by decide +kernel
theorem dX3_drop_36 : decode cX3_drop 36 = .ok (.bipush 34, 2) := by decide +kernel
theorem dX3_drop_38 : decode cX3_drop 38 = .ok (.aload_n 0, 1) := by decide +kernel
theorem dX3_drop_39 : decode cX3_drop 39 = .ok (.getfield 141, 3) := by decide +kernel
theorem dX3_drop_42 : decode cX3_drop 42 = .ok (.imul, 1) := by decide +kernel
theorem dX3_drop_43 : decode cX3_drop 43 = .ok (.iload_n 1, 1) := by decide +kernel
theorem dX3_drop_44 : decode cX3_drop 44 = .ok (.iadd, 1) := by decide +kernel
theorem dX3_drop_45 : decode cX3_drop 45 = .ok (.iaload, 1) := by decide +kernel
theorem dX3_drop_46 : decode cX3_drop 46 = .ok (.iastore, 1) := by decide +kernel
theorem dX3_drop_47 : decode cX3_drop 47 = .ok (.iinc 1 1, 3) := by decide +kernel
theorem dX3_drop_50 : decode cX3_drop 50 = .ok (.goto (-29), 3) := by decide +kernel
theorem dX3_drop_53 : decode cX3_drop 53 = .ok (.iconst 0, 1) := by decide +kernel
theorem dX3_drop_54 : decode cX3_drop 54 = .ok (.istore_n 1, 1) := by decide +kernel
theorem dX3_drop_55 : decode cX3_drop 55 = .ok (.iload_n 1, 1) := by decide +kernel
theorem dX3_drop_56 : decode cX3_drop 56 = .ok (.sipush 1024, 3) := by decide +kernel
theorem dX3_drop_59 : decode cX3_drop 59 = .ok (.if_icmp .ge 16, 3) := by decide +kernel
theorem dX3_drop_62 : decode cX3_drop 62 = .ok (.aload_n 0, 1) := by decide +kernel
theorem dX3_drop_63 : decode cX3_drop 63 = .ok (.getfield 23, 3) := by decide +kernel
theorem dX3_drop_66 : decode cX3_drop 66 = .ok (.iload_n 1, 1) := by decide +kernel
theorem dX3_drop_67 : decode cX3_drop 67 = .ok (.iconst 0, 1) := by decide +kernel
theorem dX3_drop_68 : decode cX3_drop 68 = .ok (.bastore, 1) := by decide +kernel
theorem dX3_drop_69 : decode cX3_drop 69 = .ok (.iinc 1 1, 3) := by decide +kernel
theorem dX3_drop_72 : decode cX3_drop 72 = .ok (.goto (-17), 3) := by decide +kernel
theorem dX3_drop_75 : decode cX3_drop 75 = .ok (.iconst 0, 1) := by decide +kernel
theorem dX3_drop_76 : decode cX3_drop 76 = .ok (.istore_n 1, 1) := by decide +kernel
theorem dX3_drop_77 : decode cX3_drop 77 = .ok (.iload_n 1, 1) := by decide +kernel
theorem dX3_drop_78 : decode cX3_drop 78 = .ok (.aload_n 0, 1) := by decide +kernel
theorem dX3_drop_79 : decode cX3_drop 79 = .ok (.getfield 141, 3) := by decide +kernel
theorem dX3_drop_82 : decode cX3_drop 82 = .ok (.if_icmp .ge 14, 3) := by decide +kernel
theorem dX3_drop_85 : decode cX3_drop 85 = .ok (.aload_n 0, 1) := by decide +kernel
theorem dX3_drop_86 : decode cX3_drop 86 = .ok (.iload_n 1, 1) := by decide +kernel
theorem dX3_drop_87 : decode cX3_drop 87 = .ok (.invokevirtual 173, 3) := by decide +kernel
theorem dX3_drop_90 : decode cX3_drop 90 = .ok (.iinc 1 1, 3) := by decide +kernel
theorem dX3_drop_93 : decode cX3_drop 93 = .ok (.goto (-16), 3) := by decide +kernel
theorem dX3_drop_96 : decode cX3_drop 96 = .ok (.aload_n 0, 1) := by decide +kernel
theorem dX3_drop_97 : decode cX3_drop 97 = .ok (.aload_n 0, 1) := by decide +kernel
theorem dX3_drop_98 : decode cX3_drop 98 = .ok (.getfield 181, 3) := by decide +kernel
theorem dX3_drop_101 : decode cX3_drop 101 = .ok (.aload_n 0, 1) := by decide +kernel
theorem dX3_drop_102 : decode cX3_drop 102 = .ok (.getfield 141, 3) := by decide +kernel
theorem dX3_drop_105 : decode cX3_drop 105 = .ok (.if_icmp .le 10, 3) := by decide +kernel
theorem dX3_drop_108 : decode cX3_drop 108 = .ok (.aload_n 0, 1) := by decide +kernel
theorem dX3_drop_109 : decode cX3_drop 109 = .ok (.getfield 141, 3) := by decide +kernel
theorem dX3_drop_112 : decode cX3_drop 112 = .ok (.goto 7, 3) := by decide +kernel
theorem dX3_drop_115 : decode cX3_drop 115 = .ok (.aload_n 0, 1) := by decide +kernel
theorem dX3_drop_116 : decode cX3_drop 116 = .ok (.getfield 181, 3) := by decide +kernel
theorem dX3_drop_119 : decode cX3_drop 119 = .ok (.putfield 181, 3) := by decide +kernel
theorem dX3_drop_122 : decode cX3_drop 122 = .ok (.aload_n 0, 1) := by decide +kernel
theorem dX3_drop_123 : decode cX3_drop 123 = .ok (.invokevirtual 156, 3) := by decide +kernel
theorem dX3_drop_126 : decode cX3_drop 126 = .ok (.aload_n 0, 1) := by decide +kernel
theorem dX3_drop_127 : decode cX3_drop 127 = .ok (.getfield 141, 3) := by decide +kernel
theorem dX3_drop_130 : decode cX3_drop 130 = .ok (.ireturn, 1) := by decide +kernel
set_option maxRecDepth 20000 in
theorem ggX3_stir_X3_turned : GoodIn wsX3_stir wsX3_turned := goodIn_r _ [9] (by decide +kernel) (by decide +kernel)
set_option maxRecDepth 20000 in
theorem gX3_stir_X3_turned : GoodIn wsX3_stir (va_wsS RX3 129 yX3_turned wsX3_turned) := goodIn_app (goodIn_of _ (by decide +kernel)) ggX3_stir_X3_turned
theorem dX3_stir_0 : decode cX3_stir 0 = .ok (.iload_n 1, 1) := by decide +kernel
theorem dX3_stir_1 : decode cX3_stir 1 = .ok (.ldc 184, 2) := by decide +kernel
theorem dX3_stir_3 : decode cX3_stir 3 = .ok (.imul, 1) := by decide +kernel
theorem dX3_stir_4 : decode cX3_stir 4 = .ok (.istore_n 3, 1) := by decide +kernel
theorem dX3_stir_5 : decode cX3_stir 5 = .ok (.iload_n 3, 1) := by decide +kernel
theorem dX3_stir_6 : decode cX3_stir 6 = .ok (.bipush 17, 2) := by decide +kernel
theorem dX3_stir_8 : decode cX3_stir 8 = .ok (.invokestatic 129, 3) := by decide +kernel
theorem dX3_stir_11 : decode cX3_stir 11 = .ok (.ldc 185, 2) := by decide +kernel
theorem dX3_stir_13 : decode cX3_stir 13 = .ok (.imul, 1) := by decide +kernel
theorem dX3_stir_14 : decode cX3_stir 14 = .ok (.istore_n 3, 1) := by decide +kernel
theorem dX3_stir_15 : decode cX3_stir 15 = .ok (.iload_n 2, 1) := by decide +kernel
theorem dX3_stir_16 : decode cX3_stir 16 = .ok (.iload_n 3, 1) := by decide +kernel
theorem dX3_stir_17 : decode cX3_stir 17 = .ok (.ixor, 1) := by decide +kernel
theorem dX3_stir_18 : decode cX3_stir 18 = .ok (.istore 4, 2) := by decide +kernel
theorem dX3_stir_20 : decode cX3_stir 20 = .ok (.iload 4, 2) := by decide +kernel
theorem dX3_stir_22 : decode cX3_stir 22 = .ok (.bipush 19, 2) := by decide +kernel
theorem dX3_stir_24 : decode cX3_stir 24 = .ok (.invokestatic 129, 3) := by decide +kernel
theorem dX3_stir_27 : decode cX3_stir 27 = .ok (.iconst 5, 1) := by decide +kernel
theorem dX3_stir_28 : decode cX3_stir 28 = .ok (.imul, 1) := by decide +kernel
theorem dX3_stir_29 : decode cX3_stir 29 = .ok (.ldc 186, 2) := by decide +kernel
theorem dX3_stir_31 : decode cX3_stir 31 = .ok (.iadd, 1) := by decide +kernel
theorem dX3_stir_32 : decode cX3_stir 32 = .ok (.istore 4, 2) := by decide +kernel
theorem dX3_stir_34 : decode cX3_stir 34 = .ok (.iload 4, 2) := by decide +kernel
theorem dX3_stir_36 : decode cX3_stir 36 = .ok (.iconst 4, 1) := by decide +kernel
theorem dX3_stir_37 : decode cX3_stir 37 = .ok (.ixor, 1) := by decide +kernel
theorem dX3_stir_38 : decode cX3_stir 38 = .ok (.istore 4, 2) := by decide +kernel
theorem dX3_stir_40 : decode cX3_stir 40 = .ok (.iload 4, 2) := by decide +kernel
theorem dX3_stir_42 : decode cX3_stir 42 = .ok (.iload 4, 2) := by decide +kernel
