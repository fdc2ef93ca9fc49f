theorem dX1_init_0 : decode cX1_init 0 = .ok (.aload_n 0, 1) := by decide +kernel
theorem dX1_init_1 : decode cX1_init 1 = .ok (.invokespecial 3, 3) := by decide +kernel
theorem dX1_init_4 : decode cX1_init 4 = .ok (.aload_n 0, 1) := by decide +kernel
theorem dX1_init_5 : decode cX1_init 5 = .ok (.bipush 8, 2) := by decide +kernel
theorem dX1_init_7 : decode cX1_init 7 = .ok (.newarray .int, 2) := by decide +kernel
theorem dX1_init_9 : decode cX1_init 9 = .ok (.putfield 9, 3) := by decide +kernel
theorem dX1_init_12 : decode cX1_init 12 = .ok (.aload_n 0, 1) := by decide +kernel
theorem dX1_init_13 : decode cX1_init 13 = .ok (.bipush 8, 2) := by decide +kernel
theorem dX1_init_15 : decode cX1_init 15 = .ok (.newarray .int, 2) := by decide +kernel
theorem dX1_init_17 : decode cX1_init 17 = .ok (.putfield 15, 3) := by decide +kernel
theorem dX1_init_20 : decode cX1_init 20 = .ok (.aload_n 0, 1) := by decide +kernel
theorem dX1_init_21 : decode cX1_init 21 = .ok (.bipush 64, 2) := by decide +kernel
theorem dX1_init_23 : decode cX1_init 23 = .ok (.newarray .int, 2) := by decide +kernel
theorem dX1_init_25 : decode cX1_init 25 = .ok (.putfield 18, 3) := by decide +kernel
theorem dX1_init_28 : decode cX1_init 28 = .ok (.return_, 1) := by decide +kernel
set_option maxRecDepth 20000 in
theorem ggX1_takeAll_X1_takeFirst : GoodIn wsX1_takeAll wsX1_takeFirst := goodIn_r _ [5, 6, 7, 8, 9, 10, 11, 12, 13, 14, 15, 4, 16, 17, 18, 19, 20, 21, 22, 23, 24, 38, 39, 40] (by decide +kernel) (by decide +kernel)
set_option maxRecDepth 20000 in
theorem gX1_takeAll_X1_takeFirst : GoodIn wsX1_takeAll (wsV RX1 21 RX1 yX1_takeFirst wsX1_takeFirst) := goodIn_app (goodIn_of _ (by decide +kernel)) ggX1_takeAll_X1_takeFirst
set_option maxRecDepth 20000 in
theorem ggX1_takeAll_X1_takeRest : GoodIn wsX1_takeAll wsX1_takeRest := goodIn_r _ [28, 7, 29, 8, 9, 10, 11, 12, 30, 31, 32, 33, 34, 35, 36, 37, 13, 14, 15, 4, 16, 17, 18, 19, 20, 21, 22, 23, 24, 38, 39, 40] (by decide +kernel) (by decide +kernel)
set_option maxRecDepth 20000 in
theorem gX1_takeAll_X1_takeRest : GoodIn wsX1_takeAll (wsV RX1 25 RX1 yX1_takeRest wsX1_takeRest) := goodIn_app (goodIn_of _ (by decide +kernel)) ggX1_takeAll_X1_takeRest
theorem dX1_takeAll_0 : decode cX1_takeAll 0 = .ok (.aload_n 0, 1) := by decide +kernel
theorem dX1_takeAll_1 : decode cX1_takeAll 1 = .ok (.aload_n 1, 1) := by decide +kernel
theorem dX1_takeAll_2 : decode cX1_takeAll 2 = .ok (.iload_n 2, 1) := by decide +kernel
theorem dX1_takeAll_3 : decode cX1_takeAll 3 = .ok (.invokevirtual 21, 3) := by decide +kernel
theorem dX1_takeAll_6 : decode cX1_takeAll 6 = .ok (.aload_n 0, 1) := by decide +kernel
theorem dX1_takeAll_7 : decode cX1_takeAll 7 = .ok (.aload_n 1, 1) := by decide +kernel
theorem dX1_takeAll_8 : decode cX1_takeAll 8 = .ok (.iload_n 2, 1) := by decide +kernel
theorem dX1_takeAll_9 : decode cX1_takeAll 9 = .ok (.invokevirtual 25, 3) := by decide +kernel
theorem dX1_takeAll_12 : decode cX1_takeAll 12 = .ok (.return_, 1) := by decide +kernel
set_option maxRecDepth 20000 in
theorem ggX1_takeFirst_X1_mixInto : GoodIn wsX1_takeFirst wsX1_mixInto := goodIn_r _ [12, 13, 7, 14, 15, 16, 11, 17, 18, 19, 20, 21, 22, 23] (by decide +kernel) (by decide +kernel)
set_option maxRecDepth 20000 in
theorem gX1_takeFirst_X1_mixInto : GoodIn wsX1_takeFirst (wsV RX1 37 RX1 yX1_mixInto wsX1_mixInto) := goodIn_app (goodIn_of _ (by decide +kernel)) ggX1_takeFirst_X1_mixInto
theorem dX1_takeFirst_0 : decode cX1_takeFirst 0 = .ok (.getstatic 28, 3) := by decide +kernel
theorem dX1_takeFirst_3 : decode cX1_takeFirst 3 = .ok (.iconst 0, 1) := by decide +kernel
theorem dX1_takeFirst_4 : decode cX1_takeFirst 4 = .ok (.aload_n 0, 1) := by decide +kernel
theorem dX1_takeFirst_5 : decode cX1_takeFirst 5 = .ok (.getfield 9, 3) := by decide +kernel
theorem dX1_takeFirst_8 : decode cX1_takeFirst 8 = .ok (.iconst 0, 1) := by decide +kernel
theorem dX1_takeFirst_9 : decode cX1_takeFirst 9 = .ok (.bipush 8, 2) := by decide +kernel
theorem dX1_takeFirst_11 : decode cX1_takeFirst 11 = .ok (.invokestatic 31, 3) := by decide +kernel
theorem dX1_takeFirst_14 : decode cX1_takeFirst 14 = .ok (.aload_n 1, 1) := by decide +kernel
theorem dX1_takeFirst_15 : decode cX1_takeFirst 15 = .ok (.iload_n 2, 1) := by decide +kernel
theorem dX1_takeFirst_16 : decode cX1_takeFirst 16 = .ok (.aload_n 0, 1) := by decide +kernel
theorem dX1_takeFirst_17 : decode cX1_takeFirst 17 = .ok (.getfield 18, 3) := by decide +kernel
theorem dX1_takeFirst_20 : decode cX1_takeFirst 20 = .ok (.iconst 0, 1) := by decide +kernel
theorem dX1_takeFirst_21 : decode cX1_takeFirst 21 = .ok (.bipush 16, 2) := by decide +kernel
theorem dX1_takeFirst_23 : decode cX1_takeFirst 23 = .ok (.invokestatic 31, 3) := by decide +kernel
theorem dX1_takeFirst_26 : decode cX1_takeFirst 26 = .ok (.aload_n 0, 1) := by decide +kernel
theorem dX1_takeFirst_27 : decode cX1_takeFirst 27 = .ok (.aload_n 0, 1) := by decide +kernel
theorem dX1_takeFirst_28 : decode cX1_takeFirst 28 = .ok (.getfield 9, 3) := by decide +kernel
theorem dX1_takeFirst_31 : decode cX1_takeFirst 31 = .ok (.invokevirtual 37, 3) := by decide +kernel
theorem dX1_takeFirst_34 : decode cX1_takeFirst 34 = .ok (.return_, 1) := by decide +kernel
set_option maxRecDepth 20000 in
theorem ggX1_takeRest_J7_fill_fda19 : GoodIn wsX1_takeRest wsJ7_fill_fda19 := goodIn_r _ [12, 13, 14, 11, 15] (by decide +kernel) (by decide +kernel)
set_option maxRecDepth 20000 in
theorem gX1_takeRest_J7_fill_fda19 : GoodIn wsX1_takeRest (va_wsS RX1 42 yJ7_fill_fda19 wsJ7_fill_fda19) := goodIn_app (goodIn_of _ (by decide +kernel)) ggX1_takeRest_J7_fill_fda19
set_option maxRecDepth 20000 in
theorem ggX1_takeRest_X1_mixInto : GoodIn wsX1_takeRest wsX1_mixInto := goodIn_r _ [20, 21, 7, 22, 23, 24, 19, 25, 26, 27, 28, 29, 30, 31] (by decide +kernel) (by decide +kernel)
set_option maxRecDepth 20000 in
theorem gX1_takeRest_X1_mixInto : GoodIn wsX1_takeRest (wsV RX1 37 RX1 yX1_mixInto wsX1_mixInto) := goodIn_app (goodIn_of _ (by decide +kernel)) ggX1_takeRest_X1_mixInto
theorem dX1_takeRest_0 : decode cX1_takeRest 0 = .ok (.bipush 10, 2) := by decide +kernel
theorem dX1_takeRest_2 : decode cX1_takeRest 2 = .ok (.istore_n 3, 1) := by decide +kernel
theorem dX1_takeRest_3 : decode cX1_takeRest 3 = .ok (.aload_n 0, 1) := by decide +kernel
theorem dX1_takeRest_4 : decode cX1_takeRest 4 = .ok (.getfield 9, 3) := by decide +kernel
theorem dX1_takeRest_7 : decode cX1_takeRest 7 = .ok (.iconst 0, 1) := by decide +kernel
theorem dX1_takeRest_8 : decode cX1_takeRest 8 = .ok (.aload_n 0, 1) := by decide +kernel
theorem dX1_takeRest_9 : decode cX1_takeRest 9 = .ok (.getfield 15, 3) := by decide +kernel
theorem dX1_takeRest_12 : decode cX1_takeRest 12 = .ok (.iconst 0, 1) := by decide +kernel
theorem dX1_takeRest_13 : decode cX1_takeRest 13 = .ok (.bipush 8, 2) := by decide +kernel
theorem dX1_takeRest_15 : decode cX1_takeRest 15 = .ok (.invokestatic 31, 3) := by decide +kernel
theorem dX1_takeRest_18 : decode cX1_takeRest 18 = .ok (.aload_n 1, 1) := by decide +kernel
theorem dX1_takeRest_19 : decode cX1_takeRest 19 = .ok (.iload_n 2, 1) := by decide +kernel
theorem dX1_takeRest_20 : decode cX1_takeRest 20 = .ok (.bipush 16, 2) := by decide +kernel
theorem dX1_takeRest_22 : decode cX1_takeRest 22 = .ok (.iadd, 1) := by decide +kernel
theorem dX1_takeRest_23 : decode cX1_takeRest 23 = .ok (.aload_n 0, 1) := by decide +kernel
theorem dX1_takeRest_24 : decode cX1_takeRest 24 = .ok (.getfield 18, 3) := by decide +kernel
theorem dX1_takeRest_27 : decode cX1_takeRest 27 = .ok (.iconst 0, 1) := by decide +kernel
theorem dX1_takeRest_28 : decode cX1_takeRest 28 = .ok (.iload_n 3, 1) := by decide +kernel
theorem dX1_takeRest_29 : decode cX1_takeRest 29 = .ok (.invokestatic 31, 3) := by decide +kernel
theorem dX1_takeRest_32 : decode cX1_takeRest 32 = .ok (.aload_n 0, 1) := by decide +kernel
theorem dX1_takeRest_33 : decode cX1_takeRest 33 = .ok (.getfield 18, 3) := by decide +kernel
theorem dX1_takeRest_36 : decode cX1_takeRest 36 = .ok (.iload_n 3, 1) := by decide +kernel
theorem dX1_takeRest_37 : decode cX1_takeRest 37 = .ok (.ldc 41, 2) := by decide +kernel
theorem dX1_takeRest_39 : decode cX1_takeRest 39 = .ok (.iastore, 1) := by decide +kernel
theorem dX1_takeRest_40 : decode cX1_takeRest 40 = .ok (.aload_n 0, 1) := by decide +kernel
theorem dX1_takeRest_41 : decode cX1_takeRest 41 = .ok (.getfield 18, 3) := by decide +kernel
theorem dX1_takeRest_44 : decode cX1_takeRest 44 = .ok (.iload_n 3, 1) := by decide +kernel
theorem dX1_takeRest_45 : decode cX1_takeRest 45 = .ok (.iconst 1, 1) := by decide +kernel
theorem dX1_takeRest_46 : decode cX1_takeRest 46 = .ok (.iadd, 1) := by decide +kernel
theorem dX1_takeRest_47 : decode cX1_takeRest 47 = .ok (.bipush 15, 2) := by decide +kernel
theorem dX1_takeRest_49 : decode cX1_takeRest 49 = .ok (.iconst 0, 1) := by decide +kernel
theorem dX1_takeRest_50 : decode cX1_takeRest 50 = .ok (.invokestatic 42, 3) := by decide +kernel
theorem dX1_takeRest_53 : decode cX1_takeRest 53 = .ok (.aload_n 0, 1) := by decide +kernel
theorem dX1_takeRest_54 : decode cX1_takeRest 54 = .ok (.getfield 18, 3) := by decide +kernel
theorem dX1_takeRest_57 : decode cX1_takeRest 57 = .ok (.bipush 15, 2) := by decide +kernel
theorem dX1_takeRest_59 : decode cX1_takeRest 59 = .ok (.sipush 832, 3) := by decide +kernel
theorem dX1_takeRest_62 : decode cX1_takeRest 62 = .ok (.iastore, 1) := by decide +kernel
theorem dX1_takeRest_63 : decode cX1_takeRest 63 = .ok (.aload_n 0, 1) := by decide +kernel
theorem dX1_takeRest_64 : decode cX1_takeRest 64 = .ok (.aload_n 0, 1) := by decide +kernel
theorem dX1_takeRest_65 : decode cX1_takeRest 65 = .ok (.getfield 15, 3) := by decide +kernel
theorem dX1_takeRest_68 : decode cX1_takeRest 68 = .ok (.invokevirtual 37, 3) := by decide +kernel
theorem dX1_takeRest_71 : decode cX1_takeRest 71 = .ok (.return_, 1) := by decide +kernel
theorem dX1_isAt_0 : decode cX1_isAt 0 = .ok (.iconst 0, 1) := by decide +kernel
theorem dX1_isAt_1 : decode cX1_isAt 1 = .ok (.istore_n 3, 1) := by decide +kernel
theorem dX1_isAt_2 : decode cX1_isAt 2 = .ok (.iload_n 3, 1) := by decide +kernel
theorem dX1_isAt_3 : decode cX1_isAt 3 = .ok (.bipush 8, 2) := by decide +kernel
theorem dX1_isAt_5 : decode cX1_isAt 5 = .ok (.if_icmp .ge 25, 3) := by decide +kernel
theorem dX1_isAt_8 : decode cX1_isAt 8 = .ok (.aload_n 1, 1) := by decide +kernel
theorem dX1_isAt_9 : decode cX1_isAt 9 = .ok (.iload_n 2, 1) := by decide +kernel
theorem dX1_isAt_10 : decode cX1_isAt 10 = .ok (.iload_n 3, 1) := by decide +kernel
theorem dX1_isAt_11 : decode cX1_isAt 11 = .ok (.iadd, 1) := by decide +kernel
theorem dX1_isAt_12 : decode cX1_isAt 12 = .ok (.iaload, 1) := by decide +kernel
theorem dX1_isAt_13 : decode cX1_isAt 13 = .ok (.aload_n 0, 1) := by decide +kernel
theorem dX1_isAt_14 : decode cX1_isAt 14 = .ok (.getfield 15, 3) := by decide +kernel
theorem dX1_isAt_17 : decode cX1_isAt 17 = .ok (.iload_n 3, 1) := by decide +kernel
theorem dX1_isAt_18 : decode cX1_isAt 18 = .ok (.iaload, 1) := by decide +kernel
theorem dX1_isAt_19 : decode cX1_isAt 19 = .ok (.if_icmp .eq 5, 3) := by decide +kernel
theorem dX1_isAt_22 : decode cX1_isAt 22 = .ok (.iconst 0, 1) := by decide +kernel
theorem dX1_isAt_23 : decode cX1_isAt 23 = .ok (.ireturn, 1) := by decide +kernel
theorem dX1_isAt_24 : decode cX1_isAt 24 = .ok (.iinc 3 1, 3) := by decide +kernel
theorem dX1_isAt_27 : decode cX1_isAt 27 = .ok (.goto (-25), 3) := by decide +kernel
theorem dX1_isAt_30 : decode cX1_isAt 30 = .ok (.iconst 1, 1) := by decide +kernel
theorem dX1_isAt_31 : decode cX1_isAt 31 = .ok (.ireturn, 1) := by decide +kernel
theorem dX1_copyTo_0 : decode cX1_copyTo 0 = .ok (.aload_n 0, 1) := by decide +kernel
theorem dX1_copyTo_1 : decode cX1_copyTo 1 = .ok (.getfield 15, 3) := by decide +kernel
theorem dX1_copyTo_4 : decode cX1_copyTo 4 = .ok (.iconst 0, 1) := by decide +kernel
theorem dX1_copyTo_5 : decode cX1_copyTo 5 = .ok (.aload_n 1, 1) := by decide +kernel
theorem dX1_copyTo_6 : decode cX1_copyTo 6 = .ok (.iload_n 2, 1) := by decide +kernel
theorem dX1_copyTo_7 : decode cX1_copyTo 7 = .ok (.bipush 8, 2) := by decide +kernel
theorem dX1_copyTo_9 : decode cX1_copyTo 9 = .ok (.invokestatic 31, 3) := by decide +kernel
theorem dX1_copyTo_12 : decode cX1_copyTo 12 = .ok (.return_, 1) := by decide +kernel
set_option maxRecDepth 20000 in
theorem ggX1_zeros_J6_numberOfLeadingZeros_0f7a4 : GoodIn wsX1_zeros wsJ6_numberOfLeadingZeros_0f7a4 := goodIn_r _ [5, 6] (by decide +kernel) (by decide +kernel)
set_option maxRecDepth 20000 in
theorem gX1_zeros_J6_numberOfLeadingZeros_0f7a4 : GoodIn wsX1_zeros (va_wsS RX1 48 yJ6_numberOfLeadingZeros_0f7a4 wsJ6_numberOfLeadingZeros_0f7a4) := goodIn_app (goodIn_of _ (by decide +kernel)) ggX1_zeros_J6_numberOfLeadingZeros_0f7a4
theorem dX1_zeros_0 : decode cX1_zeros 0 = .ok (.iconst 0, 1) := by decide +kernel
theorem dX1_zeros_1 : decode cX1_zeros 1 = .ok (.istore_n 1, 1) := by decide +kernel
theorem dX1_zeros_2 : decode cX1_zeros 2 = .ok (.iload_n 1, 1) := by decide +kernel
theorem dX1_zeros_3 : decode cX1_zeros 3 = .ok (.bipush 8, 2) := by decide +kernel
theorem dX1_zeros_5 : decode cX1_zeros 5 = .ok (.if_icmp .ge 33, 3) := by decide +kernel
theorem dX1_zeros_8 : decode cX1_zeros 8 = .ok (.aload_n 0, 1) := by decide +kernel
theorem dX1_zeros_9 : decode cX1_zeros 9 = .ok (.getfield 15, 3) := by decide +kernel
theorem dX1_zeros_12 : decode cX1_zeros 12 = .ok (.iload_n 1, 1) := by decide +kernel
theorem dX1_zeros_13 : decode cX1_zeros 13 = .ok (.iaload, 1) := by decide +kernel
theorem dX1_zeros_14 : decode cX1_zeros 14 = .ok (.ifCond .eq 18, 3) := by decide +kernel
theorem dX1_zeros_17 : decode cX1_zeros 17 = .ok (.bipush 32, 2) := by decide +kernel
theorem dX1_zeros_19 : decode cX1_zeros 19 = .ok (.iload_n 1, 1) := by decide +kernel
theorem dX1_zeros_20 : decode cX1_zeros 20 = .ok (.imul, 1) := by decide +kernel
theorem dX1_zeros_21 : decode cX1_zeros 21 = .ok (.aload_n 0, 1) := by decide +kernel
theorem dX1_zeros_22 : decode cX1_zeros 22 = .ok (.getfield 15, 3) := by decide +kernel
theorem dX1_zeros_25 : decode cX1_zeros 25 = .ok (.iload_n 1, 1) := by decide +kernel
theorem dX1_zeros_26 : decode cX1_zeros 26 = .ok (.iaload, 1) := by decide +kernel
theorem dX1_zeros_27 : decode cX1_zeros 27 = .ok (.invokestatic 48, 3) := by decide +kernel
theorem dX1_zeros_30 : decode cX1_zeros 30 = .ok (.iadd, 1) := by decide +kernel
theorem dX1_zeros_31 : decode cX1_zeros 31 = .ok (.ireturn, 1) := by decide +kernel
theorem dX1_zeros_32 : decode cX1_zeros 32 = .ok (.iinc 1 1, 3) := by decide +kernel
theorem dX1_zeros_35 : decode cX1_zeros 35 = .ok (.goto (-33), 3) := by decide +kernel
theorem dX1_zeros_38 : decode cX1_zeros 38 = .ok (.sipush 256, 3) := by decide +kernel
theorem dX1_zeros_41 : decode cX1_zeros 41 = .ok (.ireturn, 1) := by decide +kernel
set_option maxRecDepth 20000 in
theorem ggX1_mixInto_X1_spread : GoodIn wsX1_mixInto wsX1_spread := goodIn_r _ [7, 2, 8, 9, 10, 11, 12, 13] (by decide +kernel) (by decide +kernel)
set_option maxRecDepth 20000 in
theorem gX1_mixInto_X1_spread : GoodIn wsX1_mixInto (wsV RX1 54 RX1 yX1_spread wsX1_spread) := goodIn_app (goodIn_of _ (by decide +kernel)) ggX1_mixInto_X1_spread
set_option maxRecDepth 20000 in
theorem ggX1_mixInto_X2_right : GoodIn wsX1_mixInto wsX2_right := goodIn_r _ [10] (by decide +kernel) (by decide +kernel)
set_option maxRecDepth 20000 in
theorem gX1_mixInto_X2_right_n57 : GoodIn wsX1_mixInto (wsX2_right) := ggX1_mixInto_X2_right
theorem dX1_mixInto_0 : decode cX1_mixInto 0 = .ok (.aload_n 0, 1) := by decide +kernel
theorem dX1_mixInto_1 : decode cX1_mixInto 1 = .ok (.invokevirtual 54, 3) := by decide +kernel
theorem dX1_mixInto_4 : decode cX1_mixInto 4 = .ok (.aload_n 1, 1) := by decide +kernel
theorem dX1_mixInto_5 : decode cX1_mixInto 5 = .ok (.iconst 0, 1) := by decide +kernel
theorem dX1_mixInto_6 : decode cX1_mixInto 6 = .ok (.iaload, 1) := by decide +kernel
theorem dX1_mixInto_7 : decode cX1_mixInto 7 = .ok (.istore_n 2, 1) := by decide +kernel
theorem dX1_mixInto_8 : decode cX1_mixInto 8 = .ok (.aload_n 1, 1) := by decide +kernel
theorem dX1_mixInto_9 : decode cX1_mixInto 9 = .ok (.iconst 1, 1) := by decide +kernel
theorem dX1_mixInto_10 : decode cX1_mixInto 10 = .ok (.iaload, 1) := by decide +kernel
theorem dX1_mixInto_11 : decode cX1_mixInto 11 = .ok (.istore_n 3, 1) := by decide +kernel
theorem dX1_mixInto_12 : decode cX1_mixInto 12 = .ok (.aload_n 1, 1) := by decide +kernel
theorem dX1_mixInto_13 : decode cX1_mixInto 13 = .ok (.iconst 2, 1) := by decide +kernel
theorem dX1_mixInto_14 : decode cX1_mixInto 14 = .ok (.iaload, 1) := by decide +kernel
theorem dX1_mixInto_15 : decode cX1_mixInto 15 = .ok (.istore 4, 2) := by decide +kernel
theorem dX1_mixInto_17 : decode cX1_mixInto 17 = .ok (.aload_n 1, 1) := by decide +kernel
theorem dX1_mixInto_18 : decode cX1_mixInto 18 = .ok (.iconst 3, 1) := by decide +kernel
theorem dX1_mixInto_19 : decode cX1_mixInto 19 = .ok (.iaload, 1) := by decide +kernel
theorem dX1_mixInto_20 : decode cX1_mixInto 20 = .ok (.istore 5, 2) := by decide +kernel
theorem dX1_mixInto_22 : decode cX1_mixInto 22 = .ok (.aload_n 1, 1) := by decide +kernel
theorem dX1_mixInto_23 : decode cX1_mixInto 23 = .ok (.iconst 4, 1) := by decide +kernel
theorem dX1_mixInto_24 : decode cX1_mixInto 24 = .ok (.iaload, 1) := by decide +kernel
theorem dX1_mixInto_25 : decode cX1_mixInto 25 = .ok (.istore 6, 2) := by decide +kernel
theorem dX1_mixInto_27 : decode cX1_mixInto 27 = .ok (.aload_n 1, 1) := by decide +kernel
theorem dX1_mixInto_28 : decode cX1_mixInto 28 = .ok (.iconst 5, 1) := by decide +kernel
theorem dX1_mixInto_29 : decode cX1_mixInto 29 = .ok (.iaload, 1) := by decide +kernel
theorem dX1_mixInto_30 : decode cX1_mixInto 30 = .ok (.istore 7, 2) := by decide +kernel
theorem dX1_mixInto_32 : decode cX1_mixInto 32 = .ok (.aload_n 1, 1) := by decide +kernel
theorem dX1_mixInto_33 : decode cX1_mixInto 33 = .ok (.bipush 6, 2) := by decide +kernel
theorem dX1_mixInto_35 : decode cX1_mixInto 35 = .ok (.iaload, 1) := by decide +kernel
theorem dX1_mixInto_36 : decode cX1_mixInto 36 = .ok (.istore 8, 2) := by decide +kernel
theorem dX1_mixInto_38 : decode cX1_mixInto 38 = .ok (.aload_n 1, 1) := by decide +kernel
theorem dX1_mixInto_39 : decode cX1_mixInto 39 = .ok (.bipush 7, 2) := by decide +kernel
theorem dX1_mixInto_41 : decode cX1_mixInto 41 = .ok (.iaload, 1) := by decide +kernel
theorem dX1_mixInto_42 : decode cX1_mixInto 42 = .ok (.istore 9, 2) := by decide +kernel
theorem dX1_mixInto_44 : decode cX1_mixInto 44 = .ok (.iconst 0, 1) := by decide +kernel
theorem dX1_mixInto_45 : decode cX1_mixInto 45 = .ok (.istore 10, 2) := by decide +kernel
theorem dX1_mixInto_47 : decode cX1_mixInto 47 = .ok (.iload 10, 2) := by decide +kernel
theorem dX1_mixInto_49 : decode cX1_mixInto 49 = .ok (.bipush 64, 2) := by decide +kernel
theorem dX1_mixInto_51 : decode cX1_mixInto 51 = .ok (.if_icmp .ge 135, 3) := by decide +kernel
theorem dX1_mixInto_54 : decode cX1_mixInto 54 = .ok (.iload 9, 2) := by decide +kernel
theorem dX1_mixInto_56 : decode cX1_mixInto 56 = .ok (.iload 6, 2) := by decide +kernel
theorem dX1_mixInto_58 : decode cX1_mixInto 58 = .ok (.bipush 6, 2) := by decide +kernel
theorem dX1_mixInto_60 : decode cX1_mixInto 60 = .ok (.invokestatic 57, 3) := by decide +kernel
theorem dX1_mixInto_63 : decode cX1_mixInto 63 = .ok (.iload 6, 2) := by decide +kernel
theorem dX1_mixInto_65 : decode cX1_mixInto 65 = .ok (.bipush 11, 2) := by decide +kernel
theorem dX1_mixInto_67 : decode cX1_mixInto 67 = .ok (.invokestatic 57, 3) := by decide +kernel
theorem dX1_mixInto_70 : decode cX1_mixInto 70 = .ok (.ixor, 1) := by decide +kernel
theorem dX1_mixInto_71 : decode cX1_mixInto 71 = .ok (.iload 6, 2) := by decide +kernel
theorem dX1_mixInto_73 : decode cX1_mixInto 73 = .ok (.bipush 25, 2) := by decide +kernel
theorem dX1_mixInto_75 : decode cX1_mixInto 75 = .ok (.invokestatic 57, 3) := by decide +kernel
theorem dX1_mixInto_78 : decode cX1_mixInto 78 = .ok (.ixor, 1) := by decide +kernel
theorem dX1_mixInto_79 : decode cX1_mixInto 79 = .ok (.iadd, 1) := by decide +kernel
theorem dX1_mixInto_80 : decode cX1_mixInto 80 = .ok (.iload 6, 2) := by decide +kernel
theorem dX1_mixInto_82 : decode cX1_mixInto 82 = .ok (.iload 7, 2) := by decide +kernel
theorem dX1_mixInto_84 : decode cX1_mixInto 84 = .ok (.iand, 1) := by decide +kernel
theorem dX1_mixInto_85 : decode cX1_mixInto 85 = .ok (.iload 6, 2) := by decide +kernel
theorem dX1_mixInto_87 : decode cX1_mixInto 87 = .ok (.iconst (-1), 1) := by decide +kernel
theorem dX1_mixInto_88 : decode cX1_mixInto 88 = .ok (.ixor, 1) := by decide +kernel
theorem dX1_mixInto_89 : decode cX1_mixInto 89 = .ok (.iload 8, 2) := by decide +kernel
theorem dX1_mixInto_91 : decode cX1_mixInto 91 = .ok (.iand, 1) := by decide +kernel
theorem dX1_mixInto_92 : decode cX1_mixInto 92 = .ok (.ixor, 1) := by decide +kernel
theorem dX1_mixInto_93 : decode cX1_mixInto 93 = .ok (.iadd, 1) := by decide +kernel
theorem dX1_mixInto_94 : decode cX1_mixInto 94 = .ok (.getstatic 61, 3) := by decide +kernel
theorem dX1_mixInto_97 : decode cX1_mixInto 97 = .ok (.iload 10, 2) := by decide +kernel
theorem dX1_mixInto_99 : decode cX1_mixInto 99 = .ok (.iaload, 1) := by decide +kernel
theorem dX1_mixInto_100 : decode cX1_mixInto 100 = .ok (.iadd, 1) := by decide +kernel
theorem dX1_mixInto_101 : decode cX1_mixInto 101 = .ok (.aload_n 0, 1) := by decide +kernel
theorem dX1_mixInto_102 : decode cX1_mixInto 102 = .ok (.getfield 18, 3) := by decide +kernel
theorem dX1_mixInto_105 : decode cX1_mixInto 105 = .ok (.iload 10, 2) := by decide +kernel
theorem dX1_mixInto_107 : decode cX1_mixInto 107 = .ok (.iaload, 1) := by decide +kernel
theorem dX1_mixInto_108 : decode cX1_mixInto 108 = .ok (.iadd, 1) := by decide +kernel
theorem dX1_mixInto_109 : decode cX1_mixInto 109 = .ok (.istore 11, 2) := by decide +kernel
theorem dX1_mixInto_111 : decode cX1_mixInto 111 = .ok (.iload_n 2, 1) := by decide +kernel
theorem dX1_mixInto_112 : decode cX1_mixInto 112 = .ok (.iconst 2, 1) := by decide +kernel
theorem dX1_mixInto_113 : decode cX1_mixInto 113 = .ok (.invokestatic 57, 3) := by decide +kernel
theorem dX1_mixInto_116 : decode cX1_mixInto 116 = .ok (.iload_n 2, 1) := by decide +kernel
theorem dX1_mixInto_117 : decode cX1_mixInto 117 = .ok (.bipush 13, 2) := by decide +kernel
theorem dX1_mixInto_119 : decode cX1_mixInto 119 = .ok (.invokestatic 57, 3) := by decide +kernel
theorem dX1_mixInto_122 : decode cX1_mixInto 122 = .ok (.ixor, 1) := by decide +kernel
theorem dX1_mixInto_123 : decode cX1_mixInto 123 = .ok (.iload_n 2, 1) := by decide +kernel
theorem dX1_mixInto_124 : decode cX1_mixInto 124 = .ok (.bipush 22, 2) := by decide +kernel
theorem dX1_mixInto_126 : decode cX1_mixInto 126 = .ok (.invokestatic 57, 3) := by decide +kernel
theorem dX1_mixInto_129 : decode cX1_mixInto 129 = .ok (.ixor, 1) := by decide +kernel
theorem dX1_mixInto_130 : decode cX1_mixInto 130 = .ok (.iload_n 2, 1) := by decide +kernel
theorem dX1_mixInto_131 : decode cX1_mixInto 131 = .ok (.iload_n 3, 1) := by decide +kernel
theorem dX1_mixInto_132 : decode cX1_mixInto 132 = .ok (.iand, 1) := by decide +kernel
theorem dX1_mixInto_133 : decode cX1_mixInto 133 = .ok (.iload_n 2, 1) := by decide +kernel
theorem dX1_mixInto_134 : decode cX1_mixInto 134 = .ok (.iload 4, 2) := by decide +kernel
theorem dX1_mixInto_136 : decode cX1_mixInto 136 = .ok (.iand, 1) := by decide +kernel
theorem dX1_mixInto_137 : decode cX1_mixInto 137 = .ok (.ixor, 1) := by decide +kernel
theorem dX1_mixInto_138 : decode cX1_mixInto 138 = .ok (.iload_n 3, 1) := by decide +kernel
theorem dX1_mixInto_139 : decode cX1_mixInto 139 = .ok (.iload 4, 2) := by decide +kernel
theorem dX1_mixInto_141 : decode cX1_mixInto 141 = .ok (.iand, 1) := by decide +kernel
theorem dX1_mixInto_142 : decode cX1_mixInto 142 = .ok (.ixor, 1) := by decide +kernel
theorem dX1_mixInto_143 : decode cX1_mixInto 143 = .ok (.iadd, 1) := by decide +kernel
theorem dX1_mixInto_144 : decode cX1_mixInto 144 = .ok (.istore 12, 2) := by decide +kernel
theorem dX1_mixInto_146 : decode cX1_mixInto 146 = .ok (.iload 8, 2) := by decide +kernel
theorem dX1_mixInto_148 : decode cX1_mixInto 148 = .ok (.istore 9, 2) := by decide +kernel
theorem dX1_mixInto_150 : decode cX1_mixInto 150 = .ok (.iload 7, 2) := by decide +kernel
theorem dX1_mixInto_152 : decode cX1_mixInto 152 = .ok (.istore 8, 2) := by decide +kernel
theorem dX1_mixInto_154 : decode cX1_mixInto 154 = .ok (.iload 6, 2) := by decide +kernel
theorem dX1_mixInto_156 : decode cX1_mixInto 156 = .ok (.istore 7, 2) := by decide +kernel
theorem dX1_mixInto_158 : decode cX1_mixInto 158 = .ok (.iload 5, 2) := by decide +kernel
theorem dX1_mixInto_160 : decode cX1_mixInto 160 = .ok (.iload 11, 2) := by decide +kernel
theorem dX1_mixInto_162 : decode cX1_mixInto 162 = .ok (.iadd, 1) := by decide +kernel
theorem dX1_mixInto_163 : decode cX1_mixInto 163 = .ok (.istore 6, 2) := by decide +kernel
theorem dX1_mixInto_165 : decode cX1_mixInto 165 = .ok (.iload 4, 2) := by decide +kernel
theorem dX1_mixInto_167 : decode cX1_mixInto 167 = .ok (.istore 5, 2) := by decide +kernel
theorem dX1_mixInto_169 : decode cX1_mixInto 169 = .ok (.iload_n 3, 1) := by decide +kernel
theorem dX1_mixInto_170 : decode cX1_mixInto 170 = .ok (.istore 4, 2) := by decide +kernel
theorem dX1_mixInto_172 : decode cX1_mixInto 172 = .ok (.iload_n 2, 1) := by decide +kernel
theorem dX1_mixInto_173 : decode cX1_mixInto 173 = .ok (.istore_n 3, 1) := by decide +kernel
theorem dX1_mixInto_174 : decode cX1_mixInto 174 = .ok (.iload 11, 2) := by decide +kernel
theorem dX1_mixInto_176 : decode cX1_mixInto 176 = .ok (.iload 12, 2) := by decide +kernel
theorem dX1_mixInto_178 : decode cX1_mixInto 178 = .ok (.iadd, 1) := by decide +kernel
theorem dX1_mixInto_179 : decode cX1_mixInto 179 = .ok (.istore_n 2, 1) := by decide +kernel
theorem dX1_mixInto_180 : decode cX1_mixInto 180 = .ok (.iinc 10 1, 3) := by decide +kernel
theorem dX1_mixInto_183 : decode cX1_mixInto 183 = .ok (.goto (-136), 3) := by decide +kernel
theorem dX1_mixInto_186 : decode cX1_mixInto 186 = .ok (.aload_n 1, 1) := by decide +kernel
theorem dX1_mixInto_187 : decode cX1_mixInto 187 = .ok (.iconst 0, 1) := by decide +kernel
theorem dX1_mixInto_188 : decode cX1_mixInto 188 = .ok (.dup2, 1) := by decide +kernel
theorem dX1_mixInto_189 : decode cX1_mixInto 189 = .ok (.iaload, 1) := by decide +kernel
theorem dX1_mixInto_190 : decode cX1_mixInto 190 = .ok (.iload_n 2, 1) := by decide +kernel
theorem dX1_mixInto_191 : decode cX1_mixInto 191 = .ok (.iadd, 1) := by decide +kernel
theorem dX1_mixInto_192 : decode cX1_mixInto 192 = .ok (.iastore, 1) := by decide +kernel
theorem dX1_mixInto_193 : decode cX1_mixInto 193 = .ok (.aload_n 1, 1) := by decide +kernel
theorem dX1_mixInto_194 : decode cX1_mixInto 194 = .ok (.iconst 1, 1) := by decide +kernel
theorem dX1_mixInto_195 : decode cX1_mixInto 195 = .ok (.dup2, 1) := by decide +kernel
theorem dX1_mixInto_196 : decode cX1_mixInto 196 = .ok (.iaload, 1) := by decide +kernel
theorem dX1_mixInto_197 : decode cX1_mixInto 197 = .ok (.iload_n 3, 1) := by decide +kernel
theorem dX1_mixInto_198 : decode cX1_mixInto 198 = .ok (.iadd, 1) := by decide +kernel
theorem dX1_mixInto_199 : decode cX1_mixInto 199 = .ok (.iastore, 1) := by decide +kernel
theorem dX1_mixInto_200 : decode cX1_mixInto 200 = .ok (.aload_n 1, 1) := by decide +kernel
theorem dX1_mixInto_201 : decode cX1_mixInto 201 = .ok (.iconst 2, 1) := by decide +kernel
theorem dX1_mixInto_202 : decode cX1_mixInto 202 = .ok (.dup2, 1) := by decide +kernel
theorem dX1_mixInto_203 : decode cX1_mixInto 203 = .ok (.iaload, 1) := by decide +kernel
theorem dX1_mixInto_204 : decode cX1_mixInto 204 = .ok (.iload 4, 2) := by decide +kernel
theorem dX1_mixInto_206 : decode cX1_mixInto 206 = .ok (.iadd, 1) := by decide +kernel
theorem dX1_mixInto_207 : decode cX1_mixInto 207 = .ok (.iastore, 1) := by decide +kernel
theorem dX1_mixInto_208 : decode cX1_mixInto 208 = .ok (.aload_n 1, 1) := by decide +kernel
theorem dX1_mixInto_209 : decode cX1_mixInto 209 = .ok (.iconst 3, 1) := by decide +kernel
theorem dX1_mixInto_210 : decode cX1_mixInto 210 = .ok (.dup2, 1) := by decide +kernel
theorem dX1_mixInto_211 : decode cX1_mixInto 211 = .ok (.iaload, 1) := by decide +kernel
theorem dX1_mixInto_212 : decode cX1_mixInto 212 = .ok (.iload 5, 2) := by decide +kernel
theorem dX1_mixInto_214 : decode cX1_mixInto 214 = .ok (.iadd, 1) := by decide +kernel
theorem dX1_mixInto_215 : decode cX1_mixInto 215 = .ok (.iastore, 1) := by decide +kernel
theorem dX1_mixInto_216 : decode cX1_mixInto 216 = .ok (.aload_n 1, 1) := by decide +kernel
theorem dX1_mixInto_217 : decode cX1_mixInto 217 = .ok (.iconst 4, 1) := by decide +kernel
theorem dX1_mixInto_218 : decode cX1_mixInto 218 = .ok (.dup2, 1) := by decide +kernel
theorem dX1_mixInto_219 : decode cX1_mixInto 219 = .ok (.iaload, 1) := by decide +kernel
theorem dX1_mixInto_220 : decode cX1_mixInto 220 = .ok (.iload 6, 2) := by decide +kernel
theorem dX1_mixInto_222 : decode cX1_mixInto 222 = .ok (.iadd, 1) := by decide +kernel
theorem dX1_mixInto_223 : decode cX1_mixInto 223 = .ok (.iastore, 1) := by decide +kernel
theorem dX1_mixInto_224 : decode cX1_mixInto 224 = .ok (.aload_n 1, 1) := by decide +kernel
theorem dX1_mixInto_225 : decode cX1_mixInto 225 = .ok (.iconst 5, 1) := by decide +kernel
theorem dX1_mixInto_226 : decode cX1_mixInto 226 = .ok (.dup2, 1) := by decide +kernel
theorem dX1_mixInto_227 : decode cX1_mixInto 227 = .ok (.iaload, 1) := by decide +kernel
theorem dX1_mixInto_228 : decode cX1_mixInto 228 = .ok (.iload 7, 2) := by decide +kernel
theorem dX1_mixInto_230 : decode cX1_mixInto 230 = .ok (.iadd, 1) := by decide +kernel
theorem dX1_mixInto_231 : decode cX1_mixInto 231 = .ok (.iastore, 1) := by decide +kernel
theorem dX1_mixInto_232 : decode cX1_mixInto 232 = .ok (.aload_n 1, 1) := by decide +kernel
theorem dX1_mixInto_233 : decode cX1_mixInto 233 = .ok (.bipush 6, 2) := by decide +kernel
theorem dX1_mixInto_235 : decode cX1_mixInto 235 = .ok (.dup2, 1) := by decide +kernel
theorem dX1_mixInto_236 : decode cX1_mixInto 236 = .ok (.iaload, 1) := by decide +kernel
theorem dX1_mixInto_237 : decode cX1_mixInto 237 = .ok (.iload 8, 2) := by decide +kernel
theorem dX1_mixInto_239 : decode cX1_mixInto 239 = .ok (.iadd, 1) := by decide +kernel
theorem dX1_mixInto_240 : decode cX1_mixInto 240 = .ok (.iastore, 1) := by decide +kernel
theorem dX1_mixInto_241 : decode cX1_mixInto 241 = .ok (.aload_n 1, 1) := by decide +kernel
theorem dX1_mixInto_242 : decode cX1_mixInto 242 = .ok (.bipush 7, 2) := by decide +kernel
theorem dX1_mixInto_244 : decode cX1_mixInto 244 = .ok (.dup2, 1) := by decide +kernel
theorem dX1_mixInto_245 : decode cX1_mixInto 245 = .ok (.iaload, 1) := by decide +kernel
theorem dX1_mixInto_246 : decode cX1_mixInto 246 = .ok (.iload 9, 2) := by decide +kernel
theorem dX1_mixInto_248 : decode cX1_mixInto 248 = .ok (.iadd, 1) := by decide +kernel
theorem dX1_mixInto_249 : decode cX1_mixInto 249 = .ok (.iastore, 1) := by decide +kernel
theorem dX1_mixInto_250 : decode cX1_mixInto 250 = .ok (.return_, 1) := by decide +kernel
set_option maxRecDepth 20000 in
theorem ggX1_spread_X2_right : GoodIn wsX1_spread wsX2_right := goodIn_r _ [4] (by decide +kernel) (by decide +kernel)
set_option maxRecDepth 20000 in
theorem gX1_spread_X2_right_n57 : GoodIn wsX1_spread (wsX2_right) := ggX1_spread_X2_right
theorem dX1_spread_0 : decode cX1_spread 0 = .ok (.bipush 16, 2) := by decide +kernel
theorem dX1_spread_2 : decode cX1_spread 2 = .ok (.istore_n 1, 1) := by decide +kernel
theorem dX1_spread_3 : decode cX1_spread 3 = .ok (.iload_n 1, 1) := by decide +kernel
theorem dX1_spread_4 : decode cX1_spread 4 = .ok (.bipush 64, 2) := by decide +kernel
theorem dX1_spread_6 : decode cX1_spread 6 = .ok (.if_icmp .ge 90, 3) := by decide +kernel
theorem dX1_spread_9 : decode cX1_spread 9 = .ok (.aload_n 0, 1) := by decide +kernel
theorem dX1_spread_10 : decode cX1_spread 10 = .ok (.getfield 18, 3) := by decide +kernel
theorem dX1_spread_13 : decode cX1_spread 13 = .ok (.iload_n 1, 1) := by decide +kernel
theorem dX1_spread_14 : decode cX1_spread 14 = .ok (.bipush 15, 2) := by decide +kernel
theorem dX1_spread_16 : decode cX1_spread 16 = .ok (.isub, 1) := by decide +kernel
theorem dX1_spread_17 : decode cX1_spread 17 = .ok (.iaload, 1) := by decide +kernel
theorem dX1_spread_18 : decode cX1_spread 18 = .ok (.istore_n 2, 1) := by decide +kernel
theorem dX1_spread_19 : decode cX1_spread 19 = .ok (.aload_n 0, 1) := by decide +kernel
theorem dX1_spread_20 : decode cX1_spread 20 = .ok (.getfield 18, 3) := by decide +kernel
theorem dX1_spread_23 : decode cX1_spread 23 = .ok (.iload_n 1, 1) := by decide +kernel
theorem dX1_spread_24 : decode cX1_spread 24 = .ok (.iconst 2, 1) := by decide +kernel
theorem dX1_spread_25 : decode cX1_spread 25 = .ok (.isub, 1) := by decide +kernel
theorem dX1_spread_26 : decode cX1_spread 26 = .ok (.iaload, 1) := by decide +kernel
theorem dX1_spread_27 : decode cX1_spread 27 = .ok (.istore_n 3, 1) := by decide +kernel
theorem dX1_spread_28 : decode cX1_spread 28 = .ok (.aload_n 0, 1) := by decide +kernel
theorem dX1_spread_29 : decode cX1_spread 29 = .ok (.getfield 18, 3) := by decide +kernel
theorem dX1_spread_32 : decode cX1_spread 32 = .ok (.iload_n 1, 1) := by decide +kernel
theorem dX1_spread_33 : decode cX1_spread 33 = .ok (.aload_n 0, 1) := by decide +kernel
theorem dX1_spread_34 : decode cX1_spread 34 = .ok (.getfield 18, 3) := by decide +kernel
theorem dX1_spread_37 : decode cX1_spread 37 = .ok (.iload_n 1, 1) := by decide +kernel
theorem dX1_spread_38 : decode cX1_spread 38 = .ok (.bipush 16, 2) := by decide +kernel
theorem dX1_spread_40 : decode cX1_spread 40 = .ok (.isub, 1) := by decide +kernel
theorem dX1_spread_41 : decode cX1_spread 41 = .ok (.iaload, 1) := by decide +kernel
theorem dX1_spread_42 : decode cX1_spread 42 = .ok (.iload_n 2, 1) := by decide +kernel
theorem dX1_spread_43 : decode cX1_spread 43 = .ok (.bipush 7, 2) := by decide +kernel
theorem dX1_spread_45 : decode cX1_spread 45 = .ok (.invokestatic 57, 3) := by decide +kernel
theorem dX1_spread_48 : decode cX1_spread 48 = .ok (.iload_n 2, 1) := by decide +kernel
theorem dX1_spread_49 : decode cX1_spread 49 = .ok (.bipush 18, 2) := by decide +kernel
theorem dX1_spread_51 : decode cX1_spread 51 = .ok (.invokestatic 57, 3) := by decide +kernel
theorem dX1_spread_54 : decode cX1_spread 54 = .ok (.ixor, 1) := by decide +kernel
theorem dX1_spread_55 : decode cX1_spread 55 = .ok (.iload_n 2, 1) := by decide +kernel
theorem dX1_spread_56 : decode cX1_spread 56 = .ok (.iconst 3, 1) := by decide +kernel
theorem dX1_spread_57 : decode cX1_spread 57 = .ok (.iushr, 1) := by decide +kernel
theorem dX1_spread_58 : decode cX1_spread 58 = .ok (.ixor, 1) := by decide +kernel
theorem dX1_spread_59 : decode cX1_spread 59 = .ok (.iadd, 1) := by decide +kernel
theorem dX1_spread_60 : decode cX1_spread 60 = .ok (.aload_n 0, 1) := by decide +kernel
theorem dX1_spread_61 : decode cX1_spread 61 = .ok (.getfield 18, 3) := by decide +kernel
theorem dX1_spread_64 : decode cX1_spread 64 = .ok (.iload_n 1, 1) := by decide +kernel
theorem dX1_spread_65 : decode cX1_spread 65 = .ok (.bipush 7, 2) := by decide +kernel
theorem dX1_spread_67 : decode cX1_spread 67 = .ok (.isub, 1) := by decide +kernel
theorem dX1_spread_68 : decode cX1_spread 68 = .ok (.iaload, 1) := by decide +kernel
theorem dX1_spread_69 : decode cX1_spread 69 = .ok (.iadd, 1) := by decide +kernel
theorem dX1_spread_70 : decode cX1_spread 70 = .ok (.iload_n 3, 1) := by decide +kernel
theorem dX1_spread_71 : decode cX1_spread 71 = .ok (.bipush 17, 2) := by decide +kernel
theorem dX1_spread_73 : decode cX1_spread 73 = .ok (.invokestatic 57, 3) := by decide +kernel
theorem dX1_spread_76 : decode cX1_spread 76 = .ok (.iload_n 3, 1) := by decide +kernel
theorem dX1_spread_77 : decode cX1_spread 77 = .ok (.bipush 19, 2) := by decide +kernel
theorem dX1_spread_79 : decode cX1_spread 79 = .ok (.invokestatic 57, 3) := by decide +kernel
theorem dX1_spread_82 : decode cX1_spread 82 = .ok (.ixor, 1) := by decide +kernel
theorem dX1_spread_83 : decode cX1_spread 83 = .ok (.iload_n 3, 1) := by decide +kernel
theorem dX1_spread_84 : decode cX1_spread 84 = .ok (.bipush 10, 2) := by decide +kernel
theorem dX1_spread_86 : decode cX1_spread 86 = .ok (.iushr, 1) := by decide +kernel
theorem dX1_spread_87 : decode cX1_spread 87 = .ok (.ixor, 1) := by decide +kernel
theorem dX1_spread_88 : decode cX1_spread 88 = .ok (.iadd, 1) := by decide +kernel
theorem dX1_spread_89 : decode cX1_spread 89 = .ok (.iastore, 1) := by decide +kernel
theorem dX1_spread_90 : decode cX1_spread 90 = .ok (.iinc 1 1, 3) := by decide +kernel
theorem dX1_spread_93 : decode cX1_spread 93 = .ok (.goto (-90), 3) := by decide +kernel
theorem dX1_spread_96 : decode cX1_spread 96 = .ok (.return_, 1) := by decide +kernel
