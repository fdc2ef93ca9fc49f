theorem dX3_stir_44 : decode cX3_stir 44 = .ok (.bipush 16, 2) := by decide +kernel
theorem dX3_stir_46 : decode cX3_stir 46 = .ok (.iushr, 1) := by decide +kernel
theorem dX3_stir_47 : decode cX3_stir 47 = .ok (.ixor, 1) := by decide +kernel
theorem dX3_stir_48 : decode cX3_stir 48 = .ok (.ldc 187, 2) := by decide +kernel
theorem dX3_stir_50 : decode cX3_stir 50 = .ok (.imul, 1) := by decide +kernel
theorem dX3_stir_51 : decode cX3_stir 51 = .ok (.istore 4, 2) := by decide +kernel
theorem dX3_stir_53 : decode cX3_stir 53 = .ok (.iload 4, 2) := by decide +kernel
theorem dX3_stir_55 : decode cX3_stir 55 = .ok (.iload 4, 2) := by decide +kernel
theorem dX3_stir_57 : decode cX3_stir 57 = .ok (.bipush 13, 2) := by decide +kernel
theorem dX3_stir_59 : decode cX3_stir 59 = .ok (.iushr, 1) := by decide +kernel
theorem dX3_stir_60 : decode cX3_stir 60 = .ok (.ixor, 1) := by decide +kernel
theorem dX3_stir_61 : decode cX3_stir 61 = .ok (.ldc 188, 2) := by decide +kernel
theorem dX3_stir_63 : decode cX3_stir 63 = .ok (.imul, 1) := by decide +kernel
theorem dX3_stir_64 : decode cX3_stir 64 = .ok (.istore 4, 2) := by decide +kernel
theorem dX3_stir_66 : decode cX3_stir 66 = .ok (.iload 4, 2) := by decide +kernel
theorem dX3_stir_68 : decode cX3_stir 68 = .ok (.iload 4, 2) := by decide +kernel
theorem dX3_stir_70 : decode cX3_stir 70 = .ok (.bipush 16, 2) := by decide +kernel
theorem dX3_stir_72 : decode cX3_stir 72 = .ok (.iushr, 1) := by decide +kernel
theorem dX3_stir_73 : decode cX3_stir 73 = .ok (.ixor, 1) := by decide +kernel
theorem dX3_stir_74 : decode cX3_stir 74 = .ok (.ireturn, 1) := by decide +kernel
set_option maxRecDepth 20000 in
theorem ggX3_bit_X3_stir : GoodIn wsX3_bit wsX3_stir := goodIn_r _ [6, 7, 8, 9, 10, 11, 12, 13, 5, 14] (by decide +kernel) (by decide +kernel)
set_option maxRecDepth 20000 in
theorem gX3_bit_X3_stir : GoodIn wsX3_bit (wsV RX3 189 RX3 yX3_stir wsX3_stir) := goodIn_app (goodIn_of _ (by decide +kernel)) ggX3_bit_X3_stir
theorem dX3_bit_0 : decode cX3_bit 0 = .ok (.aload_n 0, 1) := by decide +kernel
theorem dX3_bit_1 : decode cX3_bit 1 = .ok (.iload_n 1, 1) := by decide +kernel
theorem dX3_bit_2 : decode cX3_bit 2 = .ok (.iconst 0, 1) := by decide +kernel
theorem dX3_bit_3 : decode cX3_bit 3 = .ok (.invokevirtual 189, 3) := by decide +kernel
theorem dX3_bit_6 : decode cX3_bit 6 = .ok (.iload_n 2, 1) := by decide +kernel
theorem dX3_bit_7 : decode cX3_bit 7 = .ok (.aload_n 0, 1) := by decide +kernel
theorem dX3_bit_8 : decode cX3_bit 8 = .ok (.iload_n 1, 1) := by decide +kernel
theorem dX3_bit_9 : decode cX3_bit 9 = .ok (.ldc 192, 2) := by decide +kernel
theorem dX3_bit_11 : decode cX3_bit 11 = .ok (.invokevirtual 189, 3) := by decide +kernel
theorem dX3_bit_14 : decode cX3_bit 14 = .ok (.imul, 1) := by decide +kernel
theorem dX3_bit_15 : decode cX3_bit 15 = .ok (.iadd, 1) := by decide +kernel
theorem dX3_bit_16 : decode cX3_bit 16 = .ok (.sipush 1023, 3) := by decide +kernel
theorem dX3_bit_19 : decode cX3_bit 19 = .ok (.iand, 1) := by decide +kernel
theorem dX3_bit_20 : decode cX3_bit 20 = .ok (.ireturn, 1) := by decide +kernel
set_option maxRecDepth 20000 in
theorem ggX3_setBits_X3_bit : GoodIn wsX3_setBits wsX3_bit := goodIn_r _ [7, 8, 9, 10, 11, 6, 12, 13, 14, 15, 16, 17, 18, 19, 20] (by decide +kernel) (by decide +kernel)
set_option maxRecDepth 20000 in
theorem gX3_setBits_X3_bit : GoodIn wsX3_setBits (wsV RX3 193 RX3 yX3_bit wsX3_bit) := goodIn_app (goodIn_of _ (by decide +kernel)) ggX3_setBits_X3_bit
theorem dX3_setBits_0 : decode cX3_setBits 0 = .ok (.bipush 16, 2) := by decide +kernel
theorem dX3_setBits_2 : decode cX3_setBits 2 = .ok (.istore_n 2, 1) := by decide +kernel
theorem dX3_setBits_3 : decode cX3_setBits 3 = .ok (.iload_n 2, 1) := by decide +kernel
theorem dX3_setBits_4 : decode cX3_setBits 4 = .ok (.bipush 24, 2) := by decide +kernel
theorem dX3_setBits_6 : decode cX3_setBits 6 = .ok (.if_icmp .ge 44, 3) := by decide +kernel
theorem dX3_setBits_9 : decode cX3_setBits 9 = .ok (.iconst 0, 1) := by decide +kernel
theorem dX3_setBits_10 : decode cX3_setBits 10 = .ok (.istore_n 3, 1) := by decide +kernel
theorem dX3_setBits_11 : decode cX3_setBits 11 = .ok (.iload_n 3, 1) := by decide +kernel
theorem dX3_setBits_12 : decode cX3_setBits 12 = .ok (.iconst 4, 1) := by decide +kernel
theorem dX3_setBits_13 : decode cX3_setBits 13 = .ok (.if_icmp .ge 31, 3) := by decide +kernel
theorem dX3_setBits_16 : decode cX3_setBits 16 = .ok (.aload_n 0, 1) := by decide +kernel
theorem dX3_setBits_17 : decode cX3_setBits 17 = .ok (.getfield 23, 3) := by decide +kernel
theorem dX3_setBits_20 : decode cX3_setBits 20 = .ok (.aload_n 0, 1) := by decide +kernel
theorem dX3_setBits_21 : decode cX3_setBits 21 = .ok (.aload_n 0, 1) := by decide +kernel
theorem dX3_setBits_22 : decode cX3_setBits 22 = .ok (.getfield 7, 3) := by decide +kernel
theorem dX3_setBits_25 : decode cX3_setBits 25 = .ok (.bipush 34, 2) := by decide +kernel
theorem dX3_setBits_27 : decode cX3_setBits 27 = .ok (.iload_n 1, 1) := by decide +kernel
theorem dX3_setBits_28 : decode cX3_setBits 28 = .ok (.imul, 1) := by decide +kernel
theorem dX3_setBits_29 : decode cX3_setBits 29 = .ok (.iload_n 2, 1) := by decide +kernel
theorem dX3_setBits_30 : decode cX3_setBits 30 = .ok (.iadd, 1) := by decide +kernel
theorem dX3_setBits_31 : decode cX3_setBits 31 = .ok (.iaload, 1) := by decide +kernel
theorem dX3_setBits_32 : decode cX3_setBits 32 = .ok (.iload_n 3, 1) := by decide +kernel
theorem dX3_setBits_33 : decode cX3_setBits 33 = .ok (.invokevirtual 193, 3) := by decide +kernel
theorem dX3_setBits_36 : decode cX3_setBits 36 = .ok (.iconst 1, 1) := by decide +kernel
theorem dX3_setBits_37 : decode cX3_setBits 37 = .ok (.bastore, 1) := by decide +kernel
theorem dX3_setBits_38 : decode cX3_setBits 38 = .ok (.iinc 3 1, 3) := by decide +kernel
theorem dX3_setBits_41 : decode cX3_setBits 41 = .ok (.goto (-30), 3) := by decide +kernel
theorem dX3_setBits_44 : decode cX3_setBits 44 = .ok (.iinc 2 1, 3) := by decide +kernel
theorem dX3_setBits_47 : decode cX3_setBits 47 = .ok (.goto (-44), 3) := by decide +kernel
theorem dX3_setBits_50 : decode cX3_setBits 50 = .ok (.return_, 1) := by decide +kernel
set_option maxRecDepth 20000 in
theorem ggX3_maybe_X3_bit : GoodIn wsX3_maybe wsX3_bit := goodIn_r _ [6, 7, 8, 9, 10, 5, 11, 12, 13, 14, 15, 16, 17, 18, 19] (by decide +kernel) (by decide +kernel)
set_option maxRecDepth 20000 in
theorem gX3_maybe_X3_bit : GoodIn wsX3_maybe (wsV RX3 193 RX3 yX3_bit wsX3_bit) := goodIn_app (goodIn_of _ (by decide +kernel)) ggX3_maybe_X3_bit
theorem dX3_maybe_0 : decode cX3_maybe 0 = .ok (.iconst 1, 1) := by decide +kernel
theorem dX3_maybe_1 : decode cX3_maybe 1 = .ok (.istore_n 2, 1) := by decide +kernel
theorem dX3_maybe_2 : decode cX3_maybe 2 = .ok (.iconst 0, 1) := by decide +kernel
theorem dX3_maybe_3 : decode cX3_maybe 3 = .ok (.istore_n 3, 1) := by decide +kernel
theorem dX3_maybe_4 : decode cX3_maybe 4 = .ok (.iload_n 3, 1) := by decide +kernel
theorem dX3_maybe_5 : decode cX3_maybe 5 = .ok (.iconst 4, 1) := by decide +kernel
theorem dX3_maybe_6 : decode cX3_maybe 6 = .ok (.if_icmp .ge 33, 3) := by decide +kernel
theorem dX3_maybe_9 : decode cX3_maybe 9 = .ok (.iload_n 2, 1) := by decide +kernel
theorem dX3_maybe_10 : decode cX3_maybe 10 = .ok (.ifCond .eq 21, 3) := by decide +kernel
theorem dX3_maybe_13 : decode cX3_maybe 13 = .ok (.aload_n 0, 1) := by decide +kernel
theorem dX3_maybe_14 : decode cX3_maybe 14 = .ok (.getfield 23, 3) := by decide +kernel
theorem dX3_maybe_17 : decode cX3_maybe 17 = .ok (.aload_n 0, 1) := by decide +kernel
theorem dX3_maybe_18 : decode cX3_maybe 18 = .ok (.iload_n 1, 1) := by decide +kernel
theorem dX3_maybe_19 : decode cX3_maybe 19 = .ok (.iload_n 3, 1) := by decide +kernel
theorem dX3_maybe_20 : decode cX3_maybe 20 = .ok (.invokevirtual 193, 3) := by decide +kernel
theorem dX3_maybe_23 : decode cX3_maybe 23 = .ok (.baload, 1) := by decide +kernel
theorem dX3_maybe_24 : decode cX3_maybe 24 = .ok (.ifCond .eq 7, 3) := by decide +kernel
theorem dX3_maybe_27 : decode cX3_maybe 27 = .ok (.iconst 1, 1) := by decide +kernel
theorem dX3_maybe_28 : decode cX3_maybe 28 = .ok (.goto 4, 3) := by decide +kernel
theorem dX3_maybe_31 : decode cX3_maybe 31 = .ok (.iconst 0, 1) := by decide +kernel
theorem dX3_maybe_32 : decode cX3_maybe 32 = .ok (.istore_n 2, 1) := by decide +kernel
theorem dX3_maybe_33 : decode cX3_maybe 33 = .ok (.iinc 3 1, 3) := by decide +kernel
theorem dX3_maybe_36 : decode cX3_maybe 36 = .ok (.goto (-32), 3) := by decide +kernel
theorem dX3_maybe_39 : decode cX3_maybe 39 = .ok (.iload_n 2, 1) := by decide +kernel
theorem dX3_maybe_40 : decode cX3_maybe 40 = .ok (.ireturn, 1) := by decide +kernel
set_option maxRecDepth 20000 in
theorem ggX3_may_X3_maybe : GoodIn wsX3_may wsX3_maybe := goodIn_r _ [5, 6, 7, 8, 9, 4, 10, 11, 12, 13, 14, 15, 16, 17, 18, 19, 20, 21, 22, 23, 24, 25, 26, 27, 28, 29, 30, 31, 32, 33, 34, 35, 36, 37, 38, 39, 40, 41, 42] (by decide +kernel) (by decide +kernel)
set_option maxRecDepth 20000 in
theorem gX3_may_X3_maybe : GoodIn wsX3_may (wsV RX3 196 RX3 yX3_maybe wsX3_maybe) := goodIn_app (goodIn_of _ (by decide +kernel)) ggX3_may_X3_maybe
theorem dX3_may_0 : decode cX3_may 0 = .ok (.aload_n 0, 1) := by decide +kernel
theorem dX3_may_1 : decode cX3_may 1 = .ok (.iload_n 1, 1) := by decide +kernel
theorem dX3_may_2 : decode cX3_may 2 = .ok (.invokevirtual 196, 3) := by decide +kernel
theorem dX3_may_5 : decode cX3_may 5 = .ok (.ifCond .eq 7, 3) := by decide +kernel
theorem dX3_may_8 : decode cX3_may 8 = .ok (.iconst 1, 1) := by decide +kernel
theorem dX3_may_9 : decode cX3_may 9 = .ok (.goto 4, 3) := by decide +kernel
theorem dX3_may_12 : decode cX3_may 12 = .ok (.iconst 0, 1) := by decide +kernel
theorem dX3_may_13 : decode cX3_may 13 = .ok (.ireturn, 1) := by decide +kernel
set_option maxRecDepth 20000 in
theorem ggX3_find_X3_maybe : GoodIn wsX3_find wsX3_maybe := goodIn_r _ [7, 8, 9, 10, 11, 6, 12, 13, 14, 15, 16, 17, 18, 19, 20, 21, 22, 23, 24, 25, 26, 27, 28, 29, 30, 31, 32, 33, 34, 35, 36, 37, 38, 39, 40, 41, 42, 43, 44] (by decide +kernel) (by decide +kernel)
set_option maxRecDepth 20000 in
theorem gX3_find_X3_maybe : GoodIn wsX3_find (wsV RX3 196 RX3 yX3_maybe wsX3_maybe) := goodIn_app (goodIn_of _ (by decide +kernel)) ggX3_find_X3_maybe
theorem dX3_find_0 : decode cX3_find 0 = .ok (.aload_n 0, 1) := by decide +kernel
theorem dX3_find_1 : decode cX3_find 1 = .ok (.iload_n 1, 1) := by decide +kernel
theorem dX3_find_2 : decode cX3_find 2 = .ok (.invokevirtual 196, 3) := by decide +kernel
theorem dX3_find_5 : decode cX3_find 5 = .ok (.ifCond .ne 5, 3) := by decide +kernel
theorem dX3_find_8 : decode cX3_find 8 = .ok (.iconst (-1), 1) := by decide +kernel
theorem dX3_find_9 : decode cX3_find 9 = .ok (.ireturn, 1) := by decide +kernel
theorem dX3_find_10 : decode cX3_find 10 = .ok (.iconst 0, 1) := by decide +kernel
theorem dX3_find_11 : decode cX3_find 11 = .ok (.istore_n 2, 1) := by decide +kernel
theorem dX3_find_12 : decode cX3_find 12 = .ok (.iload_n 2, 1) := by decide +kernel
theorem dX3_find_13 : decode cX3_find 13 = .ok (.aload_n 0, 1) := by decide +kernel
theorem dX3_find_14 : decode cX3_find 14 = .ok (.getfield 141, 3) := by decide +kernel
theorem dX3_find_17 : decode cX3_find 17 = .ok (.if_icmp .ge 41, 3) := by decide +kernel
theorem dX3_find_20 : decode cX3_find 20 = .ok (.bipush 16, 2) := by decide +kernel
theorem dX3_find_22 : decode cX3_find 22 = .ok (.istore_n 3, 1) := by decide +kernel
theorem dX3_find_23 : decode cX3_find 23 = .ok (.iload_n 3, 1) := by decide +kernel
theorem dX3_find_24 : decode cX3_find 24 = .ok (.bipush 24, 2) := by decide +kernel
theorem dX3_find_26 : decode cX3_find 26 = .ok (.if_icmp .ge 26, 3) := by decide +kernel
theorem dX3_find_29 : decode cX3_find 29 = .ok (.aload_n 0, 1) := by decide +kernel
theorem dX3_find_30 : decode cX3_find 30 = .ok (.getfield 7, 3) := by decide +kernel
theorem dX3_find_33 : decode cX3_find 33 = .ok (.bipush 34, 2) := by decide +kernel
theorem dX3_find_35 : decode cX3_find 35 = .ok (.iload_n 2, 1) := by decide +kernel
theorem dX3_find_36 : decode cX3_find 36 = .ok (.imul, 1) := by decide +kernel
theorem dX3_find_37 : decode cX3_find 37 = .ok (.iload_n 3, 1) := by decide +kernel
theorem dX3_find_38 : decode cX3_find 38 = .ok (.iadd, 1) := by decide +kernel
theorem dX3_find_39 : decode cX3_find 39 = .ok (.iaload, 1) := by decide +kernel
theorem dX3_find_40 : decode cX3_find 40 = .ok (.iload_n 1, 1) := by decide +kernel
theorem dX3_find_41 : decode cX3_find 41 = .ok (.if_icmp .ne 5, 3) := by decide +kernel
theorem dX3_find_44 : decode cX3_find 44 = .ok (.iload_n 2, 1) := by decide +kernel
theorem dX3_find_45 : decode cX3_find 45 = .ok (.ireturn, 1) := by decide +kernel
theorem dX3_find_46 : decode cX3_find 46 = .ok (.iinc 3 1, 3) := by decide +kernel
theorem dX3_find_49 : decode cX3_find 49 = .ok (.goto (-26), 3) := by decide +kernel
theorem dX3_find_52 : decode cX3_find 52 = .ok (.iinc 2 1, 3) := by decide +kernel
theorem dX3_find_55 : decode cX3_find 55 = .ok (.goto (-43), 3) := by decide +kernel
theorem dX3_find_58 : decode cX3_find 58 = .ok (.iconst (-1), 1) := by decide +kernel
theorem dX3_find_59 : decode cX3_find 59 = .ok (.ireturn, 1) := by decide +kernel
theorem dX3_begin_0 : decode cX3_begin 0 = .ok (.aload_n 0, 1) := by decide +kernel
theorem dX3_begin_1 : decode cX3_begin 1 = .ok (.getfield 181, 3) := by decide +kernel
theorem dX3_begin_4 : decode cX3_begin 4 = .ok (.istore_n 1, 1) := by decide +kernel
theorem dX3_begin_5 : decode cX3_begin 5 = .ok (.aload_n 0, 1) := by decide +kernel
theorem dX3_begin_6 : decode cX3_begin 6 = .ok (.iconst 0, 1) := by decide +kernel
theorem dX3_begin_7 : decode cX3_begin 7 = .ok (.putfield 181, 3) := by decide +kernel
theorem dX3_begin_10 : decode cX3_begin 10 = .ok (.iload_n 1, 1) := by decide +kernel
theorem dX3_begin_11 : decode cX3_begin 11 = .ok (.ireturn, 1) := by decide +kernel
set_option maxRecDepth 20000 in
theorem ggX3_isHashOf_X3_hashCell : GoodIn wsX3_isHashOf wsX3_hashCell := goodIn_r _ [6, 1, 7, 8, 9, 10, 11, 12, 13, 14, 15, 16, 17, 18, 19, 20, 21, 22, 23, 24, 25] (by decide +kernel) (by decide +kernel)
set_option maxRecDepth 20000 in
theorem gX3_isHashOf_X3_hashCell : GoodIn wsX3_isHashOf (wsV RX3 144 RX3 yX3_hashCell wsX3_hashCell) := goodIn_app (goodIn_of _ (by decide +kernel)) ggX3_isHashOf_X3_hashCell
theorem dX3_isHashOf_0 : decode cX3_isHashOf 0 = .ok (.iconst 1, 1) := by decide +kernel
theorem dX3_isHashOf_1 : decode cX3_isHashOf 1 = .ok (.istore_n 3, 1) := by decide +kernel
theorem dX3_isHashOf_2 : decode cX3_isHashOf 2 = .ok (.iconst 0, 1) := by decide +kernel
theorem dX3_isHashOf_3 : decode cX3_isHashOf 3 = .ok (.istore 4, 2) := by decide +kernel
theorem dX3_isHashOf_5 : decode cX3_isHashOf 5 = .ok (.iload 4, 2) := by decide +kernel
theorem dX3_isHashOf_7 : decode cX3_isHashOf 7 = .ok (.bipush 8, 2) := by decide +kernel
theorem dX3_isHashOf_9 : decode cX3_isHashOf 9 = .ok (.if_icmp .ge 46, 3) := by decide +kernel
theorem dX3_isHashOf_12 : decode cX3_isHashOf 12 = .ok (.iload_n 3, 1) := by decide +kernel
theorem dX3_isHashOf_13 : decode cX3_isHashOf 13 = .ok (.ifCond .eq 34, 3) := by decide +kernel
theorem dX3_isHashOf_16 : decode cX3_isHashOf 16 = .ok (.aload_n 0, 1) := by decide +kernel
theorem dX3_isHashOf_17 : decode cX3_isHashOf 17 = .ok (.getfield 7, 3) := by decide +kernel
theorem dX3_isHashOf_20 : decode cX3_isHashOf 20 = .ok (.iload_n 1, 1) := by decide +kernel
theorem dX3_isHashOf_21 : decode cX3_isHashOf 21 = .ok (.iload 4, 2) := by decide +kernel
theorem dX3_isHashOf_23 : decode cX3_isHashOf 23 = .ok (.iadd, 1) := by decide +kernel
theorem dX3_isHashOf_24 : decode cX3_isHashOf 24 = .ok (.iaload, 1) := by decide +kernel
theorem dX3_isHashOf_25 : decode cX3_isHashOf 25 = .ok (.iload_n 2, 1) := by decide +kernel
theorem dX3_isHashOf_26 : decode cX3_isHashOf 26 = .ok (.ifCond .ge 7, 3) := by decide +kernel
theorem dX3_isHashOf_29 : decode cX3_isHashOf 29 = .ok (.iconst 0, 1) := by decide +kernel
theorem dX3_isHashOf_30 : decode cX3_isHashOf 30 = .ok (.goto 10, 3) := by decide +kernel
theorem dX3_isHashOf_33 : decode cX3_isHashOf 33 = .ok (.aload_n 0, 1) := by decide +kernel
theorem dX3_isHashOf_34 : decode cX3_isHashOf 34 = .ok (.iload_n 2, 1) := by decide +kernel
theorem dX3_isHashOf_35 : decode cX3_isHashOf 35 = .ok (.iload 4, 2) := by decide +kernel
theorem dX3_isHashOf_37 : decode cX3_isHashOf 37 = .ok (.invokevirtual 144, 3) := by decide +kernel
theorem dX3_isHashOf_40 : decode cX3_isHashOf 40 = .ok (.if_icmp .ne 7, 3) := by decide +kernel
theorem dX3_isHashOf_43 : decode cX3_isHashOf 43 = .ok (.iconst 1, 1) := by decide +kernel
theorem dX3_isHashOf_44 : decode cX3_isHashOf 44 = .ok (.goto 4, 3) := by decide +kernel
theorem dX3_isHashOf_47 : decode cX3_isHashOf 47 = .ok (.iconst 0, 1) := by decide +kernel
theorem dX3_isHashOf_48 : decode cX3_isHashOf 48 = .ok (.istore_n 3, 1) := by decide +kernel
theorem dX3_isHashOf_49 : decode cX3_isHashOf 49 = .ok (.iinc 4 1, 3) := by decide +kernel
theorem dX3_isHashOf_52 : decode cX3_isHashOf 52 = .ok (.goto (-47), 3) := by decide +kernel
theorem dX3_isHashOf_55 : decode cX3_isHashOf 55 = .ok (.iload_n 3, 1) := by decide +kernel
theorem dX3_isHashOf_56 : decode cX3_isHashOf 56 = .ok (.ireturn, 1) := by decide +kernel
set_option maxRecDepth 20000 in
theorem ggX3_faultOf_X3_isHashOf : GoodIn wsX3_faultOf wsX3_isHashOf := goodIn_r _ [8, 2, 9, 10, 11, 7, 12, 43, 44, 45, 46, 47, 48, 49, 50, 51, 52, 53, 54, 55, 56, 57, 58, 59, 60, 61] (by decide +kernel) (by decide +kernel)
set_option maxRecDepth 20000 in
theorem gX3_faultOf_X3_isHashOf : GoodIn wsX3_faultOf (wsV RX3 200 RX3 yX3_isHashOf wsX3_isHashOf) := goodIn_app (goodIn_of _ (by decide +kernel)) ggX3_faultOf_X3_isHashOf
set_option maxRecDepth 20000 in
theorem ggX3_faultOf_X3_lowest : GoodIn wsX3_faultOf wsX3_lowest := goodIn_r _ [15] (by decide +kernel) (by decide +kernel)
set_option maxRecDepth 20000 in
theorem gX3_faultOf_X3_lowest : GoodIn wsX3_faultOf (va_wsS RX3 147 yX3_lowest wsX3_lowest) := goodIn_app (goodIn_of _ (by decide +kernel)) ggX3_faultOf_X3_lowest
set_option maxRecDepth 20000 in
theorem ggX3_faultOf_X3_mixFirst : GoodIn wsX3_faultOf wsX3_mixFirst := goodIn_r _ [19, 3, 20, 21, 1, 22, 23, 24, 25, 7, 26, 27, 28, 29, 30, 43, 44, 45, 46, 47, 48, 49, 50, 51, 52, 53, 54, 55, 56, 57, 58, 59, 60, 61] (by decide +kernel) (by decide +kernel)
set_option maxRecDepth 20000 in
theorem gX3_faultOf_X3_mixFirst : GoodIn wsX3_faultOf (wsV RX3 163 RX3 yX3_mixFirst wsX3_mixFirst) := goodIn_app (goodIn_of _ (by decide +kernel)) ggX3_faultOf_X3_mixFirst
set_option maxRecDepth 20000 in
theorem ggX3_faultOf_X3_mixSecond : GoodIn wsX3_faultOf wsX3_mixSecond := goodIn_r _ [34, 3, 22, 21, 1, 35, 23, 24, 25, 7, 26, 27, 28, 29, 30, 43, 44, 45, 46, 47, 48, 49, 50, 51, 52, 53, 54, 55, 56, 57, 58, 59, 60, 61] (by decide +kernel) (by decide +kernel)
set_option maxRecDepth 20000 in
theorem gX3_faultOf_X3_mixSecond : GoodIn wsX3_faultOf (wsV RX3 166 RX3 yX3_mixSecond wsX3_mixSecond) := goodIn_app (goodIn_of _ (by decide +kernel)) ggX3_faultOf_X3_mixSecond
set_option maxRecDepth 20000 in
theorem ggX3_faultOf_X3_hashCell : GoodIn wsX3_faultOf wsX3_hashCell := goodIn_r _ [12, 2, 43, 44, 45, 46, 47, 48, 49, 50, 51, 52, 53, 54, 55, 56, 57, 58, 59, 60, 61] (by decide +kernel) (by decide +kernel)
set_option maxRecDepth 20000 in
theorem gX3_faultOf_X3_hashCell : GoodIn wsX3_faultOf (wsV RX3 144 RX3 yX3_hashCell wsX3_hashCell) := goodIn_app (goodIn_of _ (by decide +kernel)) ggX3_faultOf_X3_hashCell
set_option maxRecDepth 20000 in
theorem ggX3_faultOf_X3_zeros : GoodIn wsX3_faultOf wsX3_zeros := goodIn_r _ [39, 3, 40, 41, 7, 42, 43, 44, 45, 46, 47, 48, 49, 50, 51, 52, 53, 54, 55, 56, 57, 58, 59, 60, 61] (by decide +kernel) (by decide +kernel)
set_option maxRecDepth 20000 in
theorem gX3_faultOf_X3_zeros : GoodIn wsX3_faultOf (wsV RX3 169 RX3 yX3_zeros wsX3_zeros) := goodIn_app (goodIn_of _ (by decide +kernel)) ggX3_faultOf_X3_zeros
theorem dX3_faultOf_0 : decode cX3_faultOf 0 = .ok (.aload_n 0, 1) := by decide +kernel
theorem dX3_faultOf_1 : decode cX3_faultOf 1 = .ok (.bipush 34, 2) := by decide +kernel
theorem dX3_faultOf_3 : decode cX3_faultOf 3 = .ok (.iload_n 1, 1) := by decide +kernel
theorem dX3_faultOf_4 : decode cX3_faultOf 4 = .ok (.imul, 1) := by decide +kernel
theorem dX3_faultOf_5 : decode cX3_faultOf 5 = .ok (.iload_n 1, 1) := by decide +kernel
theorem dX3_faultOf_6 : decode cX3_faultOf 6 = .ok (.iconst 1, 1) := by decide +kernel
theorem dX3_faultOf_7 : decode cX3_faultOf 7 = .ok (.isub, 1) := by decide +kernel
theorem dX3_faultOf_8 : decode cX3_faultOf 8 = .ok (.invokevirtual 200, 3) := by decide +kernel
theorem dX3_faultOf_11 : decode cX3_faultOf 11 = .ok (.ifCond .ne 5, 3) := by decide +kernel
theorem dX3_faultOf_14 : decode cX3_faultOf 14 = .ok (.iconst 1, 1) := by decide +kernel
theorem dX3_faultOf_15 : decode cX3_faultOf 15 = .ok (.ireturn, 1) := by decide +kernel
theorem dX3_faultOf_16 : decode cX3_faultOf 16 = .ok (.aload_n 0, 1) := by decide +kernel
theorem dX3_faultOf_17 : decode cX3_faultOf 17 = .ok (.bipush 34, 2) := by decide +kernel
theorem dX3_faultOf_19 : decode cX3_faultOf 19 = .ok (.iload_n 1, 1) := by decide +kernel
theorem dX3_faultOf_20 : decode cX3_faultOf 20 = .ok (.imul, 1) := by decide +kernel
theorem dX3_faultOf_21 : decode cX3_faultOf 21 = .ok (.bipush 8, 2) := by decide +kernel
theorem dX3_faultOf_23 : decode cX3_faultOf 23 = .ok (.iadd, 1) := by decide +kernel
theorem dX3_faultOf_24 : decode cX3_faultOf 24 = .ok (.iload_n 1, 1) := by decide +kernel
theorem dX3_faultOf_25 : decode cX3_faultOf 25 = .ok (.ifCond .ne 7, 3) := by decide +kernel
theorem dX3_faultOf_28 : decode cX3_faultOf 28 = .ok (.iconst (-1), 1) := by decide +kernel
theorem dX3_faultOf_29 : decode cX3_faultOf 29 = .ok (.goto 9, 3) := by decide +kernel
theorem dX3_faultOf_32 : decode cX3_faultOf 32 = .ok (.iload_n 1, 1) := by decide +kernel
theorem dX3_faultOf_33 : decode cX3_faultOf 33 = .ok (.iload_n 1, 1) := by decide +kernel
theorem dX3_faultOf_34 : decode cX3_faultOf 34 = .ok (.invokestatic 147, 3) := by decide +kernel
theorem dX3_faultOf_37 : decode cX3_faultOf 37 = .ok (.isub, 1) := by decide +kernel
theorem dX3_faultOf_38 : decode cX3_faultOf 38 = .ok (.invokevirtual 200, 3) := by decide +kernel
theorem dX3_faultOf_41 : decode cX3_faultOf 41 = .ok (.ifCond .ne 5, 3) := by decide +kernel
theorem dX3_faultOf_44 : decode cX3_faultOf 44 = .ok (.iconst 2, 1) := by decide +kernel
theorem dX3_faultOf_45 : decode cX3_faultOf 45 = .ok (.ireturn, 1) := by decide +kernel
theorem dX3_faultOf_46 : decode cX3_faultOf 46 = .ok (.iconst 0, 1) := by decide +kernel
theorem dX3_faultOf_47 : decode cX3_faultOf 47 = .ok (.istore_n 2, 1) := by decide +kernel
theorem dX3_faultOf_48 : decode cX3_faultOf 48 = .ok (.iload_n 2, 1) := by decide +kernel
theorem dX3_faultOf_49 : decode cX3_faultOf 49 = .ok (.bipush 26, 2) := by decide +kernel
theorem dX3_faultOf_51 : decode cX3_faultOf 51 = .ok (.if_icmp .ge 26, 3) := by decide +kernel
theorem dX3_faultOf_54 : decode cX3_faultOf 54 = .ok (.aload_n 0, 1) := by decide +kernel
theorem dX3_faultOf_55 : decode cX3_faultOf 55 = .ok (.getfield 45, 3) := by decide +kernel
theorem dX3_faultOf_58 : decode cX3_faultOf 58 = .ok (.iload_n 2, 1) := by decide +kernel
theorem dX3_faultOf_59 : decode cX3_faultOf 59 = .ok (.aload_n 0, 1) := by decide +kernel
theorem dX3_faultOf_60 : decode cX3_faultOf 60 = .ok (.getfield 7, 3) := by decide +kernel
theorem dX3_faultOf_63 : decode cX3_faultOf 63 = .ok (.bipush 34, 2) := by decide +kernel
theorem dX3_faultOf_65 : decode cX3_faultOf 65 = .ok (.iload_n 1, 1) := by decide +kernel
theorem dX3_faultOf_66 : decode cX3_faultOf 66 = .ok (.imul, 1) := by decide +kernel
theorem dX3_faultOf_67 : decode cX3_faultOf 67 = .ok (.iload_n 2, 1) := by decide +kernel
theorem dX3_faultOf_68 : decode cX3_faultOf 68 = .ok (.iadd, 1) := by decide +kernel
theorem dX3_faultOf_69 : decode cX3_faultOf 69 = .ok (.iaload, 1) := by decide +kernel
theorem dX3_faultOf_70 : decode cX3_faultOf 70 = .ok (.iastore, 1) := by decide +kernel
theorem dX3_faultOf_71 : decode cX3_faultOf 71 = .ok (.iinc 2 1, 3) := by decide +kernel
theorem dX3_faultOf_74 : decode cX3_faultOf 74 = .ok (.goto (-26), 3) := by decide +kernel
theorem dX3_faultOf_77 : decode cX3_faultOf 77 = .ok (.aload_n 0, 1) := by decide +kernel
theorem dX3_faultOf_78 : decode cX3_faultOf 78 = .ok (.invokevirtual 163, 3) := by decide +kernel
theorem dX3_faultOf_81 : decode cX3_faultOf 81 = .ok (.aload_n 0, 1) := by decide +kernel
theorem dX3_faultOf_82 : decode cX3_faultOf 82 = .ok (.invokevirtual 166, 3) := by decide +kernel
theorem dX3_faultOf_85 : decode cX3_faultOf 85 = .ok (.iconst 0, 1) := by decide +kernel
theorem dX3_faultOf_86 : decode cX3_faultOf 86 = .ok (.istore_n 2, 1) := by decide +kernel
theorem dX3_faultOf_87 : decode cX3_faultOf 87 = .ok (.iload_n 2, 1) := by decide +kernel
theorem dX3_faultOf_88 : decode cX3_faultOf 88 = .ok (.bipush 8, 2) := by decide +kernel
theorem dX3_faultOf_90 : decode cX3_faultOf 90 = .ok (.if_icmp .ge 26, 3) := by decide +kernel
theorem dX3_faultOf_93 : decode cX3_faultOf 93 = .ok (.aload_n 0, 1) := by decide +kernel
theorem dX3_faultOf_94 : decode cX3_faultOf 94 = .ok (.getfield 36, 3) := by decide +kernel
theorem dX3_faultOf_97 : decode cX3_faultOf 97 = .ok (.iload_n 2, 1) := by decide +kernel
theorem dX3_faultOf_98 : decode cX3_faultOf 98 = .ok (.iaload, 1) := by decide +kernel
theorem dX3_faultOf_99 : decode cX3_faultOf 99 = .ok (.aload_n 0, 1) := by decide +kernel
theorem dX3_faultOf_100 : decode cX3_faultOf 100 = .ok (.iload_n 1, 1) := by decide +kernel
theorem dX3_faultOf_101 : decode cX3_faultOf 101 = .ok (.iload_n 2, 1) := by decide +kernel
theorem dX3_faultOf_102 : decode cX3_faultOf 102 = .ok (.invokevirtual 144, 3) := by decide +kernel
theorem dX3_faultOf_105 : decode cX3_faultOf 105 = .ok (.if_icmp .eq 5, 3) := by decide +kernel
theorem dX3_faultOf_108 : decode cX3_faultOf 108 = .ok (.iconst 3, 1) := by decide +kernel
theorem dX3_faultOf_109 : decode cX3_faultOf 109 = .ok (.ireturn, 1) := by decide +kernel
theorem dX3_faultOf_110 : decode cX3_faultOf 110 = .ok (.iinc 2 1, 3) := by decide +kernel
theorem dX3_faultOf_113 : decode cX3_faultOf 113 = .ok (.goto (-26), 3) := by decide +kernel
theorem dX3_faultOf_116 : decode cX3_faultOf 116 = .ok (.aload_n 0, 1) := by decide +kernel
theorem dX3_faultOf_117 : decode cX3_faultOf 117 = .ok (.invokevirtual 169, 3) := by decide +kernel
theorem dX3_faultOf_120 : decode cX3_faultOf 120 = .ok (.aload_n 0, 1) := by decide +kernel
theorem dX3_faultOf_121 : decode cX3_faultOf 121 = .ok (.getfield 7, 3) := by decide +kernel
theorem dX3_faultOf_124 : decode cX3_faultOf 124 = .ok (.bipush 34, 2) := by decide +kernel
theorem dX3_faultOf_126 : decode cX3_faultOf 126 = .ok (.iload_n 1, 1) := by decide +kernel
theorem dX3_faultOf_127 : decode cX3_faultOf 127 = .ok (.imul, 1) := by decide +kernel
theorem dX3_faultOf_128 : decode cX3_faultOf 128 = .ok (.bipush 24, 2) := by decide +kernel
theorem dX3_faultOf_130 : decode cX3_faultOf 130 = .ok (.iadd, 1) := by decide +kernel
theorem dX3_faultOf_131 : decode cX3_faultOf 131 = .ok (.iaload, 1) := by decide +kernel
theorem dX3_faultOf_132 : decode cX3_faultOf 132 = .ok (.iconst 4, 1) := by decide +kernel
theorem dX3_faultOf_133 : decode cX3_faultOf 133 = .ok (.iushr, 1) := by decide +kernel
theorem dX3_faultOf_134 : decode cX3_faultOf 134 = .ok (.if_icmp .ge 7, 3) := by decide +kernel
theorem dX3_faultOf_137 : decode cX3_faultOf 137 = .ok (.iconst 4, 1) := by decide +kernel
theorem dX3_faultOf_138 : decode cX3_faultOf 138 = .ok (.goto 4, 3) := by decide +kernel
theorem dX3_faultOf_141 : decode cX3_faultOf 141 = .ok (.iconst 0, 1) := by decide +kernel
theorem dX3_faultOf_142 : decode cX3_faultOf 142 = .ok (.ireturn, 1) := by decide +kernel
set_option maxRecDepth 20000 in
theorem ggX3_isHeadRight_X3_hashCell : GoodIn wsX3_isHeadRight wsX3_hashCell := goodIn_r _ [7, 8, 9, 10, 11, 12, 13, 14, 15, 16, 17, 18, 19, 20, 21, 22, 23, 24, 25, 26, 27] (by decide +kernel) (by decide +kernel)
set_option maxRecDepth 20000 in
theorem gX3_isHeadRight_X3_hashCell : GoodIn wsX3_isHeadRight (wsV RX3 144 RX3 yX3_hashCell wsX3_hashCell) := goodIn_app (goodIn_of _ (by decide +kernel)) ggX3_isHeadRight_X3_hashCell
theorem dX3_isHeadRight_0 : decode cX3_isHeadRight 0 = .ok (.iconst 1, 1) := by decide +kernel
theorem dX3_isHeadRight_1 : decode cX3_isHeadRight 1 = .ok (.istore_n 1, 1) := by decide +kernel
theorem dX3_isHeadRight_2 : decode cX3_isHeadRight 2 = .ok (.iconst 0, 1) := by decide +kernel
theorem dX3_isHeadRight_3 : decode cX3_isHeadRight 3 = .ok (.istore_n 2, 1) := by decide +kernel
theorem dX3_isHeadRight_4 : decode cX3_isHeadRight 4 = .ok (.iload_n 2, 1) := by decide +kernel
theorem dX3_isHeadRight_5 : decode cX3_isHeadRight 5 = .ok (.bipush 8, 2) := by decide +kernel
theorem dX3_isHeadRight_7 : decode cX3_isHeadRight 7 = .ok (.if_icmp .ge 50, 3) := by decide +kernel
theorem dX3_isHeadRight_10 : decode cX3_isHeadRight 10 = .ok (.iload_n 1, 1) := by decide +kernel
theorem dX3_isHeadRight_11 : decode cX3_isHeadRight 11 = .ok (.ifCond .eq 38, 3) := by decide +kernel
theorem dX3_isHeadRight_14 : decode cX3_isHeadRight 14 = .ok (.aload_n 0, 1) := by decide +kernel
theorem dX3_isHeadRight_15 : decode cX3_isHeadRight 15 = .ok (.getfield 13, 3) := by decide +kernel
theorem dX3_isHeadRight_18 : decode cX3_isHeadRight 18 = .ok (.iload_n 2, 1) := by decide +kernel
theorem dX3_isHeadRight_19 : decode cX3_isHeadRight 19 = .ok (.iaload, 1) := by decide +kernel
theorem dX3_isHeadRight_20 : decode cX3_isHeadRight 20 = .ok (.aload_n 0, 1) := by decide +kernel
theorem dX3_isHeadRight_21 : decode cX3_isHeadRight 21 = .ok (.getfield 141, 3) := by decide +kernel
theorem dX3_isHeadRight_24 : decode cX3_isHeadRight 24 = .ok (.ifCond .ne 7, 3) := by decide +kernel
theorem dX3_isHeadRight_27 : decode cX3_isHeadRight 27 = .ok (.iconst 0, 1) := by decide +kernel
theorem dX3_isHeadRight_28 : decode cX3_isHeadRight 28 = .ok (.goto 14, 3) := by decide +kernel
theorem dX3_isHeadRight_31 : decode cX3_isHeadRight 31 = .ok (.aload_n 0, 1) := by decide +kernel
theorem dX3_isHeadRight_32 : decode cX3_isHeadRight 32 = .ok (.aload_n 0, 1) := by decide +kernel
theorem dX3_isHeadRight_33 : decode cX3_isHeadRight 33 = .ok (.getfield 141, 3) := by decide +kernel
theorem dX3_isHeadRight_36 : decode cX3_isHeadRight 36 = .ok (.iconst 1, 1) := by decide +kernel
theorem dX3_isHeadRight_37 : decode cX3_isHeadRight 37 = .ok (.isub, 1) := by decide +kernel
theorem dX3_isHeadRight_38 : decode cX3_isHeadRight 38 = .ok (.iload_n 2, 1) := by decide +kernel
theorem dX3_isHeadRight_39 : decode cX3_isHeadRight 39 = .ok (.invokevirtual 144, 3) := by decide +kernel
theorem dX3_isHeadRight_42 : decode cX3_isHeadRight 42 = .ok (.if_icmp .ne 7, 3) := by decide +kernel
theorem dX3_isHeadRight_45 : decode cX3_isHeadRight 45 = .ok (.iconst 1, 1) := by decide +kernel
theorem dX3_isHeadRight_46 : decode cX3_isHeadRight 46 = .ok (.goto 4, 3) := by decide +kernel
theorem dX3_isHeadRight_49 : decode cX3_isHeadRight 49 = .ok (.iconst 0, 1) := by decide +kernel
theorem dX3_isHeadRight_50 : decode cX3_isHeadRight 50 = .ok (.istore_n 1, 1) := by decide +kernel
theorem dX3_isHeadRight_51 : decode cX3_isHeadRight 51 = .ok (.iinc 2 1, 3) := by decide +kernel
theorem dX3_isHeadRight_54 : decode cX3_isHeadRight 54 = .ok (.goto (-50), 3) := by decide +kernel
theorem dX3_isHeadRight_57 : decode cX3_isHeadRight 57 = .ok (.iload_n 1, 1) := by decide +kernel
theorem dX3_isHeadRight_58 : decode cX3_isHeadRight 58 = .ok (.ireturn, 1) := by decide +kernel
set_option maxRecDepth 20000 in
theorem ggX3_audit_X3_faultOf : GoodIn wsX3_audit wsX3_faultOf := goodIn_r _ [8, 9, 10, 11, 12, 13, 14, 7, 15, 16, 17, 18, 19, 20, 21, 22, 23, 24, 25, 26, 27, 28, 29, 30, 31, 32, 33, 34, 35, 36, 37, 38, 39, 40, 41, 42, 43, 44, 45, 46, 47, 48, 49, 55, 56, 57, 58, 59, 60, 61, 62, 63, 64, 65, 66, 67, 68, 69, 70, 71, 72, 73] (by decide +kernel) (by decide +kernel)
set_option maxRecDepth 20000 in
theorem gX3_audit_X3_faultOf : GoodIn wsX3_audit (wsV RX3 206 RX3 yX3_faultOf wsX3_faultOf) := goodIn_app (goodIn_of _ (by decide +kernel)) ggX3_audit_X3_faultOf
set_option maxRecDepth 20000 in
theorem ggX3_audit_X3_isHeadRight : GoodIn wsX3_audit wsX3_isHeadRight := goodIn_r _ [53, 54, 3, 16, 17, 18, 7, 19, 10, 55, 56, 57, 58, 59, 60, 61, 62, 63, 64, 65, 66, 67, 68, 69, 70, 71, 72, 73] (by decide +kernel) (by decide +kernel)
set_option maxRecDepth 20000 in
theorem gX3_audit_X3_isHeadRight : GoodIn wsX3_audit (wsV RX3 209 RX3 yX3_isHeadRight wsX3_isHeadRight) := goodIn_app (goodIn_of _ (by decide +kernel)) ggX3_audit_X3_isHeadRight
theorem dX3_audit_0 : decode cX3_audit 0 = .ok (.iload_n 1, 1) := by decide +kernel
theorem dX3_audit_1 : decode cX3_audit 1 = .ok (.iconst 1, 1) := by decide +kernel
theorem dX3_audit_2 : decode cX3_audit 2 = .ok (.if_icmp .lt 9, 3) := by decide +kernel
theorem dX3_audit_5 : decode cX3_audit 5 = .ok (.iload_n 1, 1) := by decide +kernel
theorem dX3_audit_6 : decode cX3_audit 6 = .ok (.bipush 100, 2) := by decide +kernel
theorem dX3_audit_8 : decode cX3_audit 8 = .ok (.if_icmp .le 6, 3) := by decide +kernel
theorem dX3_audit_11 : decode cX3_audit 11 = .ok (.bipush (-2), 2) := by decide +kernel
theorem dX3_audit_13 : decode cX3_audit 13 = .ok (.ireturn, 1) := by decide +kernel
theorem dX3_audit_14 : decode cX3_audit 14 = .ok (.aload_n 0, 1) := by decide +kernel
theorem dX3_audit_15 : decode cX3_audit 15 = .ok (.iconst 0, 1) := by decide +kernel
theorem dX3_audit_16 : decode cX3_audit 16 = .ok (.putfield 203, 3) := by decide +kernel
theorem dX3_audit_19 : decode cX3_audit 19 = .ok (.iconst 0, 1) := by decide +kernel
theorem dX3_audit_20 : decode cX3_audit 20 = .ok (.istore_n 2, 1) := by decide +kernel
theorem dX3_audit_21 : decode cX3_audit 21 = .ok (.iload_n 2, 1) := by decide +kernel
theorem dX3_audit_22 : decode cX3_audit 22 = .ok (.iload_n 1, 1) := by decide +kernel
theorem dX3_audit_23 : decode cX3_audit 23 = .ok (.if_icmp .ge 54, 3) := by decide +kernel
theorem dX3_audit_26 : decode cX3_audit 26 = .ok (.aload_n 0, 1) := by decide +kernel
theorem dX3_audit_27 : decode cX3_audit 27 = .ok (.getfield 181, 3) := by decide +kernel
theorem dX3_audit_30 : decode cX3_audit 30 = .ok (.aload_n 0, 1) := by decide +kernel
theorem dX3_audit_31 : decode cX3_audit 31 = .ok (.getfield 141, 3) := by decide +kernel
theorem dX3_audit_34 : decode cX3_audit 34 = .ok (.if_icmp .ge 43, 3) := by decide +kernel
theorem dX3_audit_37 : decode cX3_audit 37 = .ok (.aload_n 0, 1) := by decide +kernel
theorem dX3_audit_38 : decode cX3_audit 38 = .ok (.aload_n 0, 1) := by decide +kernel
theorem dX3_audit_39 : decode cX3_audit 39 = .ok (.aload_n 0, 1) := by decide +kernel
theorem dX3_audit_40 : decode cX3_audit 40 = .ok (.getfield 181, 3) := by decide +kernel
theorem dX3_audit_43 : decode cX3_audit 43 = .ok (.invokevirtual 206, 3) := by decide +kernel
theorem dX3_audit_46 : decode cX3_audit 46 = .ok (.putfield 203, 3) := by decide +kernel
theorem dX3_audit_49 : decode cX3_audit 49 = .ok (.aload_n 0, 1) := by decide +kernel
theorem dX3_audit_50 : decode cX3_audit 50 = .ok (.getfield 203, 3) := by decide +kernel
theorem dX3_audit_53 : decode cX3_audit 53 = .ok (.ifCond .le 8, 3) := by decide +kernel
theorem dX3_audit_56 : decode cX3_audit 56 = .ok (.aload_n 0, 1) := by decide +kernel
theorem dX3_audit_57 : decode cX3_audit 57 = .ok (.getfield 181, 3) := by decide +kernel
theorem dX3_audit_60 : decode cX3_audit 60 = .ok (.ireturn, 1) := by decide +kernel
theorem dX3_audit_61 : decode cX3_audit 61 = .ok (.aload_n 0, 1) := by decide +kernel
theorem dX3_audit_62 : decode cX3_audit 62 = .ok (.dup, 1) := by decide +kernel
theorem dX3_audit_63 : decode cX3_audit 63 = .ok (.getfield 181, 3) := by decide +kernel
theorem dX3_audit_66 : decode cX3_audit 66 = .ok (.iconst 1, 1) := by decide +kernel
theorem dX3_audit_67 : decode cX3_audit 67 = .ok (.iadd, 1) := by decide +kernel
theorem dX3_audit_68 : decode cX3_audit 68 = .ok (.putfield 181, 3) := by decide +kernel
theorem dX3_audit_71 : decode cX3_audit 71 = .ok (.iinc 2 1, 3) := by decide +kernel
theorem dX3_audit_74 : decode cX3_audit 74 = .ok (.goto (-53), 3) := by decide +kernel
theorem dX3_audit_77 : decode cX3_audit 77 = .ok (.iload_n 2, 1) := by decide +kernel
theorem dX3_audit_78 : decode cX3_audit 78 = .ok (.iload_n 1, 1) := by decide +kernel
theorem dX3_audit_79 : decode cX3_audit 79 = .ok (.if_icmp .ne 5, 3) := by decide +kernel
theorem dX3_audit_82 : decode cX3_audit 82 = .ok (.iconst (-1), 1) := by decide +kernel
theorem dX3_audit_83 : decode cX3_audit 83 = .ok (.ireturn, 1) := by decide +kernel
theorem dX3_audit_84 : decode cX3_audit 84 = .ok (.aload_n 0, 1) := by decide +kernel
theorem dX3_audit_85 : decode cX3_audit 85 = .ok (.invokevirtual 209, 3) := by decide +kernel
theorem dX3_audit_88 : decode cX3_audit 88 = .ok (.ifCond .eq 6, 3) := by decide +kernel
theorem dX3_audit_91 : decode cX3_audit 91 = .ok (.bipush (-5), 2) := by decide +kernel
theorem dX3_audit_93 : decode cX3_audit 93 = .ok (.ireturn, 1) := by decide +kernel
theorem dX3_audit_94 : decode cX3_audit 94 = .ok (.aload_n 0, 1) := by decide +kernel
theorem dX3_audit_95 : decode cX3_audit 95 = .ok (.aload_n 0, 1) := by decide +kernel
theorem dX3_audit_96 : decode cX3_audit 96 = .ok (.getfield 141, 3) := by decide +kernel
theorem dX3_audit_99 : decode cX3_audit 99 = .ok (.ifCond .ne 8, 3) := by decide +kernel
theorem dX3_audit_102 : decode cX3_audit 102 = .ok (.bipush 6, 2) := by decide +kernel
theorem dX3_audit_104 : decode cX3_audit 104 = .ok (.goto 4, 3) := by decide +kernel
theorem dX3_audit_107 : decode cX3_audit 107 = .ok (.iconst 5, 1) := by decide +kernel
theorem dX3_audit_108 : decode cX3_audit 108 = .ok (.putfield 203, 3) := by decide +kernel
theorem dX3_audit_111 : decode cX3_audit 111 = .ok (.aload_n 0, 1) := by decide +kernel
theorem dX3_audit_112 : decode cX3_audit 112 = .ok (.getfield 141, 3) := by decide +kernel
theorem dX3_audit_115 : decode cX3_audit 115 = .ok (.ifCond .ne 7, 3) := by decide +kernel
theorem dX3_audit_118 : decode cX3_audit 118 = .ok (.iconst 0, 1) := by decide +kernel
theorem dX3_audit_119 : decode cX3_audit 119 = .ok (.goto 9, 3) := by decide +kernel
theorem dX3_audit_122 : decode cX3_audit 122 = .ok (.aload_n 0, 1) := by decide +kernel
theorem dX3_audit_123 : decode cX3_audit 123 = .ok (.getfield 141, 3) := by decide +kernel
theorem dX3_audit_126 : decode cX3_audit 126 = .ok (.iconst 1, 1) := by decide +kernel
theorem dX3_audit_127 : decode cX3_audit 127 = .ok (.isub, 1) := by decide +kernel
theorem dX3_audit_128 : decode cX3_audit 128 = .ok (.ireturn, 1) := by decide +kernel
theorem dX3_fault_0 : decode cX3_fault 0 = .ok (.aload_n 0, 1) := by decide +kernel
theorem dX3_fault_1 : decode cX3_fault 1 = .ok (.getfield 203, 3) := by decide +kernel
theorem dX3_fault_4 : decode cX3_fault 4 = .ok (.ireturn, 1) := by decide +kernel
set_option maxRecDepth 20000 in
theorem ggX3_next_X3_lowest : GoodIn wsX3_next wsX3_lowest := goodIn_r _ [4] (by decide +kernel) (by decide +kernel)
set_option maxRecDepth 20000 in
theorem gX3_next_X3_lowest : GoodIn wsX3_next (va_wsS RX3 147 yX3_lowest wsX3_lowest) := goodIn_app (goodIn_of _ (by decide +kernel)) ggX3_next_X3_lowest
theorem dX3_next_0 : decode cX3_next 0 = .ok (.iload_n 1, 1) := by decide +kernel
theorem dX3_next_1 : decode cX3_next 1 = .ok (.iload_n 1, 1) := by decide +kernel
theorem dX3_next_2 : decode cX3_next 2 = .ok (.invokestatic 147, 3) := by decide +kernel
theorem dX3_next_5 : decode cX3_next 5 = .ok (.isub, 1) := by decide +kernel
theorem dX3_next_6 : decode cX3_next 6 = .ok (.iload_n 2, 1) := by decide +kernel
theorem dX3_next_7 : decode cX3_next 7 = .ok (.if_icmp .lt 12, 3) := by decide +kernel
theorem dX3_next_10 : decode cX3_next 10 = .ok (.iload_n 1, 1) := by decide +kernel
theorem dX3_next_11 : decode cX3_next 11 = .ok (.iload_n 1, 1) := by decide +kernel
theorem dX3_next_12 : decode cX3_next 12 = .ok (.invokestatic 147, 3) := by decide +kernel
theorem dX3_next_15 : decode cX3_next 15 = .ok (.isub, 1) := by decide +kernel
theorem dX3_next_16 : decode cX3_next 16 = .ok (.goto 6, 3) := by decide +kernel
theorem dX3_next_19 : decode cX3_next 19 = .ok (.iload_n 1, 1) := by decide +kernel
theorem dX3_next_20 : decode cX3_next 20 = .ok (.iconst 1, 1) := by decide +kernel
theorem dX3_next_21 : decode cX3_next 21 = .ok (.isub, 1) := by decide +kernel
theorem dX3_next_22 : decode cX3_next 22 = .ok (.ireturn, 1) := by decide +kernel
set_option maxRecDepth 20000 in
theorem ggX3_way_X3_next : GoodIn wsX3_way wsX3_next := goodIn_r _ [6, 7, 8, 5, 9] (by decide +kernel) (by decide +kernel)
set_option maxRecDepth 20000 in
theorem gX3_way_X3_next : GoodIn wsX3_way (wsV RX3 213 RX3 yX3_next wsX3_next) := goodIn_app (goodIn_of _ (by decide +kernel)) ggX3_way_X3_next
theorem dX3_way_0 : decode cX3_way 0 = .ok (.iload_n 1, 1) := by decide +kernel
theorem dX3_way_1 : decode cX3_way 1 = .ok (.ifCond .lt 11, 3) := by decide +kernel
theorem dX3_way_4 : decode cX3_way 4 = .ok (.iload_n 1, 1) := by decide +kernel
theorem dX3_way_5 : decode cX3_way 5 = .ok (.aload_n 0, 1) := by decide +kernel
theorem dX3_way_6 : decode cX3_way 6 = .ok (.getfield 141, 3) := by decide +kernel
theorem dX3_way_9 : decode cX3_way 9 = .ok (.if_icmp .lt 6, 3) := by decide +kernel
theorem dX3_way_12 : decode cX3_way 12 = .ok (.bipush (-2), 2) := by decide +kernel
theorem dX3_way_14 : decode cX3_way 14 = .ok (.ireturn, 1) := by decide +kernel
theorem dX3_way_15 : decode cX3_way 15 = .ok (.iload_n 2, 1) := by decide +kernel
theorem dX3_way_16 : decode cX3_way 16 = .ok (.ifCond .ge 5, 3) := by decide +kernel
theorem dX3_way_19 : decode cX3_way 19 = .ok (.iconst (-1), 1) := by decide +kernel
theorem dX3_way_20 : decode cX3_way 20 = .ok (.ireturn, 1) := by decide +kernel
theorem dX3_way_21 : decode cX3_way 21 = .ok (.aload_n 0, 1) := by decide +kernel
theorem dX3_way_22 : decode cX3_way 22 = .ok (.getfield 141, 3) := by decide +kernel
theorem dX3_way_25 : decode cX3_way 25 = .ok (.iconst 1, 1) := by decide +kernel
theorem dX3_way_26 : decode cX3_way 26 = .ok (.isub, 1) := by decide +kernel
theorem dX3_way_27 : decode cX3_way 27 = .ok (.istore_n 3, 1) := by decide +kernel
theorem dX3_way_28 : decode cX3_way 28 = .ok (.iconst 0, 1) := by decide +kernel
theorem dX3_way_29 : decode cX3_way 29 = .ok (.istore 4, 2) := by decide +kernel
theorem dX3_way_31 : decode cX3_way 31 = .ok (.iload 4, 2) := by decide +kernel
theorem dX3_way_33 : decode cX3_way 33 = .ok (.iload_n 2, 1) := by decide +kernel
theorem dX3_way_34 : decode cX3_way 34 = .ok (.if_icmp .ge 21, 3) := by decide +kernel
theorem dX3_way_37 : decode cX3_way 37 = .ok (.iload_n 3, 1) := by decide +kernel
theorem dX3_way_38 : decode cX3_way 38 = .ok (.iload_n 1, 1) := by decide +kernel
theorem dX3_way_39 : decode cX3_way 39 = .ok (.if_icmp .le 16, 3) := by decide +kernel
theorem dX3_way_42 : decode cX3_way 42 = .ok (.aload_n 0, 1) := by decide +kernel
theorem dX3_way_43 : decode cX3_way 43 = .ok (.iload_n 3, 1) := by decide +kernel
theorem dX3_way_44 : decode cX3_way 44 = .ok (.iload_n 1, 1) := by decide +kernel
theorem dX3_way_45 : decode cX3_way 45 = .ok (.invokevirtual 213, 3) := by decide +kernel
theorem dX3_way_48 : decode cX3_way 48 = .ok (.istore_n 3, 1) := by decide +kernel
theorem dX3_way_49 : decode cX3_way 49 = .ok (.iinc 4 1, 3) := by decide +kernel
theorem dX3_way_52 : decode cX3_way 52 = .ok (.goto (-21), 3) := by decide +kernel
theorem dX3_way_55 : decode cX3_way 55 = .ok (.iload 4, 2) := by decide +kernel
theorem dX3_way_57 : decode cX3_way 57 = .ok (.iload_n 2, 1) := by decide +kernel
theorem dX3_way_58 : decode cX3_way 58 = .ok (.if_icmp .ne 7, 3) := by decide +kernel
theorem dX3_way_61 : decode cX3_way 61 = .ok (.iload_n 3, 1) := by decide +kernel
theorem dX3_way_62 : decode cX3_way 62 = .ok (.goto 4, 3) := by decide +kernel
theorem dX3_way_65 : decode cX3_way 65 = .ok (.iconst (-1), 1) := by decide +kernel
theorem dX3_way_66 : decode cX3_way 66 = .ok (.ireturn, 1) := by decide +kernel
set_option maxRecDepth 20000 in
theorem ggX3_prove_X3_next : GoodIn wsX3_prove wsX3_next := goodIn_r _ [9, 10, 11, 8, 12] (by decide +kernel) (by decide +kernel)
set_option maxRecDepth 20000 in
theorem gX3_prove_X3_next : GoodIn wsX3_prove (wsV RX3 213 RX3 yX3_next wsX3_next) := goodIn_app (goodIn_of _ (by decide +kernel)) ggX3_prove_X3_next
theorem dX3_prove_0 : decode cX3_prove 0 = .ok (.iload_n 1, 1) := by decide +kernel
theorem dX3_prove_1 : decode cX3_prove 1 = .ok (.ifCond .lt 11, 3) := by decide +kernel
theorem dX3_prove_4 : decode cX3_prove 4 = .ok (.iload_n 1, 1) := by decide +kernel
theorem dX3_prove_5 : decode cX3_prove 5 = .ok (.aload_n 0, 1) := by decide +kernel
theorem dX3_prove_6 : decode cX3_prove 6 = .ok (.getfield 141, 3) := by decide +kernel
theorem dX3_prove_9 : decode cX3_prove 9 = .ok (.if_icmp .lt 6, 3) := by decide +kernel
theorem dX3_prove_12 : decode cX3_prove 12 = .ok (.bipush (-2), 2) := by decide +kernel
theorem dX3_prove_14 : decode cX3_prove 14 = .ok (.ireturn, 1) := by decide +kernel
theorem dX3_prove_15 : decode cX3_prove 15 = .ok (.aload_n 0, 1) := by decide +kernel
theorem dX3_prove_16 : decode cX3_prove 16 = .ok (.iconst 0, 1) := by decide +kernel
theorem dX3_prove_17 : decode cX3_prove 17 = .ok (.putfield 216, 3) := by decide +kernel
theorem dX3_prove_20 : decode cX3_prove 20 = .ok (.aload_n 0, 1) := by decide +kernel
theorem dX3_prove_21 : decode cX3_prove 21 = .ok (.getfield 141, 3) := by decide +kernel
theorem dX3_prove_24 : decode cX3_prove 24 = .ok (.iconst 1, 1) := by decide +kernel
theorem dX3_prove_25 : decode cX3_prove 25 = .ok (.isub, 1) := by decide +kernel
theorem dX3_prove_26 : decode cX3_prove 26 = .ok (.istore_n 2, 1) := by decide +kernel
theorem dX3_prove_27 : decode cX3_prove 27 = .ok (.iconst 1, 1) := by decide +kernel
theorem dX3_prove_28 : decode cX3_prove 28 = .ok (.istore_n 3, 1) := by decide +kernel
theorem dX3_prove_29 : decode cX3_prove 29 = .ok (.iload_n 3, 1) := by decide +kernel
theorem dX3_prove_30 : decode cX3_prove 30 = .ok (.ifCond .eq 79, 3) := by decide +kernel
theorem dX3_prove_33 : decode cX3_prove 33 = .ok (.iconst 0, 1) := by decide +kernel
theorem dX3_prove_34 : decode cX3_prove 34 = .ok (.istore 4, 2) := by decide +kernel
theorem dX3_prove_36 : decode cX3_prove 36 = .ok (.iload 4, 2) := by decide +kernel
theorem dX3_prove_38 : decode cX3_prove 38 = .ok (.bipush 26, 2) := by decide +kernel
theorem dX3_prove_40 : decode cX3_prove 40 = .ok (.if_icmp .ge 40, 3) := by decide +kernel
theorem dX3_prove_43 : decode cX3_prove 43 = .ok (.aload_n 0, 1) := by decide +kernel
theorem dX3_prove_44 : decode cX3_prove 44 = .ok (.getfield 27, 3) := by decide +kernel
theorem dX3_prove_47 : decode cX3_prove 47 = .ok (.aload_n 0, 1) := by decide +kernel
theorem dX3_prove_48 : decode cX3_prove 48 = .ok (.getfield 216, 3) := by decide +kernel
theorem dX3_prove_51 : decode cX3_prove 51 = .ok (.aload_n 0, 1) := by decide +kernel
theorem dX3_prove_52 : decode cX3_prove 52 = .ok (.getfield 7, 3) := by decide +kernel
theorem dX3_prove_55 : decode cX3_prove 55 = .ok (.bipush 34, 2) := by decide +kernel
theorem dX3_prove_57 : decode cX3_prove 57 = .ok (.iload_n 2, 1) := by decide +kernel
theorem dX3_prove_58 : decode cX3_prove 58 = .ok (.imul, 1) := by decide +kernel
theorem dX3_prove_59 : decode cX3_prove 59 = .ok (.iload 4, 2) := by decide +kernel
theorem dX3_prove_61 : decode cX3_prove 61 = .ok (.iadd, 1) := by decide +kernel
theorem dX3_prove_62 : decode cX3_prove 62 = .ok (.iaload, 1) := by decide +kernel
theorem dX3_prove_63 : decode cX3_prove 63 = .ok (.iastore, 1) := by decide +kernel
theorem dX3_prove_64 : decode cX3_prove 64 = .ok (.aload_n 0, 1) := by decide +kernel
theorem dX3_prove_65 : decode cX3_prove 65 = .ok (.dup, 1) := by decide +kernel
theorem dX3_prove_66 : decode cX3_prove 66 = .ok (.getfield 216, 3) := by decide +kernel
theorem dX3_prove_69 : decode cX3_prove 69 = .ok (.iconst 1, 1) := by decide +kernel
theorem dX3_prove_70 : decode cX3_prove 70 = .ok (.iadd, 1) := by decide +kernel
theorem dX3_prove_71 : decode cX3_prove 71 = .ok (.putfield 216, 3) := by decide +kernel
theorem dX3_prove_74 : decode cX3_prove 74 = .ok (.iinc 4 1, 3) := by decide +kernel
theorem dX3_prove_77 : decode cX3_prove 77 = .ok (.goto (-41), 3) := by decide +kernel
theorem dX3_prove_80 : decode cX3_prove 80 = .ok (.iload_n 2, 1) := by decide +kernel
theorem dX3_prove_81 : decode cX3_prove 81 = .ok (.iload_n 1, 1) := by decide +kernel
theorem dX3_prove_82 : decode cX3_prove 82 = .ok (.if_icmp .le 7, 3) := by decide +kernel
theorem dX3_prove_85 : decode cX3_prove 85 = .ok (.iconst 1, 1) := by decide +kernel
theorem dX3_prove_86 : decode cX3_prove 86 = .ok (.goto 4, 3) := by decide +kernel
theorem dX3_prove_89 : decode cX3_prove 89 = .ok (.iconst 0, 1) := by decide +kernel
theorem dX3_prove_90 : decode cX3_prove 90 = .ok (.istore_n 3, 1) := by decide +kernel
theorem dX3_prove_91 : decode cX3_prove 91 = .ok (.iload_n 3, 1) := by decide +kernel
theorem dX3_prove_92 : decode cX3_prove 92 = .ok (.ifCond .eq 12, 3) := by decide +kernel
theorem dX3_prove_95 : decode cX3_prove 95 = .ok (.aload_n 0, 1) := by decide +kernel
theorem dX3_prove_96 : decode cX3_prove 96 = .ok (.iload_n 2, 1) := by decide +kernel
theorem dX3_prove_97 : decode cX3_prove 97 = .ok (.iload_n 1, 1) := by decide +kernel
theorem dX3_prove_98 : decode cX3_prove 98 = .ok (.invokevirtual 213, 3) := by decide +kernel
theorem dX3_prove_101 : decode cX3_prove 101 = .ok (.goto 4, 3) := by decide +kernel
theorem dX3_prove_104 : decode cX3_prove 104 = .ok (.iload_n 2, 1) := by decide +kernel
theorem dX3_prove_105 : decode cX3_prove 105 = .ok (.istore_n 2, 1) := by decide +kernel
theorem dX3_prove_106 : decode cX3_prove 106 = .ok (.goto (-77), 3) := by decide +kernel
theorem dX3_prove_109 : decode cX3_prove 109 = .ok (.aload_n 0, 1) := by decide +kernel
theorem dX3_prove_110 : decode cX3_prove 110 = .ok (.getfield 216, 3) := by decide +kernel
theorem dX3_prove_113 : decode cX3_prove 113 = .ok (.ireturn, 1) := by decide +kernel
theorem dX3_proof_0 : decode cX3_proof 0 = .ok (.iload_n 1, 1) := by decide +kernel
theorem dX3_proof_1 : decode cX3_proof 1 = .ok (.ifCond .lt 20, 3) := by decide +kernel
theorem dX3_proof_4 : decode cX3_proof 4 = .ok (.iload_n 1, 1) := by decide +kernel
theorem dX3_proof_5 : decode cX3_proof 5 = .ok (.aload_n 0, 1) := by decide +kernel
theorem dX3_proof_6 : decode cX3_proof 6 = .ok (.getfield 216, 3) := by decide +kernel
theorem dX3_proof_9 : decode cX3_proof 9 = .ok (.if_icmp .ge 12, 3) := by decide +kernel
theorem dX3_proof_12 : decode cX3_proof 12 = .ok (.aload_n 0, 1) := by decide +kernel
theorem dX3_proof_13 : decode cX3_proof 13 = .ok (.getfield 27, 3) := by decide +kernel
theorem dX3_proof_16 : decode cX3_proof 16 = .ok (.iload_n 1, 1) := by decide +kernel
theorem dX3_proof_17 : decode cX3_proof 17 = .ok (.iaload, 1) := by decide +kernel
theorem dX3_proof_18 : decode cX3_proof 18 = .ok (.goto 4, 3) := by decide +kernel
theorem dX3_proof_21 : decode cX3_proof 21 = .ok (.iconst 0, 1) := by decide +kernel
theorem dX3_proof_22 : decode cX3_proof 22 = .ok (.ireturn, 1) := by decide +kernel
theorem dX3_forge_0 : decode cX3_forge 0 = .ok (.iload_n 1, 1) := by decide +kernel
theorem dX3_forge_1 : decode cX3_forge 1 = .ok (.ifCond .lt 11, 3) := by decide +kernel
theorem dX3_forge_4 : decode cX3_forge 4 = .ok (.iload_n 1, 1) := by decide +kernel
theorem dX3_forge_5 : decode cX3_forge 5 = .ok (.aload_n 0, 1) := by decide +kernel
theorem dX3_forge_6 : decode cX3_forge 6 = .ok (.getfield 216, 3) := by decide +kernel
theorem dX3_forge_9 : decode cX3_forge 9 = .ok (.if_icmp .lt 5, 3) := by decide +kernel
theorem dX3_forge_12 : decode cX3_forge 12 = .ok (.iconst 0, 1) := by decide +kernel
theorem dX3_forge_13 : decode cX3_forge 13 = .ok (.ireturn, 1) := by decide +kernel
theorem dX3_forge_14 : decode cX3_forge 14 = .ok (.aload_n 0, 1) := by decide +kernel
theorem dX3_forge_15 : decode cX3_forge 15 = .ok (.getfield 27, 3) := by decide +kernel
theorem dX3_forge_18 : decode cX3_forge 18 = .ok (.iload_n 1, 1) := by decide +kernel
theorem dX3_forge_19 : decode cX3_forge 19 = .ok (.iaload, 1) := by decide +kernel
theorem dX3_forge_20 : decode cX3_forge 20 = .ok (.istore_n 3, 1) := by decide +kernel
theorem dX3_forge_21 : decode cX3_forge 21 = .ok (.aload_n 0, 1) := by decide +kernel
theorem dX3_forge_22 : decode cX3_forge 22 = .ok (.getfield 27, 3) := by decide +kernel
theorem dX3_forge_25 : decode cX3_forge 25 = .ok (.iload_n 1, 1) := by decide +kernel
theorem dX3_forge_26 : decode cX3_forge 26 = .ok (.iload_n 2, 1) := by decide +kernel
theorem dX3_forge_27 : decode cX3_forge 27 = .ok (.iastore, 1) := by decide +kernel
theorem dX3_forge_28 : decode cX3_forge 28 = .ok (.iload_n 3, 1) := by decide +kernel
theorem dX3_forge_29 : decode cX3_forge 29 = .ok (.ireturn, 1) := by decide +kernel
set_option maxRecDepth 20000 in
theorem ggX3_check_X3_mixFirst : GoodIn wsX3_check wsX3_mixFirst := goodIn_r _ [11, 5, 12, 13, 3, 14, 15, 16, 17, 10, 18, 19, 20, 21, 22, 35, 36, 37, 38, 39, 40, 41, 42, 43, 44, 45, 46, 47, 48, 49, 50, 51, 52, 53] (by decide +kernel) (by decide +kernel)
set_option maxRecDepth 20000 in
theorem gX3_check_X3_mixFirst : GoodIn wsX3_check (wsV RX3 163 RX3 yX3_mixFirst wsX3_mixFirst) := goodIn_app (goodIn_of _ (by decide +kernel)) ggX3_check_X3_mixFirst
set_option maxRecDepth 20000 in
theorem ggX3_check_X3_mixSecond : GoodIn wsX3_check wsX3_mixSecond := goodIn_r _ [26, 5, 14, 13, 3, 27, 15, 16, 17, 10, 18, 19, 20, 21, 22, 35, 36, 37, 38, 39, 40, 41, 42, 43, 44, 45, 46, 47, 48, 49, 50, 51, 52, 53] (by decide +kernel) (by decide +kernel)
set_option maxRecDepth 20000 in
theorem gX3_check_X3_mixSecond : GoodIn wsX3_check (wsV RX3 166 RX3 yX3_mixSecond wsX3_mixSecond) := goodIn_app (goodIn_of _ (by decide +kernel)) ggX3_check_X3_mixSecond
set_option maxRecDepth 20000 in
theorem ggX3_check_X3_next : GoodIn wsX3_check wsX3_next := goodIn_r _ [31, 32, 33, 10, 34] (by decide +kernel) (by decide +kernel)
set_option maxRecDepth 20000 in
theorem gX3_check_X3_next : GoodIn wsX3_check (wsV RX3 213 RX3 yX3_next wsX3_next) := goodIn_app (goodIn_of _ (by decide +kernel)) ggX3_check_X3_next
set_option maxRecDepth 20000 in
theorem ggX3_check_X3_lowest : GoodIn wsX3_check wsX3_lowest := goodIn_r _ [34] (by decide +kernel) (by decide +kernel)
set_option maxRecDepth 20000 in
theorem gX3_check_X3_lowest : GoodIn wsX3_check (va_wsS RX3 147 yX3_lowest wsX3_lowest) := goodIn_app (goodIn_of _ (by decide +kernel)) ggX3_check_X3_lowest
theorem dX3_check_0 : decode cX3_check 0 = .ok (.iload_n 1, 1) := by decide +kernel
theorem dX3_check_1 : decode cX3_check 1 = .ok (.ifCond .lt 11, 3) := by decide +kernel
theorem dX3_check_4 : decode cX3_check 4 = .ok (.iload_n 1, 1) := by decide +kernel
theorem dX3_check_5 : decode cX3_check 5 = .ok (.aload_n 0, 1) := by decide +kernel
theorem dX3_check_6 : decode cX3_check 6 = .ok (.getfield 141, 3) := by decide +kernel
theorem dX3_check_9 : decode cX3_check 9 = .ok (.if_icmp .lt 6, 3) := by decide +kernel
theorem dX3_check_12 : decode cX3_check 12 = .ok (.bipush (-2), 2) := by decide +kernel
theorem dX3_check_14 : decode cX3_check 14 = .ok (.ireturn, 1) := by decide +kernel
theorem dX3_check_15 : decode cX3_check 15 = .ok (.aload_n 0, 1) := by decide +kernel
theorem dX3_check_16 : decode cX3_check 16 = .ok (.getfield 141, 3) := by decide +kernel
theorem dX3_check_19 : decode cX3_check 19 = .ok (.iconst 1, 1) := by decide +kernel
theorem dX3_check_20 : decode cX3_check 20 = .ok (.isub, 1) := by decide +kernel
theorem dX3_check_21 : decode cX3_check 21 = .ok (.istore_n 2, 1) := by decide +kernel
theorem dX3_check_22 : decode cX3_check 22 = .ok (.iconst 0, 1) := by decide +kernel
theorem dX3_check_23 : decode cX3_check 23 = .ok (.istore_n 3, 1) := by decide +kernel
theorem dX3_check_24 : decode cX3_check 24 = .ok (.iconst 1, 1) := by decide +kernel
theorem dX3_check_25 : decode cX3_check 25 = .ok (.istore 4, 2) := by decide +kernel
theorem dX3_check_27 : decode cX3_check 27 = .ok (.iconst 1, 1) := by decide +kernel
theorem dX3_check_28 : decode cX3_check 28 = .ok (.istore 5, 2) := by decide +kernel
theorem dX3_check_30 : decode cX3_check 30 = .ok (.iconst (-1), 1) := by decide +kernel
theorem dX3_check_31 : decode cX3_check 31 = .ok (.istore 6, 2) := by decide +kernel
theorem dX3_check_33 : decode cX3_check 33 = .ok (.iload 5, 2) := by decide +kernel
theorem dX3_check_35 : decode cX3_check 35 = .ok (.ifCond .eq 194, 3) := by decide +kernel
theorem dX3_check_38 : decode cX3_check 38 = .ok (.iload 4, 2) := by decide +kernel
theorem dX3_check_40 : decode cX3_check 40 = .ok (.ifCond .eq 189, 3) := by decide +kernel
theorem dX3_check_43 : decode cX3_check 43 = .ok (.iload_n 3, 1) := by decide +kernel
theorem dX3_check_44 : decode cX3_check 44 = .ok (.bipush 26, 2) := by decide +kernel
theorem dX3_check_46 : decode cX3_check 46 = .ok (.iadd, 1) := by decide +kernel
theorem dX3_check_47 : decode cX3_check 47 = .ok (.aload_n 0, 1) := by decide +kernel
theorem dX3_check_48 : decode cX3_check 48 = .ok (.getfield 216, 3) := by decide +kernel
theorem dX3_check_51 : decode cX3_check 51 = .ok (.if_icmp .gt 7, 3) := by decide +kernel
theorem dX3_check_54 : decode cX3_check 54 = .ok (.iconst 1, 1) := by decide +kernel
theorem dX3_check_55 : decode cX3_check 55 = .ok (.goto 4, 3) := by decide +kernel
theorem dX3_check_58 : decode cX3_check 58 = .ok (.iconst 0, 1) := by decide +kernel
theorem dX3_check_59 : decode cX3_check 59 = .ok (.istore 4, 2) := by decide +kernel
theorem dX3_check_61 : decode cX3_check 61 = .ok (.iconst 0, 1) := by decide +kernel
theorem dX3_check_62 : decode cX3_check 62 = .ok (.istore 7, 2) := by decide +kernel
theorem dX3_check_64 : decode cX3_check 64 = .ok (.iload 7, 2) := by decide +kernel
theorem dX3_check_66 : decode cX3_check 66 = .ok (.bipush 26, 2) := by decide +kernel
theorem dX3_check_68 : decode cX3_check 68 = .ok (.if_icmp .ge 30, 3) := by decide +kernel
theorem dX3_check_71 : decode cX3_check 71 = .ok (.iload 4, 2) := by decide +kernel
theorem dX3_check_73 : decode cX3_check 73 = .ok (.ifCond .eq 25, 3) := by decide +kernel
theorem dX3_check_76 : decode cX3_check 76 = .ok (.aload_n 0, 1) := by decide +kernel
theorem dX3_check_77 : decode cX3_check 77 = .ok (.getfield 45, 3) := by decide +kernel
theorem dX3_check_80 : decode cX3_check 80 = .ok (.iload 7, 2) := by decide +kernel
theorem dX3_check_82 : decode cX3_check 82 = .ok (.aload_n 0, 1) := by decide +kernel
theorem dX3_check_83 : decode cX3_check 83 = .ok (.getfield 27, 3) := by decide +kernel
theorem dX3_check_86 : decode cX3_check 86 = .ok (.iload_n 3, 1) := by decide +kernel
theorem dX3_check_87 : decode cX3_check 87 = .ok (.iload 7, 2) := by decide +kernel
theorem dX3_check_89 : decode cX3_check 89 = .ok (.iadd, 1) := by decide +kernel
theorem dX3_check_90 : decode cX3_check 90 = .ok (.iaload, 1) := by decide +kernel
theorem dX3_check_91 : decode cX3_check 91 = .ok (.iastore, 1) := by decide +kernel
theorem dX3_check_92 : decode cX3_check 92 = .ok (.iinc 7 1, 3) := by decide +kernel
theorem dX3_check_95 : decode cX3_check 95 = .ok (.goto (-31), 3) := by decide +kernel
theorem dX3_check_98 : decode cX3_check 98 = .ok (.iload 4, 2) := by decide +kernel
theorem dX3_check_100 : decode cX3_check 100 = .ok (.ifCond .eq 11, 3) := by decide +kernel
theorem dX3_check_103 : decode cX3_check 103 = .ok (.aload_n 0, 1) := by decide +kernel
theorem dX3_check_104 : decode cX3_check 104 = .ok (.invokevirtual 163, 3) := by decide +kernel
theorem dX3_check_107 : decode cX3_check 107 = .ok (.aload_n 0, 1) := by decide +kernel
theorem dX3_check_108 : decode cX3_check 108 = .ok (.invokevirtual 166, 3) := by decide +kernel
theorem dX3_check_111 : decode cX3_check 111 = .ok (.iconst 0, 1) := by decide +kernel
theorem dX3_check_112 : decode cX3_check 112 = .ok (.istore 7, 2) := by decide +kernel
theorem dX3_check_114 : decode cX3_check 114 = .ok (.iload 7, 2) := by decide +kernel
theorem dX3_check_116 : decode cX3_check 116 = .ok (.bipush 8, 2) := by decide +kernel
theorem dX3_check_118 : decode cX3_check 118 = .ok (.if_icmp .ge 56, 3) := by decide +kernel
theorem dX3_check_121 : decode cX3_check 121 = .ok (.iload 4, 2) := by decide +kernel
theorem dX3_check_123 : decode cX3_check 123 = .ok (.ifCond .eq 51, 3) := by decide +kernel
theorem dX3_check_126 : decode cX3_check 126 = .ok (.aload_n 0, 1) := by decide +kernel
theorem dX3_check_127 : decode cX3_check 127 = .ok (.getfield 36, 3) := by decide +kernel
theorem dX3_check_130 : decode cX3_check 130 = .ok (.iload 7, 2) := by decide +kernel
theorem dX3_check_132 : decode cX3_check 132 = .ok (.iaload, 1) := by decide +kernel
theorem dX3_check_133 : decode cX3_check 133 = .ok (.iload 6, 2) := by decide +kernel
theorem dX3_check_135 : decode cX3_check 135 = .ok (.ifCond .ge 13, 3) := by decide +kernel
theorem dX3_check_138 : decode cX3_check 138 = .ok (.aload_n 0, 1) := by decide +kernel
theorem dX3_check_139 : decode cX3_check 139 = .ok (.getfield 13, 3) := by decide +kernel
theorem dX3_check_142 : decode cX3_check 142 = .ok (.iload 7, 2) := by decide +kernel
theorem dX3_check_144 : decode cX3_check 144 = .ok (.iaload, 1) := by decide +kernel
theorem dX3_check_145 : decode cX3_check 145 = .ok (.goto 13, 3) := by decide +kernel
theorem dX3_check_148 : decode cX3_check 148 = .ok (.aload_n 0, 1) := by decide +kernel
theorem dX3_check_149 : decode cX3_check 149 = .ok (.getfield 27, 3) := by decide +kernel
theorem dX3_check_152 : decode cX3_check 152 = .ok (.iload 6, 2) := by decide +kernel
theorem dX3_check_154 : decode cX3_check 154 = .ok (.iload 7, 2) := by decide +kernel
theorem dX3_check_156 : decode cX3_check 156 = .ok (.iadd, 1) := by decide +kernel
theorem dX3_check_157 : decode cX3_check 157 = .ok (.iaload, 1) := by decide +kernel
theorem dX3_check_158 : decode cX3_check 158 = .ok (.if_icmp .ne 7, 3) := by decide +kernel
theorem dX3_check_161 : decode cX3_check 161 = .ok (.iconst 1, 1) := by decide +kernel
theorem dX3_check_162 : decode cX3_check 162 = .ok (.goto 4, 3) := by decide +kernel
theorem dX3_check_165 : decode cX3_check 165 = .ok (.iconst 0, 1) := by decide +kernel
theorem dX3_check_166 : decode cX3_check 166 = .ok (.istore 4, 2) := by decide +kernel
theorem dX3_check_168 : decode cX3_check 168 = .ok (.iinc 7 1, 3) := by decide +kernel
theorem dX3_check_171 : decode cX3_check 171 = .ok (.goto (-57), 3) := by decide +kernel
theorem dX3_check_174 : decode cX3_check 174 = .ok (.iload_n 2, 1) := by decide +kernel
theorem dX3_check_175 : decode cX3_check 175 = .ok (.iload_n 1, 1) := by decide +kernel
theorem dX3_check_176 : decode cX3_check 176 = .ok (.if_icmp .le 7, 3) := by decide +kernel
theorem dX3_check_179 : decode cX3_check 179 = .ok (.iconst 1, 1) := by decide +kernel
theorem dX3_check_180 : decode cX3_check 180 = .ok (.goto 4, 3) := by decide +kernel
theorem dX3_check_183 : decode cX3_check 183 = .ok (.iconst 0, 1) := by decide +kernel
theorem dX3_check_184 : decode cX3_check 184 = .ok (.istore 5, 2) := by decide +kernel
theorem dX3_check_186 : decode cX3_check 186 = .ok (.iload 5, 2) := by decide +kernel
theorem dX3_check_188 : decode cX3_check 188 = .ok (.ifCond .eq 35, 3) := by decide +kernel
theorem dX3_check_191 : decode cX3_check 191 = .ok (.aload_n 0, 1) := by decide +kernel
theorem dX3_check_192 : decode cX3_check 192 = .ok (.iload_n 2, 1) := by decide +kernel
theorem dX3_check_193 : decode cX3_check 193 = .ok (.iload_n 1, 1) := by decide +kernel
theorem dX3_check_194 : decode cX3_check 194 = .ok (.invokevirtual 213, 3) := by decide +kernel
theorem dX3_check_197 : decode cX3_check 197 = .ok (.istore 7, 2) := by decide +kernel
theorem dX3_check_199 : decode cX3_check 199 = .ok (.iload 7, 2) := by decide +kernel
theorem dX3_check_201 : decode cX3_check 201 = .ok (.iload_n 2, 1) := by decide +kernel
theorem dX3_check_202 : decode cX3_check 202 = .ok (.iload_n 2, 1) := by decide +kernel
theorem dX3_check_203 : decode cX3_check 203 = .ok (.invokestatic 147, 3) := by decide +kernel
theorem dX3_check_206 : decode cX3_check 206 = .ok (.isub, 1) := by decide +kernel
theorem dX3_check_207 : decode cX3_check 207 = .ok (.if_icmp .ne 10, 3) := by decide +kernel
theorem dX3_check_210 : decode cX3_check 210 = .ok (.iload_n 3, 1) := by decide +kernel
theorem dX3_check_211 : decode cX3_check 211 = .ok (.bipush 8, 2) := by decide +kernel
theorem dX3_check_213 : decode cX3_check 213 = .ok (.iadd, 1) := by decide +kernel
theorem dX3_check_214 : decode cX3_check 214 = .ok (.goto 4, 3) := by decide +kernel
theorem dX3_check_217 : decode cX3_check 217 = .ok (.iload_n 3, 1) := by decide +kernel
theorem dX3_check_218 : decode cX3_check 218 = .ok (.istore 6, 2) := by decide +kernel
theorem dX3_check_220 : decode cX3_check 220 = .ok (.iload 7, 2) := by decide +kernel
theorem dX3_check_222 : decode cX3_check 222 = .ok (.istore_n 2, 1) := by decide +kernel
theorem dX3_check_223 : decode cX3_check 223 = .ok (.iinc 3 26, 3) := by decide +kernel
theorem dX3_check_226 : decode cX3_check 226 = .ok (.goto (-193), 3) := by decide +kernel
theorem dX3_check_229 : decode cX3_check 229 = .ok (.iload 4, 2) := by decide +kernel
theorem dX3_check_231 : decode cX3_check 231 = .ok (.ifCond .eq 15, 3) := by decide +kernel
theorem dX3_check_234 : decode cX3_check 234 = .ok (.iload_n 3, 1) := by decide +kernel
theorem dX3_check_235 : decode cX3_check 235 = .ok (.aload_n 0, 1) := by decide +kernel
theorem dX3_check_236 : decode cX3_check 236 = .ok (.getfield 216, 3) := by decide +kernel
theorem dX3_check_239 : decode cX3_check 239 = .ok (.if_icmp .ne 7, 3) := by decide +kernel
theorem dX3_check_242 : decode cX3_check 242 = .ok (.iconst 1, 1) := by decide +kernel
theorem dX3_check_243 : decode cX3_check 243 = .ok (.goto 4, 3) := by decide +kernel
theorem dX3_check_246 : decode cX3_check 246 = .ok (.iconst 0, 1) := by decide +kernel
theorem dX3_check_247 : decode cX3_check 247 = .ok (.ireturn, 1) := by decide +kernel
