theorem dX2_find_33 : decode cX2_find 33 = .ok (.ireturn, 1) := by decide +kernel
theorem dX2_find_34 : decode cX2_find 34 = .ok (.iinc 2 1, 3) := by decide +kernel
theorem dX2_find_37 : decode cX2_find 37 = .ok (.goto (-22), 3) := by decide +kernel
theorem dX2_find_40 : decode cX2_find 40 = .ok (.iconst (-1), 1) := by decide +kernel
theorem dX2_find_41 : decode cX2_find 41 = .ok (.ireturn, 1) := by decide +kernel
set_option maxRecDepth 20000 in
theorem ggX2_stir_X0_stirred : GoodIn wsX2_stir wsX0_stirred := goodIn_r _ [4, 5, 6, 7, 8, 9, 10, 11, 12] (by decide +kernel) (by decide +kernel)
set_option maxRecDepth 20000 in
theorem gX2_stir_X0_stirred : GoodIn wsX2_stir (va_wsS RX2 138 yX0_stirred wsX0_stirred) := goodIn_app (goodIn_of _ (by decide +kernel)) ggX2_stir_X0_stirred
theorem dX2_stir_0 : decode cX2_stir 0 = .ok (.iload_n 1, 1) := by decide +kernel
theorem dX2_stir_1 : decode cX2_stir 1 = .ok (.iload_n 2, 1) := by decide +kernel
theorem dX2_stir_2 : decode cX2_stir 2 = .ok (.invokestatic 138, 3) := by decide +kernel
theorem dX2_stir_5 : decode cX2_stir 5 = .ok (.ireturn, 1) := by decide +kernel
theorem dX2_hasWord_0 : decode cX2_hasWord 0 = .ok (.iload_n 1, 1) := by decide +kernel
theorem dX2_hasWord_1 : decode cX2_hasWord 1 = .ok (.bipush 34, 2) := by decide +kernel
theorem dX2_hasWord_3 : decode cX2_hasWord 3 = .ok (.imul, 1) := by decide +kernel
theorem dX2_hasWord_4 : decode cX2_hasWord 4 = .ok (.bipush 16, 2) := by decide +kernel
theorem dX2_hasWord_6 : decode cX2_hasWord 6 = .ok (.iadd, 1) := by decide +kernel
theorem dX2_hasWord_7 : decode cX2_hasWord 7 = .ok (.istore_n 3, 1) := by decide +kernel
theorem dX2_hasWord_8 : decode cX2_hasWord 8 = .ok (.iconst 0, 1) := by decide +kernel
theorem dX2_hasWord_9 : decode cX2_hasWord 9 = .ok (.istore 4, 2) := by decide +kernel
theorem dX2_hasWord_11 : decode cX2_hasWord 11 = .ok (.iload 4, 2) := by decide +kernel
theorem dX2_hasWord_13 : decode cX2_hasWord 13 = .ok (.bipush 8, 2) := by decide +kernel
theorem dX2_hasWord_15 : decode cX2_hasWord 15 = .ok (.if_icmp .ge 24, 3) := by decide +kernel
theorem dX2_hasWord_18 : decode cX2_hasWord 18 = .ok (.aload_n 0, 1) := by decide +kernel
theorem dX2_hasWord_19 : decode cX2_hasWord 19 = .ok (.getfield 23, 3) := by decide +kernel
theorem dX2_hasWord_22 : decode cX2_hasWord 22 = .ok (.iload_n 3, 1) := by decide +kernel
theorem dX2_hasWord_23 : decode cX2_hasWord 23 = .ok (.iload 4, 2) := by decide +kernel
theorem dX2_hasWord_25 : decode cX2_hasWord 25 = .ok (.iadd, 1) := by decide +kernel
theorem dX2_hasWord_26 : decode cX2_hasWord 26 = .ok (.iaload, 1) := by decide +kernel
theorem dX2_hasWord_27 : decode cX2_hasWord 27 = .ok (.iload_n 2, 1) := by decide +kernel
theorem dX2_hasWord_28 : decode cX2_hasWord 28 = .ok (.if_icmp .ne 5, 3) := by decide +kernel
theorem dX2_hasWord_31 : decode cX2_hasWord 31 = .ok (.iconst 1, 1) := by decide +kernel
theorem dX2_hasWord_32 : decode cX2_hasWord 32 = .ok (.ireturn, 1) := by decide +kernel
theorem dX2_hasWord_33 : decode cX2_hasWord 33 = .ok (.iinc 4 1, 3) := by decide +kernel
theorem dX2_hasWord_36 : decode cX2_hasWord 36 = .ok (.goto (-25), 3) := by decide +kernel
theorem dX2_hasWord_39 : decode cX2_hasWord 39 = .ok (.iconst 0, 1) := by decide +kernel
theorem dX2_hasWord_40 : decode cX2_hasWord 40 = .ok (.ireturn, 1) := by decide +kernel
set_option maxRecDepth 20000 in
theorem ggX2_addToFilter_X0_include : GoodIn wsX2_addToFilter wsX0_include := goodIn_r _ [7, 8, 9, 10, 6, 11, 12, 13, 14, 15, 16, 17, 18, 19, 20, 21, 22, 23, 38] (by decide +kernel) (by decide +kernel)
set_option maxRecDepth 20000 in
theorem gX2_addToFilter_X0_include : GoodIn wsX2_addToFilter (wsV RX2 141 RX0 yX0_include wsX0_include) := goodIn_app (goodIn_of _ (by decide +kernel)) ggX2_addToFilter_X0_include
theorem dX2_addToFilter_0 : decode cX2_addToFilter 0 = .ok (.iload_n 1, 1) := by decide +kernel
theorem dX2_addToFilter_1 : decode cX2_addToFilter 1 = .ok (.bipush 34, 2) := by decide +kernel
theorem dX2_addToFilter_3 : decode cX2_addToFilter 3 = .ok (.imul, 1) := by decide +kernel
theorem dX2_addToFilter_4 : decode cX2_addToFilter 4 = .ok (.bipush 16, 2) := by decide +kernel
theorem dX2_addToFilter_6 : decode cX2_addToFilter 6 = .ok (.iadd, 1) := by decide +kernel
theorem dX2_addToFilter_7 : decode cX2_addToFilter 7 = .ok (.istore_n 2, 1) := by decide +kernel
theorem dX2_addToFilter_8 : decode cX2_addToFilter 8 = .ok (.iconst 0, 1) := by decide +kernel
theorem dX2_addToFilter_9 : decode cX2_addToFilter 9 = .ok (.istore_n 3, 1) := by decide +kernel
theorem dX2_addToFilter_10 : decode cX2_addToFilter 10 = .ok (.iload_n 3, 1) := by decide +kernel
theorem dX2_addToFilter_11 : decode cX2_addToFilter 11 = .ok (.bipush 8, 2) := by decide +kernel
theorem dX2_addToFilter_13 : decode cX2_addToFilter 13 = .ok (.if_icmp .ge 24, 3) := by decide +kernel
theorem dX2_addToFilter_16 : decode cX2_addToFilter 16 = .ok (.aload_n 0, 1) := by decide +kernel
theorem dX2_addToFilter_17 : decode cX2_addToFilter 17 = .ok (.getfield 19, 3) := by decide +kernel
theorem dX2_addToFilter_20 : decode cX2_addToFilter 20 = .ok (.aload_n 0, 1) := by decide +kernel
theorem dX2_addToFilter_21 : decode cX2_addToFilter 21 = .ok (.getfield 23, 3) := by decide +kernel
theorem dX2_addToFilter_24 : decode cX2_addToFilter 24 = .ok (.iload_n 2, 1) := by decide +kernel
theorem dX2_addToFilter_25 : decode cX2_addToFilter 25 = .ok (.iload_n 3, 1) := by decide +kernel
theorem dX2_addToFilter_26 : decode cX2_addToFilter 26 = .ok (.iadd, 1) := by decide +kernel
theorem dX2_addToFilter_27 : decode cX2_addToFilter 27 = .ok (.iaload, 1) := by decide +kernel
theorem dX2_addToFilter_28 : decode cX2_addToFilter 28 = .ok (.invokevirtual 141, 3) := by decide +kernel
theorem dX2_addToFilter_31 : decode cX2_addToFilter 31 = .ok (.iinc 3 1, 3) := by decide +kernel
theorem dX2_addToFilter_34 : decode cX2_addToFilter 34 = .ok (.goto (-24), 3) := by decide +kernel
theorem dX2_addToFilter_37 : decode cX2_addToFilter 37 = .ok (.return_, 1) := by decide +kernel
set_option maxRecDepth 20000 in
theorem ggX2_remakeFilter_X0_clear : GoodIn wsX2_remakeFilter wsX0_clear := goodIn_r _ [7, 8, 9, 10, 11, 12, 51] (by decide +kernel) (by decide +kernel)
set_option maxRecDepth 20000 in
theorem gX2_remakeFilter_X0_clear : GoodIn wsX2_remakeFilter (wsV RX2 144 RX0 yX0_clear wsX0_clear) := goodIn_app (goodIn_of _ (by decide +kernel)) ggX2_remakeFilter_X0_clear
set_option maxRecDepth 20000 in
theorem ggX2_remakeFilter_X2_addToFilter : GoodIn wsX2_remakeFilter wsX2_addToFilter := goodIn_r _ [17, 1, 18, 19, 20, 21, 6, 22, 8, 23, 24, 25, 26, 27, 28, 29, 30, 31, 32, 33, 34, 35, 16, 36, 37, 38, 39, 40, 41, 42, 43, 44, 45, 46, 47, 48, 49, 50, 51] (by decide +kernel) (by decide +kernel)
set_option maxRecDepth 20000 in
theorem gX2_remakeFilter_X2_addToFilter : GoodIn wsX2_remakeFilter (wsV RX2 90 RX2 yX2_addToFilter wsX2_addToFilter) := goodIn_app (goodIn_of _ (by decide +kernel)) ggX2_remakeFilter_X2_addToFilter
theorem dX2_remakeFilter_0 : decode cX2_remakeFilter 0 = .ok (.aload_n 0, 1) := by decide +kernel
theorem dX2_remakeFilter_1 : decode cX2_remakeFilter 1 = .ok (.getfield 19, 3) := by decide +kernel
theorem dX2_remakeFilter_4 : decode cX2_remakeFilter 4 = .ok (.invokevirtual 144, 3) := by decide +kernel
theorem dX2_remakeFilter_7 : decode cX2_remakeFilter 7 = .ok (.iconst 0, 1) := by decide +kernel
theorem dX2_remakeFilter_8 : decode cX2_remakeFilter 8 = .ok (.istore_n 1, 1) := by decide +kernel
theorem dX2_remakeFilter_9 : decode cX2_remakeFilter 9 = .ok (.iload_n 1, 1) := by decide +kernel
theorem dX2_remakeFilter_10 : decode cX2_remakeFilter 10 = .ok (.aload_n 0, 1) := by decide +kernel
theorem dX2_remakeFilter_11 : decode cX2_remakeFilter 11 = .ok (.getfield 36, 3) := by decide +kernel
theorem dX2_remakeFilter_14 : decode cX2_remakeFilter 14 = .ok (.if_icmp .ge 14, 3) := by decide +kernel
theorem dX2_remakeFilter_17 : decode cX2_remakeFilter 17 = .ok (.aload_n 0, 1) := by decide +kernel
theorem dX2_remakeFilter_18 : decode cX2_remakeFilter 18 = .ok (.iload_n 1, 1) := by decide +kernel
theorem dX2_remakeFilter_19 : decode cX2_remakeFilter 19 = .ok (.invokevirtual 90, 3) := by decide +kernel
theorem dX2_remakeFilter_22 : decode cX2_remakeFilter 22 = .ok (.iinc 1 1, 3) := by decide +kernel
theorem dX2_remakeFilter_25 : decode cX2_remakeFilter 25 = .ok (.goto (-16), 3) := by decide +kernel
theorem dX2_remakeFilter_28 : decode cX2_remakeFilter 28 = .ok (.return_, 1) := by decide +kernel
theorem dX2_begin_0 : decode cX2_begin 0 = .ok (.aload_n 0, 1) := by decide +kernel
theorem dX2_begin_1 : decode cX2_begin 1 = .ok (.getfield 61, 3) := by decide +kernel
theorem dX2_begin_4 : decode cX2_begin 4 = .ok (.istore_n 1, 1) := by decide +kernel
theorem dX2_begin_5 : decode cX2_begin 5 = .ok (.aload_n 0, 1) := by decide +kernel
theorem dX2_begin_6 : decode cX2_begin 6 = .ok (.iconst 0, 1) := by decide +kernel
theorem dX2_begin_7 : decode cX2_begin 7 = .ok (.putfield 61, 3) := by decide +kernel
theorem dX2_begin_10 : decode cX2_begin 10 = .ok (.iload_n 1, 1) := by decide +kernel
theorem dX2_begin_11 : decode cX2_begin 11 = .ok (.ireturn, 1) := by decide +kernel
set_option maxRecDepth 20000 in
theorem ggX2_audit_X2_auditHead : GoodIn wsX2_audit wsX2_auditHead := goodIn_r _ [8, 3, 9, 1, 10, 11, 12, 13, 14, 15, 16, 7, 17, 18, 19, 20, 21, 22, 84, 85, 86, 87, 88, 89, 90, 91, 92, 93, 94, 95, 96, 97] (by decide +kernel) (by decide +kernel)
set_option maxRecDepth 20000 in
theorem gX2_audit_X2_auditHead : GoodIn wsX2_audit (wsV RX2 147 RX2 yX2_auditHead wsX2_auditHead) := goodIn_app (goodIn_of _ (by decide +kernel)) ggX2_audit_X2_auditHead
set_option maxRecDepth 20000 in
theorem ggX2_audit_X2_faultOf : GoodIn wsX2_audit wsX2_faultOf := goodIn_r _ [26, 18, 27, 14, 15, 16, 7, 17, 19, 20, 21, 22, 3, 28, 29, 30, 31, 32, 33, 34, 35, 36, 37, 38, 39, 40, 41, 42, 43, 44, 45, 46, 47, 48, 49, 50, 51, 52, 53, 54, 55, 56, 57, 58, 59, 60, 61, 62, 63, 64, 65, 66, 67, 68, 69, 70, 71, 72, 73, 74, 75, 76, 77, 78, 79, 80, 81, 82, 83, 84, 85, 86, 87, 88, 89, 90, 91, 92, 93, 94, 95, 96, 97, 98, 99, 100] (by decide +kernel) (by decide +kernel)
set_option maxRecDepth 20000 in
theorem gX2_audit_X2_faultOf : GoodIn wsX2_audit (wsV RX2 150 RX2 yX2_faultOf wsX2_faultOf) := goodIn_app (goodIn_of _ (by decide +kernel)) ggX2_audit_X2_faultOf
theorem dX2_audit_0 : decode cX2_audit 0 = .ok (.iload_n 1, 1) := by decide +kernel
theorem dX2_audit_1 : decode cX2_audit 1 = .ok (.iconst 1, 1) := by decide +kernel
theorem dX2_audit_2 : decode cX2_audit 2 = .ok (.if_icmp .lt 9, 3) := by decide +kernel
theorem dX2_audit_5 : decode cX2_audit 5 = .ok (.iload_n 1, 1) := by decide +kernel
theorem dX2_audit_6 : decode cX2_audit 6 = .ok (.bipush 100, 2) := by decide +kernel
theorem dX2_audit_8 : decode cX2_audit 8 = .ok (.if_icmp .le 6, 3) := by decide +kernel
theorem dX2_audit_11 : decode cX2_audit 11 = .ok (.bipush (-2), 2) := by decide +kernel
theorem dX2_audit_13 : decode cX2_audit 13 = .ok (.ireturn, 1) := by decide +kernel
theorem dX2_audit_14 : decode cX2_audit 14 = .ok (.aload_n 0, 1) := by decide +kernel
theorem dX2_audit_15 : decode cX2_audit 15 = .ok (.iconst 0, 1) := by decide +kernel
theorem dX2_audit_16 : decode cX2_audit 16 = .ok (.putfield 64, 3) := by decide +kernel
theorem dX2_audit_19 : decode cX2_audit 19 = .ok (.iconst 0, 1) := by decide +kernel
theorem dX2_audit_20 : decode cX2_audit 20 = .ok (.istore_n 2, 1) := by decide +kernel
theorem dX2_audit_21 : decode cX2_audit 21 = .ok (.iload_n 2, 1) := by decide +kernel
theorem dX2_audit_22 : decode cX2_audit 22 = .ok (.iload_n 1, 1) := by decide +kernel
theorem dX2_audit_23 : decode cX2_audit 23 = .ok (.if_icmp .ge 59, 3) := by decide +kernel
theorem dX2_audit_26 : decode cX2_audit 26 = .ok (.aload_n 0, 1) := by decide +kernel
theorem dX2_audit_27 : decode cX2_audit 27 = .ok (.getfield 61, 3) := by decide +kernel
theorem dX2_audit_30 : decode cX2_audit 30 = .ok (.aload_n 0, 1) := by decide +kernel
theorem dX2_audit_31 : decode cX2_audit 31 = .ok (.getfield 36, 3) := by decide +kernel
theorem dX2_audit_34 : decode cX2_audit 34 = .ok (.if_icmp .lt 8, 3) := by decide +kernel
theorem dX2_audit_37 : decode cX2_audit 37 = .ok (.aload_n 0, 1) := by decide +kernel
theorem dX2_audit_38 : decode cX2_audit 38 = .ok (.invokevirtual 147, 3) := by decide +kernel
theorem dX2_audit_41 : decode cX2_audit 41 = .ok (.ireturn, 1) := by decide +kernel
theorem dX2_audit_42 : decode cX2_audit 42 = .ok (.aload_n 0, 1) := by decide +kernel
theorem dX2_audit_43 : decode cX2_audit 43 = .ok (.aload_n 0, 1) := by decide +kernel
theorem dX2_audit_44 : decode cX2_audit 44 = .ok (.aload_n 0, 1) := by decide +kernel
theorem dX2_audit_45 : decode cX2_audit 45 = .ok (.getfield 61, 3) := by decide +kernel
theorem dX2_audit_48 : decode cX2_audit 48 = .ok (.invokevirtual 150, 3) := by decide +kernel
theorem dX2_audit_51 : decode cX2_audit 51 = .ok (.putfield 64, 3) := by decide +kernel
theorem dX2_audit_54 : decode cX2_audit 54 = .ok (.aload_n 0, 1) := by decide +kernel
theorem dX2_audit_55 : decode cX2_audit 55 = .ok (.getfield 64, 3) := by decide +kernel
theorem dX2_audit_58 : decode cX2_audit 58 = .ok (.ifCond .eq 8, 3) := by decide +kernel
theorem dX2_audit_61 : decode cX2_audit 61 = .ok (.aload_n 0, 1) := by decide +kernel
theorem dX2_audit_62 : decode cX2_audit 62 = .ok (.getfield 61, 3) := by decide +kernel
theorem dX2_audit_65 : decode cX2_audit 65 = .ok (.ireturn, 1) := by decide +kernel
theorem dX2_audit_66 : decode cX2_audit 66 = .ok (.aload_n 0, 1) := by decide +kernel
theorem dX2_audit_67 : decode cX2_audit 67 = .ok (.dup, 1) := by decide +kernel
theorem dX2_audit_68 : decode cX2_audit 68 = .ok (.getfield 61, 3) := by decide +kernel
theorem dX2_audit_71 : decode cX2_audit 71 = .ok (.iconst 1, 1) := by decide +kernel
theorem dX2_audit_72 : decode cX2_audit 72 = .ok (.iadd, 1) := by decide +kernel
theorem dX2_audit_73 : decode cX2_audit 73 = .ok (.putfield 61, 3) := by decide +kernel
theorem dX2_audit_76 : decode cX2_audit 76 = .ok (.iinc 2 1, 3) := by decide +kernel
theorem dX2_audit_79 : decode cX2_audit 79 = .ok (.goto (-58), 3) := by decide +kernel
theorem dX2_audit_82 : decode cX2_audit 82 = .ok (.iconst (-1), 1) := by decide +kernel
theorem dX2_audit_83 : decode cX2_audit 83 = .ok (.ireturn, 1) := by decide +kernel
theorem dX2_fault_0 : decode cX2_fault 0 = .ok (.aload_n 0, 1) := by decide +kernel
theorem dX2_fault_1 : decode cX2_fault 1 = .ok (.getfield 64, 3) := by decide +kernel
theorem dX2_fault_4 : decode cX2_fault 4 = .ok (.ireturn, 1) := by decide +kernel
set_option maxRecDepth 20000 in
theorem ggX2_auditHead_X2_isHashOf : GoodIn wsX2_auditHead wsX2_isHashOf := goodIn_r _ [12, 13, 14, 15, 16, 11, 17, 1, 18, 19, 20, 21, 22, 23, 24, 25, 26, 27, 28, 29, 30, 31] (by decide +kernel) (by decide +kernel)
set_option maxRecDepth 20000 in
theorem gX2_auditHead_X2_isHashOf : GoodIn wsX2_auditHead (wsV RX2 153 RX2 yX2_isHashOf wsX2_isHashOf) := goodIn_app (goodIn_of _ (by decide +kernel)) ggX2_auditHead_X2_isHashOf
theorem dX2_auditHead_0 : decode cX2_auditHead 0 = .ok (.aload_n 0, 1) := by decide +kernel
theorem dX2_auditHead_1 : decode cX2_auditHead 1 = .ok (.aload_n 0, 1) := by decide +kernel
theorem dX2_auditHead_2 : decode cX2_auditHead 2 = .ok (.getfield 36, 3) := by decide +kernel
theorem dX2_auditHead_5 : decode cX2_auditHead 5 = .ok (.iconst 1, 1) := by decide +kernel
theorem dX2_auditHead_6 : decode cX2_auditHead 6 = .ok (.isub, 1) := by decide +kernel
theorem dX2_auditHead_7 : decode cX2_auditHead 7 = .ok (.aload_n 0, 1) := by decide +kernel
theorem dX2_auditHead_8 : decode cX2_auditHead 8 = .ok (.getfield 27, 3) := by decide +kernel
theorem dX2_auditHead_11 : decode cX2_auditHead 11 = .ok (.iconst 0, 1) := by decide +kernel
theorem dX2_auditHead_12 : decode cX2_auditHead 12 = .ok (.invokevirtual 153, 3) := by decide +kernel
theorem dX2_auditHead_15 : decode cX2_auditHead 15 = .ok (.ifCond .eq 6, 3) := by decide +kernel
theorem dX2_auditHead_18 : decode cX2_auditHead 18 = .ok (.bipush (-5), 2) := by decide +kernel
theorem dX2_auditHead_20 : decode cX2_auditHead 20 = .ok (.ireturn, 1) := by decide +kernel
theorem dX2_auditHead_21 : decode cX2_auditHead 21 = .ok (.aload_n 0, 1) := by decide +kernel
theorem dX2_auditHead_22 : decode cX2_auditHead 22 = .ok (.aload_n 0, 1) := by decide +kernel
theorem dX2_auditHead_23 : decode cX2_auditHead 23 = .ok (.getfield 36, 3) := by decide +kernel
theorem dX2_auditHead_26 : decode cX2_auditHead 26 = .ok (.ifCond .ne 8, 3) := by decide +kernel
theorem dX2_auditHead_29 : decode cX2_auditHead 29 = .ok (.bipush 6, 2) := by decide +kernel
theorem dX2_auditHead_31 : decode cX2_auditHead 31 = .ok (.goto 4, 3) := by decide +kernel
theorem dX2_auditHead_34 : decode cX2_auditHead 34 = .ok (.iconst 5, 1) := by decide +kernel
theorem dX2_auditHead_35 : decode cX2_auditHead 35 = .ok (.putfield 64, 3) := by decide +kernel
theorem dX2_auditHead_38 : decode cX2_auditHead 38 = .ok (.iconst 0, 1) := by decide +kernel
theorem dX2_auditHead_39 : decode cX2_auditHead 39 = .ok (.aload_n 0, 1) := by decide +kernel
theorem dX2_auditHead_40 : decode cX2_auditHead 40 = .ok (.getfield 36, 3) := by decide +kernel
theorem dX2_auditHead_43 : decode cX2_auditHead 43 = .ok (.iconst 1, 1) := by decide +kernel
theorem dX2_auditHead_44 : decode cX2_auditHead 44 = .ok (.isub, 1) := by decide +kernel
theorem dX2_auditHead_45 : decode cX2_auditHead 45 = .ok (.invokestatic 49, 3) := by decide +kernel
theorem dX2_auditHead_48 : decode cX2_auditHead 48 = .ok (.ireturn, 1) := by decide +kernel
set_option maxRecDepth 20000 in
theorem ggX2_faultOf_X2_isHashOf : GoodIn wsX2_faultOf wsX2_isHashOf := goodIn_r _ [7, 1, 8, 9, 10, 6, 11, 12, 69, 70, 71, 72, 73, 74, 75, 76, 77, 78, 79, 80, 81, 82] (by decide +kernel) (by decide +kernel)
set_option maxRecDepth 20000 in
theorem gX2_faultOf_X2_isHashOf : GoodIn wsX2_faultOf (wsV RX2 153 RX2 yX2_isHashOf wsX2_isHashOf) := goodIn_app (goodIn_of _ (by decide +kernel)) ggX2_faultOf_X2_isHashOf
set_option maxRecDepth 20000 in
theorem ggX2_faultOf_X2_skipOf : GoodIn wsX2_faultOf wsX2_skipOf := goodIn_r _ [15] (by decide +kernel) (by decide +kernel)
set_option maxRecDepth 20000 in
theorem gX2_faultOf_X2_skipOf : GoodIn wsX2_faultOf (va_wsS RX2 103 yX2_skipOf wsX2_skipOf) := goodIn_app (goodIn_of _ (by decide +kernel)) ggX2_faultOf_X2_skipOf
set_option maxRecDepth 20000 in
theorem ggX2_faultOf_X1_takeAll : GoodIn wsX2_faultOf wsX1_takeAll := goodIn_r _ [20, 21, 22, 23, 19, 24, 25, 26, 27, 28, 29, 30, 31, 32, 33, 34, 35, 36, 37, 38, 39, 40, 41, 6, 42, 43, 44, 45, 46, 47, 48, 49, 50, 51, 52, 53, 54, 55, 83, 84, 85] (by decide +kernel) (by decide +kernel)
set_option maxRecDepth 20000 in
theorem gX2_faultOf_X1_takeAll : GoodIn wsX2_faultOf (wsV RX2 157 RX1 yX1_takeAll wsX1_takeAll) := goodIn_app (goodIn_of _ (by decide +kernel)) ggX2_faultOf_X1_takeAll
set_option maxRecDepth 20000 in
theorem ggX2_faultOf_X1_isAt : GoodIn wsX2_faultOf wsX1_isAt := goodIn_r _ [59, 47, 83, 84, 85] (by decide +kernel) (by decide +kernel)
set_option maxRecDepth 20000 in
theorem gX2_faultOf_X1_isAt : GoodIn wsX2_faultOf (wsV RX2 160 RX1 yX1_isAt wsX1_isAt) := goodIn_app (goodIn_of _ (by decide +kernel)) ggX2_faultOf_X1_isAt
set_option maxRecDepth 20000 in
theorem ggX2_faultOf_X1_zeros : GoodIn wsX2_faultOf wsX1_zeros := goodIn_r _ [63, 47, 64, 65, 66, 67, 68, 83, 84, 85] (by decide +kernel) (by decide +kernel)
set_option maxRecDepth 20000 in
theorem gX2_faultOf_X1_zeros : GoodIn wsX2_faultOf (wsV RX2 118 RX1 yX1_zeros wsX1_zeros) := goodIn_app (goodIn_of _ (by decide +kernel)) ggX2_faultOf_X1_zeros
theorem dX2_faultOf_0 : decode cX2_faultOf 0 = .ok (.iload_n 1, 1) := by decide +kernel
theorem dX2_faultOf_1 : decode cX2_faultOf 1 = .ok (.bipush 34, 2) := by decide +kernel
theorem dX2_faultOf_3 : decode cX2_faultOf 3 = .ok (.imul, 1) := by decide +kernel
theorem dX2_faultOf_4 : decode cX2_faultOf 4 = .ok (.istore_n 2, 1) := by decide +kernel
theorem dX2_faultOf_5 : decode cX2_faultOf 5 = .ok (.aload_n 0, 1) := by decide +kernel
theorem dX2_faultOf_6 : decode cX2_faultOf 6 = .ok (.iload_n 1, 1) := by decide +kernel
theorem dX2_faultOf_7 : decode cX2_faultOf 7 = .ok (.iconst 1, 1) := by decide +kernel
theorem dX2_faultOf_8 : decode cX2_faultOf 8 = .ok (.isub, 1) := by decide +kernel
theorem dX2_faultOf_9 : decode cX2_faultOf 9 = .ok (.aload_n 0, 1) := by decide +kernel
theorem dX2_faultOf_10 : decode cX2_faultOf 10 = .ok (.getfield 23, 3) := by decide +kernel
theorem dX2_faultOf_13 : decode cX2_faultOf 13 = .ok (.iload_n 2, 1) := by decide +kernel
theorem dX2_faultOf_14 : decode cX2_faultOf 14 = .ok (.iconst 0, 1) := by decide +kernel
theorem dX2_faultOf_15 : decode cX2_faultOf 15 = .ok (.iadd, 1) := by decide +kernel
theorem dX2_faultOf_16 : decode cX2_faultOf 16 = .ok (.invokevirtual 153, 3) := by decide +kernel
theorem dX2_faultOf_19 : decode cX2_faultOf 19 = .ok (.ifCond .ne 5, 3) := by decide +kernel
theorem dX2_faultOf_22 : decode cX2_faultOf 22 = .ok (.iconst 1, 1) := by decide +kernel
theorem dX2_faultOf_23 : decode cX2_faultOf 23 = .ok (.ireturn, 1) := by decide +kernel
theorem dX2_faultOf_24 : decode cX2_faultOf 24 = .ok (.aload_n 0, 1) := by decide +kernel
theorem dX2_faultOf_25 : decode cX2_faultOf 25 = .ok (.iload_n 1, 1) := by decide +kernel
theorem dX2_faultOf_26 : decode cX2_faultOf 26 = .ok (.invokestatic 103, 3) := by decide +kernel
theorem dX2_faultOf_29 : decode cX2_faultOf 29 = .ok (.aload_n 0, 1) := by decide +kernel
theorem dX2_faultOf_30 : decode cX2_faultOf 30 = .ok (.getfield 23, 3) := by decide +kernel
theorem dX2_faultOf_33 : decode cX2_faultOf 33 = .ok (.iload_n 2, 1) := by decide +kernel
theorem dX2_faultOf_34 : decode cX2_faultOf 34 = .ok (.bipush 8, 2) := by decide +kernel
theorem dX2_faultOf_36 : decode cX2_faultOf 36 = .ok (.iadd, 1) := by decide +kernel
theorem dX2_faultOf_37 : decode cX2_faultOf 37 = .ok (.invokevirtual 153, 3) := by decide +kernel
theorem dX2_faultOf_40 : decode cX2_faultOf 40 = .ok (.ifCond .ne 5, 3) := by decide +kernel
theorem dX2_faultOf_43 : decode cX2_faultOf 43 = .ok (.iconst 2, 1) := by decide +kernel
theorem dX2_faultOf_44 : decode cX2_faultOf 44 = .ok (.ireturn, 1) := by decide +kernel
theorem dX2_faultOf_45 : decode cX2_faultOf 45 = .ok (.aload_n 0, 1) := by decide +kernel
theorem dX2_faultOf_46 : decode cX2_faultOf 46 = .ok (.getfield 10, 3) := by decide +kernel
theorem dX2_faultOf_49 : decode cX2_faultOf 49 = .ok (.aload_n 0, 1) := by decide +kernel
theorem dX2_faultOf_50 : decode cX2_faultOf 50 = .ok (.getfield 23, 3) := by decide +kernel
theorem dX2_faultOf_53 : decode cX2_faultOf 53 = .ok (.iload_n 2, 1) := by decide +kernel
theorem dX2_faultOf_54 : decode cX2_faultOf 54 = .ok (.invokevirtual 157, 3) := by decide +kernel
theorem dX2_faultOf_57 : decode cX2_faultOf 57 = .ok (.aload_n 0, 1) := by decide +kernel
theorem dX2_faultOf_58 : decode cX2_faultOf 58 = .ok (.getfield 10, 3) := by decide +kernel
theorem dX2_faultOf_61 : decode cX2_faultOf 61 = .ok (.aload_n 0, 1) := by decide +kernel
theorem dX2_faultOf_62 : decode cX2_faultOf 62 = .ok (.getfield 23, 3) := by decide +kernel
theorem dX2_faultOf_65 : decode cX2_faultOf 65 = .ok (.iload_n 2, 1) := by decide +kernel
theorem dX2_faultOf_66 : decode cX2_faultOf 66 = .ok (.bipush 26, 2) := by decide +kernel
theorem dX2_faultOf_68 : decode cX2_faultOf 68 = .ok (.iadd, 1) := by decide +kernel
theorem dX2_faultOf_69 : decode cX2_faultOf 69 = .ok (.invokevirtual 160, 3) := by decide +kernel
theorem dX2_faultOf_72 : decode cX2_faultOf 72 = .ok (.ifCond .ne 5, 3) := by decide +kernel
theorem dX2_faultOf_75 : decode cX2_faultOf 75 = .ok (.iconst 3, 1) := by decide +kernel
theorem dX2_faultOf_76 : decode cX2_faultOf 76 = .ok (.ireturn, 1) := by decide +kernel
theorem dX2_faultOf_77 : decode cX2_faultOf 77 = .ok (.aload_n 0, 1) := by decide +kernel
theorem dX2_faultOf_78 : decode cX2_faultOf 78 = .ok (.getfield 10, 3) := by decide +kernel
theorem dX2_faultOf_81 : decode cX2_faultOf 81 = .ok (.invokevirtual 118, 3) := by decide +kernel
theorem dX2_faultOf_84 : decode cX2_faultOf 84 = .ok (.aload_n 0, 1) := by decide +kernel
theorem dX2_faultOf_85 : decode cX2_faultOf 85 = .ok (.getfield 23, 3) := by decide +kernel
theorem dX2_faultOf_88 : decode cX2_faultOf 88 = .ok (.iload_n 2, 1) := by decide +kernel
theorem dX2_faultOf_89 : decode cX2_faultOf 89 = .ok (.bipush 24, 2) := by decide +kernel
theorem dX2_faultOf_91 : decode cX2_faultOf 91 = .ok (.iadd, 1) := by decide +kernel
theorem dX2_faultOf_92 : decode cX2_faultOf 92 = .ok (.iaload, 1) := by decide +kernel
theorem dX2_faultOf_93 : decode cX2_faultOf 93 = .ok (.iconst 4, 1) := by decide +kernel
theorem dX2_faultOf_94 : decode cX2_faultOf 94 = .ok (.iushr, 1) := by decide +kernel
theorem dX2_faultOf_95 : decode cX2_faultOf 95 = .ok (.if_icmp .ge 5, 3) := by decide +kernel
theorem dX2_faultOf_98 : decode cX2_faultOf 98 = .ok (.iconst 4, 1) := by decide +kernel
theorem dX2_faultOf_99 : decode cX2_faultOf 99 = .ok (.ireturn, 1) := by decide +kernel
theorem dX2_faultOf_100 : decode cX2_faultOf 100 = .ok (.iconst 0, 1) := by decide +kernel
theorem dX2_faultOf_101 : decode cX2_faultOf 101 = .ok (.ireturn, 1) := by decide +kernel
set_option maxRecDepth 20000 in
theorem ggX2_isHashOf_X2_hasEntry : GoodIn wsX2_isHashOf wsX2_hasEntry := goodIn_r _ [6, 7, 8, 9, 10, 11, 12, 13, 14, 15, 16, 17, 18, 19, 20, 21] (by decide +kernel) (by decide +kernel)
set_option maxRecDepth 20000 in
theorem gX2_isHashOf_X2_hasEntry : GoodIn wsX2_isHashOf (wsV RX2 107 RX2 yX2_hasEntry wsX2_hasEntry) := goodIn_app (goodIn_of _ (by decide +kernel)) ggX2_isHashOf_X2_hasEntry
theorem dX2_isHashOf_0 : decode cX2_isHashOf 0 = .ok (.aload_n 0, 1) := by decide +kernel
theorem dX2_isHashOf_1 : decode cX2_isHashOf 1 = .ok (.iload_n 1, 1) := by decide +kernel
theorem dX2_isHashOf_2 : decode cX2_isHashOf 2 = .ok (.invokevirtual 107, 3) := by decide +kernel
theorem dX2_isHashOf_5 : decode cX2_isHashOf 5 = .ok (.istore 4, 2) := by decide +kernel
theorem dX2_isHashOf_7 : decode cX2_isHashOf 7 = .ok (.iconst 0, 1) := by decide +kernel
theorem dX2_isHashOf_8 : decode cX2_isHashOf 8 = .ok (.istore 5, 2) := by decide +kernel
theorem dX2_isHashOf_10 : decode cX2_isHashOf 10 = .ok (.iload 5, 2) := by decide +kernel
theorem dX2_isHashOf_12 : decode cX2_isHashOf 12 = .ok (.bipush 8, 2) := by decide +kernel
theorem dX2_isHashOf_14 : decode cX2_isHashOf 14 = .ok (.if_icmp .ge 48, 3) := by decide +kernel
theorem dX2_isHashOf_17 : decode cX2_isHashOf 17 = .ok (.iload 4, 2) := by decide +kernel
theorem dX2_isHashOf_19 : decode cX2_isHashOf 19 = .ok (.ifCond .eq 21, 3) := by decide +kernel
theorem dX2_isHashOf_22 : decode cX2_isHashOf 22 = .ok (.aload_n 0, 1) := by decide +kernel
theorem dX2_isHashOf_23 : decode cX2_isHashOf 23 = .ok (.getfield 23, 3) := by decide +kernel
theorem dX2_isHashOf_26 : decode cX2_isHashOf 26 = .ok (.iload_n 1, 1) := by decide +kernel
theorem dX2_isHashOf_27 : decode cX2_isHashOf 27 = .ok (.bipush 34, 2) := by decide +kernel
theorem dX2_isHashOf_29 : decode cX2_isHashOf 29 = .ok (.imul, 1) := by decide +kernel
theorem dX2_isHashOf_30 : decode cX2_isHashOf 30 = .ok (.bipush 26, 2) := by decide +kernel
theorem dX2_isHashOf_32 : decode cX2_isHashOf 32 = .ok (.iadd, 1) := by decide +kernel
theorem dX2_isHashOf_33 : decode cX2_isHashOf 33 = .ok (.iload 5, 2) := by decide +kernel
theorem dX2_isHashOf_35 : decode cX2_isHashOf 35 = .ok (.iadd, 1) := by decide +kernel
theorem dX2_isHashOf_36 : decode cX2_isHashOf 36 = .ok (.iaload, 1) := by decide +kernel
theorem dX2_isHashOf_37 : decode cX2_isHashOf 37 = .ok (.goto 4, 3) := by decide +kernel
theorem dX2_isHashOf_40 : decode cX2_isHashOf 40 = .ok (.iconst 0, 1) := by decide +kernel
theorem dX2_isHashOf_41 : decode cX2_isHashOf 41 = .ok (.istore 6, 2) := by decide +kernel
theorem dX2_isHashOf_43 : decode cX2_isHashOf 43 = .ok (.aload_n 2, 1) := by decide +kernel
theorem dX2_isHashOf_44 : decode cX2_isHashOf 44 = .ok (.iload_n 3, 1) := by decide +kernel
theorem dX2_isHashOf_45 : decode cX2_isHashOf 45 = .ok (.iload 5, 2) := by decide +kernel
theorem dX2_isHashOf_47 : decode cX2_isHashOf 47 = .ok (.iadd, 1) := by decide +kernel
theorem dX2_isHashOf_48 : decode cX2_isHashOf 48 = .ok (.iaload, 1) := by decide +kernel
theorem dX2_isHashOf_49 : decode cX2_isHashOf 49 = .ok (.iload 6, 2) := by decide +kernel
theorem dX2_isHashOf_51 : decode cX2_isHashOf 51 = .ok (.if_icmp .eq 5, 3) := by decide +kernel
theorem dX2_isHashOf_54 : decode cX2_isHashOf 54 = .ok (.iconst 0, 1) := by decide +kernel
theorem dX2_isHashOf_55 : decode cX2_isHashOf 55 = .ok (.ireturn, 1) := by decide +kernel
theorem dX2_isHashOf_56 : decode cX2_isHashOf 56 = .ok (.iinc 5 1, 3) := by decide +kernel
theorem dX2_isHashOf_59 : decode cX2_isHashOf 59 = .ok (.goto (-49), 3) := by decide +kernel
theorem dX2_isHashOf_62 : decode cX2_isHashOf 62 = .ok (.iconst 1, 1) := by decide +kernel
theorem dX2_isHashOf_63 : decode cX2_isHashOf 63 = .ok (.ireturn, 1) := by decide +kernel
set_option maxRecDepth 20000 in
theorem ggX2_way_X2_hasEntry : GoodIn wsX2_way wsX2_hasEntry := goodIn_r _ [6, 1, 20, 21, 22, 23, 24, 25, 26, 27, 28, 29, 30, 31, 32, 33] (by decide +kernel) (by decide +kernel)
set_option maxRecDepth 20000 in
theorem gX2_way_X2_hasEntry : GoodIn wsX2_way (wsV RX2 107 RX2 yX2_hasEntry wsX2_hasEntry) := goodIn_app (goodIn_of _ (by decide +kernel)) ggX2_way_X2_hasEntry
set_option maxRecDepth 20000 in
theorem ggX2_way_X2_levelsTo : GoodIn wsX2_way wsX2_levelsTo := goodIn_r _ [10, 1, 11, 12, 5, 13, 14, 15, 16, 17, 18, 19, 20, 21, 22, 23, 24, 25, 26, 27, 28, 29, 30, 31, 32, 33] (by decide +kernel) (by decide +kernel)
set_option maxRecDepth 20000 in
theorem gX2_way_X2_levelsTo : GoodIn wsX2_way (wsV RX2 164 RX2 yX2_levelsTo wsX2_levelsTo) := goodIn_app (goodIn_of _ (by decide +kernel)) ggX2_way_X2_levelsTo
set_option maxRecDepth 20000 in
theorem ggX2_way_X2_nextOnWay : GoodIn wsX2_way wsX2_nextOnWay := goodIn_r _ [13, 14, 15, 5, 16, 17, 18, 19] (by decide +kernel) (by decide +kernel)
set_option maxRecDepth 20000 in
theorem gX2_way_X2_nextOnWay : GoodIn wsX2_way (va_wsS RX2 167 yX2_nextOnWay wsX2_nextOnWay) := goodIn_app (goodIn_of _ (by decide +kernel)) ggX2_way_X2_nextOnWay
theorem dX2_way_0 : decode cX2_way 0 = .ok (.aload_n 0, 1) := by decide +kernel
theorem dX2_way_1 : decode cX2_way 1 = .ok (.iload_n 1, 1) := by decide +kernel
theorem dX2_way_2 : decode cX2_way 2 = .ok (.invokevirtual 107, 3) := by decide +kernel
theorem dX2_way_5 : decode cX2_way 5 = .ok (.ifCond .ne 6, 3) := by decide +kernel
theorem dX2_way_8 : decode cX2_way 8 = .ok (.bipush (-2), 2) := by decide +kernel
theorem dX2_way_10 : decode cX2_way 10 = .ok (.ireturn, 1) := by decide +kernel
theorem dX2_way_11 : decode cX2_way 11 = .ok (.iload_n 2, 1) := by decide +kernel
theorem dX2_way_12 : decode cX2_way 12 = .ok (.ifCond .lt 12, 3) := by decide +kernel
theorem dX2_way_15 : decode cX2_way 15 = .ok (.iload_n 2, 1) := by decide +kernel
theorem dX2_way_16 : decode cX2_way 16 = .ok (.aload_n 0, 1) := by decide +kernel
theorem dX2_way_17 : decode cX2_way 17 = .ok (.iload_n 1, 1) := by decide +kernel
theorem dX2_way_18 : decode cX2_way 18 = .ok (.invokevirtual 164, 3) := by decide +kernel
theorem dX2_way_21 : decode cX2_way 21 = .ok (.if_icmp .lt 5, 3) := by decide +kernel
theorem dX2_way_24 : decode cX2_way 24 = .ok (.iconst (-1), 1) := by decide +kernel
theorem dX2_way_25 : decode cX2_way 25 = .ok (.ireturn, 1) := by decide +kernel
theorem dX2_way_26 : decode cX2_way 26 = .ok (.aload_n 0, 1) := by decide +kernel
theorem dX2_way_27 : decode cX2_way 27 = .ok (.getfield 36, 3) := by decide +kernel
theorem dX2_way_30 : decode cX2_way 30 = .ok (.iconst 1, 1) := by decide +kernel
theorem dX2_way_31 : decode cX2_way 31 = .ok (.isub, 1) := by decide +kernel
theorem dX2_way_32 : decode cX2_way 32 = .ok (.istore_n 3, 1) := by decide +kernel
theorem dX2_way_33 : decode cX2_way 33 = .ok (.iconst 0, 1) := by decide +kernel
theorem dX2_way_34 : decode cX2_way 34 = .ok (.istore 4, 2) := by decide +kernel
theorem dX2_way_36 : decode cX2_way 36 = .ok (.iload 4, 2) := by decide +kernel
theorem dX2_way_38 : decode cX2_way 38 = .ok (.iload_n 2, 1) := by decide +kernel
theorem dX2_way_39 : decode cX2_way 39 = .ok (.if_icmp .ge 15, 3) := by decide +kernel
theorem dX2_way_42 : decode cX2_way 42 = .ok (.iload_n 3, 1) := by decide +kernel
theorem dX2_way_43 : decode cX2_way 43 = .ok (.iload_n 1, 1) := by decide +kernel
theorem dX2_way_44 : decode cX2_way 44 = .ok (.invokestatic 167, 3) := by decide +kernel
theorem dX2_way_47 : decode cX2_way 47 = .ok (.istore_n 3, 1) := by decide +kernel
theorem dX2_way_48 : decode cX2_way 48 = .ok (.iinc 4 1, 3) := by decide +kernel
theorem dX2_way_51 : decode cX2_way 51 = .ok (.goto (-15), 3) := by decide +kernel
theorem dX2_way_54 : decode cX2_way 54 = .ok (.iload_n 3, 1) := by decide +kernel
theorem dX2_way_55 : decode cX2_way 55 = .ok (.ireturn, 1) := by decide +kernel
set_option maxRecDepth 20000 in
theorem ggX2_prove_X2_hasEntry : GoodIn wsX2_prove wsX2_hasEntry := goodIn_r _ [13, 1, 27, 28, 29, 30, 31, 32, 33, 34, 35, 36, 37, 38, 39, 40] (by decide +kernel) (by decide +kernel)
set_option maxRecDepth 20000 in
theorem gX2_prove_X2_hasEntry : GoodIn wsX2_prove (wsV RX2 107 RX2 yX2_hasEntry wsX2_hasEntry) := goodIn_app (goodIn_of _ (by decide +kernel)) ggX2_prove_X2_hasEntry
set_option maxRecDepth 20000 in
theorem ggX2_prove_X2_levelsTo : GoodIn wsX2_prove wsX2_levelsTo := goodIn_r _ [17, 1, 18, 19, 12, 20, 21, 22, 23, 24, 25, 26, 27, 28, 29, 30, 31, 32, 33, 34, 35, 36, 37, 38, 39, 40] (by decide +kernel) (by decide +kernel)
set_option maxRecDepth 20000 in
theorem gX2_prove_X2_levelsTo : GoodIn wsX2_prove (wsV RX2 164 RX2 yX2_levelsTo wsX2_levelsTo) := goodIn_app (goodIn_of _ (by decide +kernel)) ggX2_prove_X2_levelsTo
set_option maxRecDepth 20000 in
theorem ggX2_prove_X2_nextOnWay : GoodIn wsX2_prove wsX2_nextOnWay := goodIn_r _ [20, 21, 22, 12, 23, 24, 25, 26] (by decide +kernel) (by decide +kernel)
set_option maxRecDepth 20000 in
theorem gX2_prove_X2_nextOnWay : GoodIn wsX2_prove (va_wsS RX2 167 yX2_nextOnWay wsX2_nextOnWay) := goodIn_app (goodIn_of _ (by decide +kernel)) ggX2_prove_X2_nextOnWay
theorem dX2_prove_0 : decode cX2_prove 0 = .ok (.aload_n 0, 1) := by decide +kernel
theorem dX2_prove_1 : decode cX2_prove 1 = .ok (.iload_n 1, 1) := by decide +kernel
theorem dX2_prove_2 : decode cX2_prove 2 = .ok (.invokevirtual 107, 3) := by decide +kernel
theorem dX2_prove_5 : decode cX2_prove 5 = .ok (.ifCond .ne 6, 3) := by decide +kernel
theorem dX2_prove_8 : decode cX2_prove 8 = .ok (.bipush (-2), 2) := by decide +kernel
theorem dX2_prove_10 : decode cX2_prove 10 = .ok (.ireturn, 1) := by decide +kernel
theorem dX2_prove_11 : decode cX2_prove 11 = .ok (.aload_n 0, 1) := by decide +kernel
theorem dX2_prove_12 : decode cX2_prove 12 = .ok (.iload_n 1, 1) := by decide +kernel
theorem dX2_prove_13 : decode cX2_prove 13 = .ok (.invokevirtual 164, 3) := by decide +kernel
theorem dX2_prove_16 : decode cX2_prove 16 = .ok (.istore_n 2, 1) := by decide +kernel
theorem dX2_prove_17 : decode cX2_prove 17 = .ok (.aload_n 0, 1) := by decide +kernel
theorem dX2_prove_18 : decode cX2_prove 18 = .ok (.getfield 36, 3) := by decide +kernel
theorem dX2_prove_21 : decode cX2_prove 21 = .ok (.iconst 1, 1) := by decide +kernel
theorem dX2_prove_22 : decode cX2_prove 22 = .ok (.isub, 1) := by decide +kernel
theorem dX2_prove_23 : decode cX2_prove 23 = .ok (.istore_n 3, 1) := by decide +kernel
theorem dX2_prove_24 : decode cX2_prove 24 = .ok (.iconst 0, 1) := by decide +kernel
theorem dX2_prove_25 : decode cX2_prove 25 = .ok (.istore 4, 2) := by decide +kernel
theorem dX2_prove_27 : decode cX2_prove 27 = .ok (.iload 4, 2) := by decide +kernel
theorem dX2_prove_29 : decode cX2_prove 29 = .ok (.iload_n 2, 1) := by decide +kernel
theorem dX2_prove_30 : decode cX2_prove 30 = .ok (.if_icmp .ge 37, 3) := by decide +kernel
theorem dX2_prove_33 : decode cX2_prove 33 = .ok (.aload_n 0, 1) := by decide +kernel
theorem dX2_prove_34 : decode cX2_prove 34 = .ok (.getfield 23, 3) := by decide +kernel
theorem dX2_prove_37 : decode cX2_prove 37 = .ok (.iload_n 3, 1) := by decide +kernel
theorem dX2_prove_38 : decode cX2_prove 38 = .ok (.bipush 34, 2) := by decide +kernel
theorem dX2_prove_40 : decode cX2_prove 40 = .ok (.imul, 1) := by decide +kernel
theorem dX2_prove_41 : decode cX2_prove 41 = .ok (.aload_n 0, 1) := by decide +kernel
theorem dX2_prove_42 : decode cX2_prove 42 = .ok (.getfield 33, 3) := by decide +kernel
theorem dX2_prove_45 : decode cX2_prove 45 = .ok (.iload 4, 2) := by decide +kernel
theorem dX2_prove_47 : decode cX2_prove 47 = .ok (.bipush 26, 2) := by decide +kernel
theorem dX2_prove_49 : decode cX2_prove 49 = .ok (.imul, 1) := by decide +kernel
theorem dX2_prove_50 : decode cX2_prove 50 = .ok (.bipush 26, 2) := by decide +kernel
theorem dX2_prove_52 : decode cX2_prove 52 = .ok (.invokestatic 84, 3) := by decide +kernel
theorem dX2_prove_55 : decode cX2_prove 55 = .ok (.iload_n 3, 1) := by decide +kernel
theorem dX2_prove_56 : decode cX2_prove 56 = .ok (.iload_n 1, 1) := by decide +kernel
theorem dX2_prove_57 : decode cX2_prove 57 = .ok (.invokestatic 167, 3) := by decide +kernel
theorem dX2_prove_60 : decode cX2_prove 60 = .ok (.istore_n 3, 1) := by decide +kernel
theorem dX2_prove_61 : decode cX2_prove 61 = .ok (.iinc 4 1, 3) := by decide +kernel
theorem dX2_prove_64 : decode cX2_prove 64 = .ok (.goto (-37), 3) := by decide +kernel
theorem dX2_prove_67 : decode cX2_prove 67 = .ok (.aload_n 0, 1) := by decide +kernel
theorem dX2_prove_68 : decode cX2_prove 68 = .ok (.iload_n 2, 1) := by decide +kernel
theorem dX2_prove_69 : decode cX2_prove 69 = .ok (.bipush 26, 2) := by decide +kernel
theorem dX2_prove_71 : decode cX2_prove 71 = .ok (.imul, 1) := by decide +kernel
theorem dX2_prove_72 : decode cX2_prove 72 = .ok (.putfield 67, 3) := by decide +kernel
theorem dX2_prove_75 : decode cX2_prove 75 = .ok (.aload_n 0, 1) := by decide +kernel
theorem dX2_prove_76 : decode cX2_prove 76 = .ok (.getfield 67, 3) := by decide +kernel
theorem dX2_prove_79 : decode cX2_prove 79 = .ok (.ireturn, 1) := by decide +kernel
theorem dX2_proof_0 : decode cX2_proof 0 = .ok (.iload_n 1, 1) := by decide +kernel
theorem dX2_proof_1 : decode cX2_proof 1 = .ok (.ifCond .lt 11, 3) := by decide +kernel
theorem dX2_proof_4 : decode cX2_proof 4 = .ok (.iload_n 1, 1) := by decide +kernel
theorem dX2_proof_5 : decode cX2_proof 5 = .ok (.aload_n 0, 1) := by decide +kernel
theorem dX2_proof_6 : decode cX2_proof 6 = .ok (.getfield 67, 3) := by decide +kernel
theorem dX2_proof_9 : decode cX2_proof 9 = .ok (.if_icmp .lt 5, 3) := by decide +kernel
theorem dX2_proof_12 : decode cX2_proof 12 = .ok (.iconst 0, 1) := by decide +kernel
theorem dX2_proof_13 : decode cX2_proof 13 = .ok (.ireturn, 1) := by decide +kernel
theorem dX2_proof_14 : decode cX2_proof 14 = .ok (.aload_n 0, 1) := by decide +kernel
theorem dX2_proof_15 : decode cX2_proof 15 = .ok (.getfield 33, 3) := by decide +kernel
theorem dX2_proof_18 : decode cX2_proof 18 = .ok (.iload_n 1, 1) := by decide +kernel
theorem dX2_proof_19 : decode cX2_proof 19 = .ok (.iaload, 1) := by decide +kernel
theorem dX2_proof_20 : decode cX2_proof 20 = .ok (.ireturn, 1) := by decide +kernel
theorem dX2_forge_0 : decode cX2_forge 0 = .ok (.iload_n 1, 1) := by decide +kernel
theorem dX2_forge_1 : decode cX2_forge 1 = .ok (.ifCond .lt 11, 3) := by decide +kernel
theorem dX2_forge_4 : decode cX2_forge 4 = .ok (.iload_n 1, 1) := by decide +kernel
theorem dX2_forge_5 : decode cX2_forge 5 = .ok (.aload_n 0, 1) := by decide +kernel
theorem dX2_forge_6 : decode cX2_forge 6 = .ok (.getfield 67, 3) := by decide +kernel
theorem dX2_forge_9 : decode cX2_forge 9 = .ok (.if_icmp .lt 5, 3) := by decide +kernel
theorem dX2_forge_12 : decode cX2_forge 12 = .ok (.iconst 0, 1) := by decide +kernel
theorem dX2_forge_13 : decode cX2_forge 13 = .ok (.ireturn, 1) := by decide +kernel
theorem dX2_forge_14 : decode cX2_forge 14 = .ok (.aload_n 0, 1) := by decide +kernel
theorem dX2_forge_15 : decode cX2_forge 15 = .ok (.getfield 33, 3) := by decide +kernel
theorem dX2_forge_18 : decode cX2_forge 18 = .ok (.iload_n 1, 1) := by decide +kernel
theorem dX2_forge_19 : decode cX2_forge 19 = .ok (.iaload, 1) := by decide +kernel
theorem dX2_forge_20 : decode cX2_forge 20 = .ok (.istore_n 3, 1) := by decide +kernel
theorem dX2_forge_21 : decode cX2_forge 21 = .ok (.aload_n 0, 1) := by decide +kernel
theorem dX2_forge_22 : decode cX2_forge 22 = .ok (.getfield 33, 3) := by decide +kernel
theorem dX2_forge_25 : decode cX2_forge 25 = .ok (.iload_n 1, 1) := by decide +kernel
theorem dX2_forge_26 : decode cX2_forge 26 = .ok (.iload_n 2, 1) := by decide +kernel
theorem dX2_forge_27 : decode cX2_forge 27 = .ok (.iastore, 1) := by decide +kernel
theorem dX2_forge_28 : decode cX2_forge 28 = .ok (.iload_n 3, 1) := by decide +kernel
theorem dX2_forge_29 : decode cX2_forge 29 = .ok (.ireturn, 1) := by decide +kernel
set_option maxRecDepth 20000 in
theorem ggX2_check_X2_hasEntry : GoodIn wsX2_check wsX2_hasEntry := goodIn_r _ [5, 6, 72, 73, 74, 75, 76, 77, 78, 79, 80, 81, 82, 83, 84, 85] (by decide +kernel) (by decide +kernel)
set_option maxRecDepth 20000 in
theorem gX2_check_X2_hasEntry : GoodIn wsX2_check (wsV RX2 107 RX2 yX2_hasEntry wsX2_hasEntry) := goodIn_app (goodIn_of _ (by decide +kernel)) ggX2_check_X2_hasEntry
set_option maxRecDepth 20000 in
theorem ggX2_check_X2_proofHolds : GoodIn wsX2_check wsX2_proofHolds := goodIn_r _ [10, 11, 12, 6, 13, 14, 15, 16, 17, 4, 18, 19, 20, 21, 22, 23, 24, 25, 26, 27, 28, 29, 30, 31, 32, 33, 34, 35, 36, 37, 38, 39, 40, 41, 42, 43, 44, 45, 46, 47, 48, 49, 50, 51, 52, 53, 54, 55, 56, 57, 58, 59, 60, 61, 62, 63, 64, 65, 66, 67, 68, 69, 70, 71, 72, 73, 74, 75, 76, 77, 78, 79, 80, 81, 82, 83, 84, 85, 86, 87, 88] (by decide +kernel) (by decide +kernel)
set_option maxRecDepth 20000 in
theorem gX2_check_X2_proofHolds : GoodIn wsX2_check (wsV RX2 170 RX2 yX2_proofHolds wsX2_proofHolds) := goodIn_app (goodIn_of _ (by decide +kernel)) ggX2_check_X2_proofHolds
theorem dX2_check_0 : decode cX2_check 0 = .ok (.aload_n 0, 1) := by decide +kernel
theorem dX2_check_1 : decode cX2_check 1 = .ok (.iload_n 1, 1) := by decide +kernel
theorem dX2_check_2 : decode cX2_check 2 = .ok (.invokevirtual 107, 3) := by decide +kernel
theorem dX2_check_5 : decode cX2_check 5 = .ok (.ifCond .ne 6, 3) := by decide +kernel
theorem dX2_check_8 : decode cX2_check 8 = .ok (.bipush (-2), 2) := by decide +kernel
theorem dX2_check_10 : decode cX2_check 10 = .ok (.ireturn, 1) := by decide +kernel
theorem dX2_check_11 : decode cX2_check 11 = .ok (.aload_n 0, 1) := by decide +kernel
theorem dX2_check_12 : decode cX2_check 12 = .ok (.iload_n 1, 1) := by decide +kernel
theorem dX2_check_13 : decode cX2_check 13 = .ok (.invokevirtual 170, 3) := by decide +kernel
theorem dX2_check_16 : decode cX2_check 16 = .ok (.ifCond .eq 7, 3) := by decide +kernel
theorem dX2_check_19 : decode cX2_check 19 = .ok (.iconst 1, 1) := by decide +kernel
theorem dX2_check_20 : decode cX2_check 20 = .ok (.goto 4, 3) := by decide +kernel
theorem dX2_check_23 : decode cX2_check 23 = .ok (.iconst 0, 1) := by decide +kernel
theorem dX2_check_24 : decode cX2_check 24 = .ok (.ireturn, 1) := by decide +kernel
set_option maxRecDepth 20000 in
theorem ggX2_proofHolds_X2_levelsTo : GoodIn wsX2_proofHolds wsX2_levelsTo := goodIn_r _ [10, 3, 11, 12, 9, 13, 14, 15, 16, 17, 18, 19, 64, 65, 66, 67, 68, 69, 70, 71, 72, 73, 74, 75, 76, 77] (by decide +kernel) (by decide +kernel)
set_option maxRecDepth 20000 in
theorem gX2_proofHolds_X2_levelsTo : GoodIn wsX2_proofHolds (wsV RX2 164 RX2 yX2_levelsTo wsX2_levelsTo) := goodIn_app (goodIn_of _ (by decide +kernel)) ggX2_proofHolds_X2_levelsTo
set_option maxRecDepth 20000 in
theorem ggX2_proofHolds_X1_takeAll : GoodIn wsX2_proofHolds wsX1_takeAll := goodIn_r _ [24, 25, 26, 27, 23, 28, 29, 30, 31, 32, 33, 34, 35, 36, 37, 38, 39, 40, 41, 42, 43, 44, 45, 9, 46, 47, 48, 49, 50, 51, 52, 53, 54, 55, 56, 57, 58, 59, 78, 79, 80] (by decide +kernel) (by decide +kernel)
set_option maxRecDepth 20000 in
theorem gX2_proofHolds_X1_takeAll : GoodIn wsX2_proofHolds (wsV RX2 157 RX1 yX1_takeAll wsX1_takeAll) := goodIn_app (goodIn_of _ (by decide +kernel)) ggX2_proofHolds_X1_takeAll
set_option maxRecDepth 20000 in
theorem ggX2_proofHolds_X1_isAt : GoodIn wsX2_proofHolds wsX1_isAt := goodIn_r _ [63, 51, 78, 79, 80] (by decide +kernel) (by decide +kernel)
set_option maxRecDepth 20000 in
theorem gX2_proofHolds_X1_isAt : GoodIn wsX2_proofHolds (wsV RX2 160 RX1 yX1_isAt wsX1_isAt) := goodIn_app (goodIn_of _ (by decide +kernel)) ggX2_proofHolds_X1_isAt
set_option maxRecDepth 20000 in
theorem ggX2_proofHolds_X2_goesBySkip : GoodIn wsX2_proofHolds wsX2_goesBySkip := goodIn_r _ [16, 17, 18, 9, 19] (by decide +kernel) (by decide +kernel)
set_option maxRecDepth 20000 in
theorem gX2_proofHolds_X2_goesBySkip : GoodIn wsX2_proofHolds (va_wsS RX2 173 yX2_goesBySkip wsX2_goesBySkip) := goodIn_app (goodIn_of _ (by decide +kernel)) ggX2_proofHolds_X2_goesBySkip
set_option maxRecDepth 20000 in
theorem ggX2_proofHolds_X2_nextOnWay : GoodIn wsX2_proofHolds wsX2_nextOnWay := goodIn_r _ [13, 14, 15, 9, 16, 17, 18, 19] (by decide +kernel) (by decide +kernel)
set_option maxRecDepth 20000 in
theorem gX2_proofHolds_X2_nextOnWay : GoodIn wsX2_proofHolds (va_wsS RX2 167 yX2_nextOnWay wsX2_nextOnWay) := goodIn_app (goodIn_of _ (by decide +kernel)) ggX2_proofHolds_X2_nextOnWay
theorem dX2_proofHolds_0 : decode cX2_proofHolds 0 = .ok (.aload_n 0, 1) := by decide +kernel
theorem dX2_proofHolds_1 : decode cX2_proofHolds 1 = .ok (.iload_n 1, 1) := by decide +kernel
theorem dX2_proofHolds_2 : decode cX2_proofHolds 2 = .ok (.invokevirtual 164, 3) := by decide +kernel
theorem dX2_proofHolds_5 : decode cX2_proofHolds 5 = .ok (.istore_n 2, 1) := by decide +kernel
theorem dX2_proofHolds_6 : decode cX2_proofHolds 6 = .ok (.aload_n 0, 1) := by decide +kernel
theorem dX2_proofHolds_7 : decode cX2_proofHolds 7 = .ok (.getfield 67, 3) := by decide +kernel
theorem dX2_proofHolds_10 : decode cX2_proofHolds 10 = .ok (.iload_n 2, 1) := by decide +kernel
theorem dX2_proofHolds_11 : decode cX2_proofHolds 11 = .ok (.bipush 26, 2) := by decide +kernel
theorem dX2_proofHolds_13 : decode cX2_proofHolds 13 = .ok (.imul, 1) := by decide +kernel
theorem dX2_proofHolds_14 : decode cX2_proofHolds 14 = .ok (.if_icmp .eq 5, 3) := by decide +kernel
theorem dX2_proofHolds_17 : decode cX2_proofHolds 17 = .ok (.iconst 0, 1) := by decide +kernel
theorem dX2_proofHolds_18 : decode cX2_proofHolds 18 = .ok (.ireturn, 1) := by decide +kernel
theorem dX2_proofHolds_19 : decode cX2_proofHolds 19 = .ok (.aload_n 0, 1) := by decide +kernel
theorem dX2_proofHolds_20 : decode cX2_proofHolds 20 = .ok (.getfield 27, 3) := by decide +kernel
theorem dX2_proofHolds_23 : decode cX2_proofHolds 23 = .ok (.astore_n 3, 1) := by decide +kernel
theorem dX2_proofHolds_24 : decode cX2_proofHolds 24 = .ok (.iconst 0, 1) := by decide +kernel
theorem dX2_proofHolds_25 : decode cX2_proofHolds 25 = .ok (.istore 4, 2) := by decide +kernel
theorem dX2_proofHolds_27 : decode cX2_proofHolds 27 = .ok (.aload_n 0, 1) := by decide +kernel
theorem dX2_proofHolds_28 : decode cX2_proofHolds 28 = .ok (.getfield 36, 3) := by decide +kernel
theorem dX2_proofHolds_31 : decode cX2_proofHolds 31 = .ok (.iconst 1, 1) := by decide +kernel
theorem dX2_proofHolds_32 : decode cX2_proofHolds 32 = .ok (.isub, 1) := by decide +kernel
theorem dX2_proofHolds_33 : decode cX2_proofHolds 33 = .ok (.istore 5, 2) := by decide +kernel
theorem dX2_proofHolds_35 : decode cX2_proofHolds 35 = .ok (.iconst 0, 1) := by decide +kernel
theorem dX2_proofHolds_36 : decode cX2_proofHolds 36 = .ok (.istore 6, 2) := by decide +kernel
theorem dX2_proofHolds_38 : decode cX2_proofHolds 38 = .ok (.iload 6, 2) := by decide +kernel
theorem dX2_proofHolds_40 : decode cX2_proofHolds 40 = .ok (.iload_n 2, 1) := by decide +kernel
theorem dX2_proofHolds_41 : decode cX2_proofHolds 41 = .ok (.if_icmp .ge 76, 3) := by decide +kernel
theorem dX2_proofHolds_44 : decode cX2_proofHolds 44 = .ok (.aload_n 0, 1) := by decide +kernel
theorem dX2_proofHolds_45 : decode cX2_proofHolds 45 = .ok (.getfield 10, 3) := by decide +kernel
theorem dX2_proofHolds_48 : decode cX2_proofHolds 48 = .ok (.aload_n 0, 1) := by decide +kernel
theorem dX2_proofHolds_49 : decode cX2_proofHolds 49 = .ok (.getfield 33, 3) := by decide +kernel
theorem dX2_proofHolds_52 : decode cX2_proofHolds 52 = .ok (.iload 6, 2) := by decide +kernel
theorem dX2_proofHolds_54 : decode cX2_proofHolds 54 = .ok (.bipush 26, 2) := by decide +kernel
theorem dX2_proofHolds_56 : decode cX2_proofHolds 56 = .ok (.imul, 1) := by decide +kernel
theorem dX2_proofHolds_57 : decode cX2_proofHolds 57 = .ok (.invokevirtual 157, 3) := by decide +kernel
theorem dX2_proofHolds_60 : decode cX2_proofHolds 60 = .ok (.aload_n 0, 1) := by decide +kernel
theorem dX2_proofHolds_61 : decode cX2_proofHolds 61 = .ok (.getfield 10, 3) := by decide +kernel
theorem dX2_proofHolds_64 : decode cX2_proofHolds 64 = .ok (.aload_n 3, 1) := by decide +kernel
theorem dX2_proofHolds_65 : decode cX2_proofHolds 65 = .ok (.iload 4, 2) := by decide +kernel
theorem dX2_proofHolds_67 : decode cX2_proofHolds 67 = .ok (.invokevirtual 160, 3) := by decide +kernel
theorem dX2_proofHolds_70 : decode cX2_proofHolds 70 = .ok (.ifCond .ne 5, 3) := by decide +kernel
theorem dX2_proofHolds_73 : decode cX2_proofHolds 73 = .ok (.iconst 0, 1) := by decide +kernel
theorem dX2_proofHolds_74 : decode cX2_proofHolds 74 = .ok (.ireturn, 1) := by decide +kernel
theorem dX2_proofHolds_75 : decode cX2_proofHolds 75 = .ok (.aload_n 0, 1) := by decide +kernel
theorem dX2_proofHolds_76 : decode cX2_proofHolds 76 = .ok (.getfield 33, 3) := by decide +kernel
theorem dX2_proofHolds_79 : decode cX2_proofHolds 79 = .ok (.astore_n 3, 1) := by decide +kernel
theorem dX2_proofHolds_80 : decode cX2_proofHolds 80 = .ok (.iload 6, 2) := by decide +kernel
theorem dX2_proofHolds_82 : decode cX2_proofHolds 82 = .ok (.bipush 26, 2) := by decide +kernel
theorem dX2_proofHolds_84 : decode cX2_proofHolds 84 = .ok (.imul, 1) := by decide +kernel
theorem dX2_proofHolds_85 : decode cX2_proofHolds 85 = .ok (.iload 5, 2) := by decide +kernel
theorem dX2_proofHolds_87 : decode cX2_proofHolds 87 = .ok (.iload_n 1, 1) := by decide +kernel
theorem dX2_proofHolds_88 : decode cX2_proofHolds 88 = .ok (.invokestatic 173, 3) := by decide +kernel
theorem dX2_proofHolds_91 : decode cX2_proofHolds 91 = .ok (.ifCond .eq 8, 3) := by decide +kernel
theorem dX2_proofHolds_94 : decode cX2_proofHolds 94 = .ok (.bipush 8, 2) := by decide +kernel
theorem dX2_proofHolds_96 : decode cX2_proofHolds 96 = .ok (.goto 4, 3) := by decide +kernel
theorem dX2_proofHolds_99 : decode cX2_proofHolds 99 = .ok (.iconst 0, 1) := by decide +kernel
theorem dX2_proofHolds_100 : decode cX2_proofHolds 100 = .ok (.iadd, 1) := by decide +kernel
theorem dX2_proofHolds_101 : decode cX2_proofHolds 101 = .ok (.istore 4, 2) := by decide +kernel
theorem dX2_proofHolds_103 : decode cX2_proofHolds 103 = .ok (.iload 5, 2) := by decide +kernel
theorem dX2_proofHolds_105 : decode cX2_proofHolds 105 = .ok (.iload_n 1, 1) := by decide +kernel
theorem dX2_proofHolds_106 : decode cX2_proofHolds 106 = .ok (.invokestatic 167, 3) := by decide +kernel
theorem dX2_proofHolds_109 : decode cX2_proofHolds 109 = .ok (.istore 5, 2) := by decide +kernel
theorem dX2_proofHolds_111 : decode cX2_proofHolds 111 = .ok (.iinc 6 1, 3) := by decide +kernel
theorem dX2_proofHolds_114 : decode cX2_proofHolds 114 = .ok (.goto (-76), 3) := by decide +kernel
theorem dX2_proofHolds_117 : decode cX2_proofHolds 117 = .ok (.iconst 1, 1) := by decide +kernel
theorem dX2_proofHolds_118 : decode cX2_proofHolds 118 = .ok (.ireturn, 1) := by decide +kernel
set_option maxRecDepth 20000 in
theorem ggX2_levelsTo_X2_nextOnWay : GoodIn wsX2_levelsTo wsX2_nextOnWay := goodIn_r _ [5, 6, 7, 4, 8, 9, 10, 11] (by decide +kernel) (by decide +kernel)
set_option maxRecDepth 20000 in
theorem gX2_levelsTo_X2_nextOnWay : GoodIn wsX2_levelsTo (va_wsS RX2 167 yX2_nextOnWay wsX2_nextOnWay) := goodIn_app (goodIn_of _ (by decide +kernel)) ggX2_levelsTo_X2_nextOnWay
theorem dX2_levelsTo_0 : decode cX2_levelsTo 0 = .ok (.iconst 1, 1) := by decide +kernel
theorem dX2_levelsTo_1 : decode cX2_levelsTo 1 = .ok (.istore_n 2, 1) := by decide +kernel
theorem dX2_levelsTo_2 : decode cX2_levelsTo 2 = .ok (.aload_n 0, 1) := by decide +kernel
theorem dX2_levelsTo_3 : decode cX2_levelsTo 3 = .ok (.getfield 36, 3) := by decide +kernel
theorem dX2_levelsTo_6 : decode cX2_levelsTo 6 = .ok (.iconst 1, 1) := by decide +kernel
theorem dX2_levelsTo_7 : decode cX2_levelsTo 7 = .ok (.isub, 1) := by decide +kernel
theorem dX2_levelsTo_8 : decode cX2_levelsTo 8 = .ok (.istore_n 3, 1) := by decide +kernel
theorem dX2_levelsTo_9 : decode cX2_levelsTo 9 = .ok (.iload_n 3, 1) := by decide +kernel
theorem dX2_levelsTo_10 : decode cX2_levelsTo 10 = .ok (.iload_n 1, 1) := by decide +kernel
theorem dX2_levelsTo_11 : decode cX2_levelsTo 11 = .ok (.if_icmp .le 21, 3) := by decide +kernel
theorem dX2_levelsTo_14 : decode cX2_levelsTo 14 = .ok (.iload_n 2, 1) := by decide +kernel
theorem dX2_levelsTo_15 : decode cX2_levelsTo 15 = .ok (.bipush 60, 2) := by decide +kernel
theorem dX2_levelsTo_17 : decode cX2_levelsTo 17 = .ok (.if_icmp .ge 15, 3) := by decide +kernel
theorem dX2_levelsTo_20 : decode cX2_levelsTo 20 = .ok (.iload_n 3, 1) := by decide +kernel
theorem dX2_levelsTo_21 : decode cX2_levelsTo 21 = .ok (.iload_n 1, 1) := by decide +kernel
theorem dX2_levelsTo_22 : decode cX2_levelsTo 22 = .ok (.invokestatic 167, 3) := by decide +kernel
theorem dX2_levelsTo_25 : decode cX2_levelsTo 25 = .ok (.istore_n 3, 1) := by decide +kernel
theorem dX2_levelsTo_26 : decode cX2_levelsTo 26 = .ok (.iinc 2 1, 3) := by decide +kernel
theorem dX2_levelsTo_29 : decode cX2_levelsTo 29 = .ok (.goto (-20), 3) := by decide +kernel
theorem dX2_levelsTo_32 : decode cX2_levelsTo 32 = .ok (.iload_n 2, 1) := by decide +kernel
theorem dX2_levelsTo_33 : decode cX2_levelsTo 33 = .ok (.ireturn, 1) := by decide +kernel
set_option maxRecDepth 20000 in
theorem ggX2_nextOnWay_X2_goesBySkip : GoodIn wsX2_nextOnWay wsX2_goesBySkip := goodIn_r _ [4, 5, 6, 3, 7] (by decide +kernel) (by decide +kernel)
set_option maxRecDepth 20000 in
theorem gX2_nextOnWay_X2_goesBySkip : GoodIn wsX2_nextOnWay (va_wsS RX2 173 yX2_goesBySkip wsX2_goesBySkip) := goodIn_app (goodIn_of _ (by decide +kernel)) ggX2_nextOnWay_X2_goesBySkip
set_option maxRecDepth 20000 in
theorem ggX2_nextOnWay_X2_skipOf : GoodIn wsX2_nextOnWay wsX2_skipOf := goodIn_r _ [7] (by decide +kernel) (by decide +kernel)
set_option maxRecDepth 20000 in
theorem gX2_nextOnWay_X2_skipOf : GoodIn wsX2_nextOnWay (va_wsS RX2 103 yX2_skipOf wsX2_skipOf) := goodIn_app (goodIn_of _ (by decide +kernel)) ggX2_nextOnWay_X2_skipOf
theorem dX2_nextOnWay_0 : decode cX2_nextOnWay 0 = .ok (.iload_n 0, 1) := by decide +kernel
theorem dX2_nextOnWay_1 : decode cX2_nextOnWay 1 = .ok (.iload_n 1, 1) := by decide +kernel
theorem dX2_nextOnWay_2 : decode cX2_nextOnWay 2 = .ok (.if_icmp .gt 5, 3) := by decide +kernel
theorem dX2_nextOnWay_5 : decode cX2_nextOnWay 5 = .ok (.iload_n 1, 1) := by decide +kernel
theorem dX2_nextOnWay_6 : decode cX2_nextOnWay 6 = .ok (.ireturn, 1) := by decide +kernel
theorem dX2_nextOnWay_7 : decode cX2_nextOnWay 7 = .ok (.iload_n 0, 1) := by decide +kernel
theorem dX2_nextOnWay_8 : decode cX2_nextOnWay 8 = .ok (.iload_n 1, 1) := by decide +kernel
theorem dX2_nextOnWay_9 : decode cX2_nextOnWay 9 = .ok (.invokestatic 173, 3) := by decide +kernel
theorem dX2_nextOnWay_12 : decode cX2_nextOnWay 12 = .ok (.ifCond .eq 10, 3) := by decide +kernel
theorem dX2_nextOnWay_15 : decode cX2_nextOnWay 15 = .ok (.iload_n 0, 1) := by decide +kernel
theorem dX2_nextOnWay_16 : decode cX2_nextOnWay 16 = .ok (.invokestatic 103, 3) := by decide +kernel
theorem dX2_nextOnWay_19 : decode cX2_nextOnWay 19 = .ok (.goto 6, 3) := by decide +kernel
theorem dX2_nextOnWay_22 : decode cX2_nextOnWay 22 = .ok (.iload_n 0, 1) := by decide +kernel
theorem dX2_nextOnWay_23 : decode cX2_nextOnWay 23 = .ok (.iconst 1, 1) := by decide +kernel
theorem dX2_nextOnWay_24 : decode cX2_nextOnWay 24 = .ok (.isub, 1) := by decide +kernel
theorem dX2_nextOnWay_25 : decode cX2_nextOnWay 25 = .ok (.ireturn, 1) := by decide +kernel
set_option maxRecDepth 20000 in
theorem ggX2_goesBySkip_X2_skipOf : GoodIn wsX2_goesBySkip wsX2_skipOf := goodIn_r _ [4] (by decide +kernel) (by decide +kernel)
set_option maxRecDepth 20000 in
theorem gX2_goesBySkip_X2_skipOf : GoodIn wsX2_goesBySkip (va_wsS RX2 103 yX2_skipOf wsX2_skipOf) := goodIn_app (goodIn_of _ (by decide +kernel)) ggX2_goesBySkip_X2_skipOf
theorem dX2_goesBySkip_0 : decode cX2_goesBySkip 0 = .ok (.iload_n 0, 1) := by decide +kernel
theorem dX2_goesBySkip_1 : decode cX2_goesBySkip 1 = .ok (.invokestatic 103, 3) := by decide +kernel
theorem dX2_goesBySkip_4 : decode cX2_goesBySkip 4 = .ok (.iload_n 1, 1) := by decide +kernel
theorem dX2_goesBySkip_5 : decode cX2_goesBySkip 5 = .ok (.if_icmp .lt 7, 3) := by decide +kernel
theorem dX2_goesBySkip_8 : decode cX2_goesBySkip 8 = .ok (.iconst 1, 1) := by decide +kernel
theorem dX2_goesBySkip_9 : decode cX2_goesBySkip 9 = .ok (.goto 4, 3) := by decide +kernel
theorem dX2_goesBySkip_12 : decode cX2_goesBySkip 12 = .ok (.iconst 0, 1) := by decide +kernel
theorem dX2_goesBySkip_13 : decode cX2_goesBySkip 13 = .ok (.ireturn, 1) := by decide +kernel
