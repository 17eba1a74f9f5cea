theorem dX4_field_62 : decode cX4_field 62 = .ok (.iload_n 1, 1) := by decide +kernel
theorem dX4_field_63 : decode cX4_field 63 = .ok (.if_icmp .ne 7, 3) := by decide +kernel
theorem dX4_field_66 : decode cX4_field 66 = .ok (.iconst 1, 1) := by decide +kernel
theorem dX4_field_67 : decode cX4_field 67 = .ok (.goto 4, 3) := by decide +kernel
theorem dX4_field_70 : decode cX4_field 70 = .ok (.iconst 0, 1) := by decide +kernel
theorem dX4_field_71 : decode cX4_field 71 = .ok (.istore 6, 2) := by decide +kernel
theorem dX4_field_73 : decode cX4_field 73 = .ok (.iload 6, 2) := by decide +kernel
theorem dX4_field_75 : decode cX4_field 75 = .ok (.ifCond .eq 22, 3) := by decide +kernel
theorem dX4_field_78 : decode cX4_field 78 = .ok (.aload_n 0, 1) := by decide +kernel
theorem dX4_field_79 : decode cX4_field 79 = .ok (.iload 4, 2) := by decide +kernel
theorem dX4_field_81 : decode cX4_field 81 = .ok (.invokevirtual 68, 3) := by decide +kernel
theorem dX4_field_84 : decode cX4_field 84 = .ok (.iload_n 3, 1) := by decide +kernel
theorem dX4_field_85 : decode cX4_field 85 = .ok (.if_icmp .le 12, 3) := by decide +kernel
theorem dX4_field_88 : decode cX4_field 88 = .ok (.aload_n 0, 1) := by decide +kernel
theorem dX4_field_89 : decode cX4_field 89 = .ok (.iload 4, 2) := by decide +kernel
theorem dX4_field_91 : decode cX4_field 91 = .ok (.invokevirtual 68, 3) := by decide +kernel
theorem dX4_field_94 : decode cX4_field 94 = .ok (.goto 4, 3) := by decide +kernel
theorem dX4_field_97 : decode cX4_field 97 = .ok (.iload_n 3, 1) := by decide +kernel
theorem dX4_field_98 : decode cX4_field 98 = .ok (.istore_n 3, 1) := by decide +kernel
theorem dX4_field_99 : decode cX4_field 99 = .ok (.iinc 4 1, 3) := by decide +kernel
theorem dX4_field_102 : decode cX4_field 102 = .ok (.goto (-97), 3) := by decide +kernel
theorem dX4_field_105 : decode cX4_field 105 = .ok (.iload_n 3, 1) := by decide +kernel
theorem dX4_field_106 : decode cX4_field 106 = .ok (.ireturn, 1) := by decide +kernel
set_option maxRecDepth 20000 in
theorem ggX4_isColumn_X4_in : GoodIn wsX4_isColumn wsX4_in := goodIn_r _ [4] (by decide +kernel) (by decide +kernel)
set_option maxRecDepth 20000 in
theorem gX4_isColumn_X4_in : GoodIn wsX4_isColumn (va_wsS RX4 38 yX4_in wsX4_in) := goodIn_app (goodIn_of _ (by decide +kernel)) ggX4_isColumn_X4_in
theorem dX4_isColumn_0 : decode cX4_isColumn 0 = .ok (.iload_n 0, 1) := by decide +kernel
theorem dX4_isColumn_1 : decode cX4_isColumn 1 = .ok (.iconst 0, 1) := by decide +kernel
theorem dX4_isColumn_2 : decode cX4_isColumn 2 = .ok (.bipush 9, 2) := by decide +kernel
theorem dX4_isColumn_4 : decode cX4_isColumn 4 = .ok (.invokestatic 38, 3) := by decide +kernel
theorem dX4_isColumn_7 : decode cX4_isColumn 7 = .ok (.ireturn, 1) := by decide +kernel
set_option maxRecDepth 20000 in
theorem ggX4_best_X4_in : GoodIn wsX4_best wsX4_in := goodIn_r _ [4] (by decide +kernel) (by decide +kernel)
set_option maxRecDepth 20000 in
theorem gX4_best_X4_in : GoodIn wsX4_best (va_wsS RX4 38 yX4_in wsX4_in) := goodIn_app (goodIn_of _ (by decide +kernel)) ggX4_best_X4_in
set_option maxRecDepth 20000 in
theorem ggX4_best_X4_isColumn : GoodIn wsX4_best wsX4_isColumn := goodIn_r _ [7, 1, 2, 3, 4] (by decide +kernel) (by decide +kernel)
set_option maxRecDepth 20000 in
theorem gX4_best_X4_isColumn : GoodIn wsX4_best (va_wsS RX4 104 yX4_isColumn wsX4_isColumn) := goodIn_app (goodIn_of _ (by decide +kernel)) ggX4_best_X4_isColumn
set_option maxRecDepth 20000 in
theorem ggX4_best_X4_refused : GoodIn wsX4_best wsX4_refused := goodIn_r _ [11, 12, 62, 63, 64, 65, 66, 67, 68, 69, 70, 71, 72, 73] (by decide +kernel) (by decide +kernel)
set_option maxRecDepth 20000 in
theorem gX4_best_X4_refused : GoodIn wsX4_best (wsV RX4 45 RX4 yX4_refused wsX4_refused) := goodIn_app (goodIn_of _ (by decide +kernel)) ggX4_best_X4_refused
set_option maxRecDepth 20000 in
theorem ggX4_best_X4_field : GoodIn wsX4_best wsX4_field := goodIn_r _ [16, 17, 18, 19, 20, 3, 21, 22, 23, 24, 25, 26, 27, 28, 29, 30, 31, 32, 33, 34, 35, 36, 37, 38, 39, 40, 41, 42, 43, 44, 45, 46, 47, 48, 49, 50, 51, 52, 53, 54, 55, 56, 57, 58, 59, 60, 61, 62, 63, 64, 65, 66, 67, 68, 69, 70, 71, 72, 73] (by decide +kernel) (by decide +kernel)
set_option maxRecDepth 20000 in
theorem gX4_best_X4_field : GoodIn wsX4_best (wsV RX4 107 RX4 yX4_field wsX4_field) := goodIn_app (goodIn_of _ (by decide +kernel)) ggX4_best_X4_field
theorem dX4_best_0 : decode cX4_best 0 = .ok (.aload_n 0, 1) := by decide +kernel
theorem dX4_best_1 : decode cX4_best 1 = .ok (.iload_n 1, 1) := by decide +kernel
theorem dX4_best_2 : decode cX4_best 2 = .ok (.iconst 0, 1) := by decide +kernel
theorem dX4_best_3 : decode cX4_best 3 = .ok (.bipush 18, 2) := by decide +kernel
theorem dX4_best_5 : decode cX4_best 5 = .ok (.invokestatic 38, 3) := by decide +kernel
theorem dX4_best_8 : decode cX4_best 8 = .ok (.ifCond .eq 14, 3) := by decide +kernel
theorem dX4_best_11 : decode cX4_best 11 = .ok (.iload_n 2, 1) := by decide +kernel
theorem dX4_best_12 : decode cX4_best 12 = .ok (.invokestatic 104, 3) := by decide +kernel
theorem dX4_best_15 : decode cX4_best 15 = .ok (.ifCond .eq 7, 3) := by decide +kernel
theorem dX4_best_18 : decode cX4_best 18 = .ok (.iconst 0, 1) := by decide +kernel
theorem dX4_best_19 : decode cX4_best 19 = .ok (.goto 4, 3) := by decide +kernel
theorem dX4_best_22 : decode cX4_best 22 = .ok (.iconst 1, 1) := by decide +kernel
theorem dX4_best_23 : decode cX4_best 23 = .ok (.invokevirtual 45, 3) := by decide +kernel
theorem dX4_best_26 : decode cX4_best 26 = .ok (.ifCond .eq 7, 3) := by decide +kernel
theorem dX4_best_29 : decode cX4_best 29 = .ok (.iconst 0, 1) := by decide +kernel
theorem dX4_best_30 : decode cX4_best 30 = .ok (.goto 9, 3) := by decide +kernel
theorem dX4_best_33 : decode cX4_best 33 = .ok (.aload_n 0, 1) := by decide +kernel
theorem dX4_best_34 : decode cX4_best 34 = .ok (.iload_n 1, 1) := by decide +kernel
theorem dX4_best_35 : decode cX4_best 35 = .ok (.iload_n 2, 1) := by decide +kernel
theorem dX4_best_36 : decode cX4_best 36 = .ok (.invokevirtual 107, 3) := by decide +kernel
theorem dX4_best_39 : decode cX4_best 39 = .ok (.ireturn, 1) := by decide +kernel
set_option maxRecDepth 20000 in
theorem ggX4_bestByLog_X4_best : GoodIn wsX4_bestByLog wsX4_best := goodIn_r _ [5, 6, 7, 4, 8, 9, 10, 11, 12, 13, 14, 15, 16, 17, 18, 19, 20, 21, 22, 23, 24, 25, 26, 27, 28, 29, 30, 31, 32, 33, 34, 35, 36, 37, 38, 39, 40, 41, 42, 43, 44, 45, 46, 47, 48, 49, 50, 51, 52, 53, 54, 55, 56, 57, 58, 59, 60, 61, 62, 63, 64, 65, 66, 67, 68, 69, 70, 71, 72, 73, 74, 75, 76, 77] (by decide +kernel) (by decide +kernel)
set_option maxRecDepth 20000 in
theorem gX4_bestByLog_X4_best : GoodIn wsX4_bestByLog (wsV RX4 111 RX4 yX4_best wsX4_best) := goodIn_app (goodIn_of _ (by decide +kernel)) ggX4_bestByLog_X4_best
theorem dX4_bestByLog_0 : decode cX4_bestByLog 0 = .ok (.aload_n 0, 1) := by decide +kernel
theorem dX4_bestByLog_1 : decode cX4_bestByLog 1 = .ok (.iload_n 1, 1) := by decide +kernel
theorem dX4_bestByLog_2 : decode cX4_bestByLog 2 = .ok (.iload_n 2, 1) := by decide +kernel
theorem dX4_bestByLog_3 : decode cX4_bestByLog 3 = .ok (.invokevirtual 111, 3) := by decide +kernel
theorem dX4_bestByLog_6 : decode cX4_bestByLog 6 = .ok (.ireturn, 1) := by decide +kernel
theorem dX4_middle_0 : decode cX4_middle 0 = .ok (.iload_n 0, 1) := by decide +kernel
theorem dX4_middle_1 : decode cX4_middle 1 = .ok (.bipush 18, 2) := by decide +kernel
theorem dX4_middle_3 : decode cX4_middle 3 = .ok (.if_icmp .ne 9, 3) := by decide +kernel
theorem dX4_middle_6 : decode cX4_middle 6 = .ok (.sipush 180, 3) := by decide +kernel
theorem dX4_middle_9 : decode cX4_middle 9 = .ok (.goto 9, 3) := by decide +kernel
theorem dX4_middle_12 : decode cX4_middle 12 = .ok (.bipush 10, 2) := by decide +kernel
theorem dX4_middle_14 : decode cX4_middle 14 = .ok (.iload_n 0, 1) := by decide +kernel
theorem dX4_middle_15 : decode cX4_middle 15 = .ok (.imul, 1) := by decide +kernel
theorem dX4_middle_16 : decode cX4_middle 16 = .ok (.iconst 5, 1) := by decide +kernel
theorem dX4_middle_17 : decode cX4_middle 17 = .ok (.iadd, 1) := by decide +kernel
theorem dX4_middle_18 : decode cX4_middle 18 = .ok (.ireturn, 1) := by decide +kernel
set_option maxRecDepth 20000 in
theorem ggX4_bestUp_X4_isColumn : GoodIn wsX4_bestUp wsX4_isColumn := goodIn_r _ [4, 5, 6, 3, 7] (by decide +kernel) (by decide +kernel)
set_option maxRecDepth 20000 in
theorem gX4_bestUp_X4_isColumn : GoodIn wsX4_bestUp (va_wsS RX4 104 yX4_isColumn wsX4_isColumn) := goodIn_app (goodIn_of _ (by decide +kernel)) ggX4_bestUp_X4_isColumn
set_option maxRecDepth 20000 in
theorem ggX4_bestUp_X4_refused : GoodIn wsX4_bestUp wsX4_refused := goodIn_r _ [11, 12, 65, 66, 67, 68, 69, 70, 71, 72, 73, 74, 75, 76] (by decide +kernel) (by decide +kernel)
set_option maxRecDepth 20000 in
theorem gX4_bestUp_X4_refused : GoodIn wsX4_bestUp (wsV RX4 45 RX4 yX4_refused wsX4_refused) := goodIn_app (goodIn_of _ (by decide +kernel)) ggX4_bestUp_X4_refused
set_option maxRecDepth 20000 in
theorem ggX4_bestUp_X4_field : GoodIn wsX4_bestUp wsX4_field := goodIn_r _ [16, 17, 18, 19, 20, 3, 21, 22, 23, 24, 25, 26, 27, 28, 29, 30, 31, 32, 33, 34, 35, 36, 37, 38, 39, 40, 41, 42, 43, 44, 45, 46, 47, 48, 49, 50, 51, 52, 53, 54, 55, 56, 57, 58, 59, 60, 61, 65, 66, 67, 68, 69, 70, 71, 72, 73, 74, 75, 76] (by decide +kernel) (by decide +kernel)
set_option maxRecDepth 20000 in
theorem gX4_bestUp_X4_field : GoodIn wsX4_bestUp (wsV RX4 107 RX4 yX4_field wsX4_field) := goodIn_app (goodIn_of _ (by decide +kernel)) ggX4_bestUp_X4_field
set_option maxRecDepth 20000 in
theorem ggX4_bestUp_X4_middle : GoodIn wsX4_bestUp wsX4_middle := goodIn_r _ [64] (by decide +kernel) (by decide +kernel)
set_option maxRecDepth 20000 in
theorem gX4_bestUp_X4_middle : GoodIn wsX4_bestUp (va_wsS RX4 114 yX4_middle wsX4_middle) := goodIn_app (goodIn_of _ (by decide +kernel)) ggX4_bestUp_X4_middle
set_option maxRecDepth 20000 in
theorem ggX4_bestUp_X4_cos : GoodIn wsX4_bestUp wsX4_cos := goodIn_r _ [32, 33, 34, 3, 35, 36, 37, 38, 39] (by decide +kernel) (by decide +kernel)
set_option maxRecDepth 20000 in
theorem gX4_bestUp_X4_cos : GoodIn wsX4_bestUp (va_wsS RX4 63 yX4_cos wsX4_cos) := goodIn_app (goodIn_of _ (by decide +kernel)) ggX4_bestUp_X4_cos
theorem dX4_bestUp_0 : decode cX4_bestUp 0 = .ok (.aload_n 0, 1) := by decide +kernel
theorem dX4_bestUp_1 : decode cX4_bestUp 1 = .ok (.iload_n 1, 1) := by decide +kernel
theorem dX4_bestUp_2 : decode cX4_bestUp 2 = .ok (.invokestatic 104, 3) := by decide +kernel
theorem dX4_bestUp_5 : decode cX4_bestUp 5 = .ok (.ifCond .eq 7, 3) := by decide +kernel
theorem dX4_bestUp_8 : decode cX4_bestUp 8 = .ok (.iconst 0, 1) := by decide +kernel
theorem dX4_bestUp_9 : decode cX4_bestUp 9 = .ok (.goto 4, 3) := by decide +kernel
theorem dX4_bestUp_12 : decode cX4_bestUp 12 = .ok (.iconst 1, 1) := by decide +kernel
theorem dX4_bestUp_13 : decode cX4_bestUp 13 = .ok (.invokevirtual 45, 3) := by decide +kernel
theorem dX4_bestUp_16 : decode cX4_bestUp 16 = .ok (.ifCond .eq 5, 3) := by decide +kernel
theorem dX4_bestUp_19 : decode cX4_bestUp 19 = .ok (.iconst 0, 1) := by decide +kernel
theorem dX4_bestUp_20 : decode cX4_bestUp 20 = .ok (.ireturn, 1) := by decide +kernel
theorem dX4_bestUp_21 : decode cX4_bestUp 21 = .ok (.iconst (-1), 1) := by decide +kernel
theorem dX4_bestUp_22 : decode cX4_bestUp 22 = .ok (.istore_n 2, 1) := by decide +kernel
theorem dX4_bestUp_23 : decode cX4_bestUp 23 = .ok (.iconst 0, 1) := by decide +kernel
theorem dX4_bestUp_24 : decode cX4_bestUp 24 = .ok (.istore_n 3, 1) := by decide +kernel
theorem dX4_bestUp_25 : decode cX4_bestUp 25 = .ok (.iconst 0, 1) := by decide +kernel
theorem dX4_bestUp_26 : decode cX4_bestUp 26 = .ok (.istore 4, 2) := by decide +kernel
theorem dX4_bestUp_28 : decode cX4_bestUp 28 = .ok (.iload 4, 2) := by decide +kernel
theorem dX4_bestUp_30 : decode cX4_bestUp 30 = .ok (.bipush 9, 2) := by decide +kernel
theorem dX4_bestUp_32 : decode cX4_bestUp 32 = .ok (.if_icmp .ge 53, 3) := by decide +kernel
theorem dX4_bestUp_35 : decode cX4_bestUp 35 = .ok (.aload_n 0, 1) := by decide +kernel
theorem dX4_bestUp_36 : decode cX4_bestUp 36 = .ok (.iload 4, 2) := by decide +kernel
theorem dX4_bestUp_38 : decode cX4_bestUp 38 = .ok (.iload_n 1, 1) := by decide +kernel
theorem dX4_bestUp_39 : decode cX4_bestUp 39 = .ok (.invokevirtual 107, 3) := by decide +kernel
theorem dX4_bestUp_42 : decode cX4_bestUp 42 = .ok (.iload 4, 2) := by decide +kernel
theorem dX4_bestUp_44 : decode cX4_bestUp 44 = .ok (.invokestatic 114, 3) := by decide +kernel
theorem dX4_bestUp_47 : decode cX4_bestUp 47 = .ok (.invokestatic 63, 3) := by decide +kernel
theorem dX4_bestUp_50 : decode cX4_bestUp 50 = .ok (.imul, 1) := by decide +kernel
theorem dX4_bestUp_51 : decode cX4_bestUp 51 = .ok (.istore 5, 2) := by decide +kernel
theorem dX4_bestUp_53 : decode cX4_bestUp 53 = .ok (.iload 5, 2) := by decide +kernel
theorem dX4_bestUp_55 : decode cX4_bestUp 55 = .ok (.iload_n 3, 1) := by decide +kernel
theorem dX4_bestUp_56 : decode cX4_bestUp 56 = .ok (.if_icmp .le 8, 3) := by decide +kernel
theorem dX4_bestUp_59 : decode cX4_bestUp 59 = .ok (.iload 4, 2) := by decide +kernel
theorem dX4_bestUp_61 : decode cX4_bestUp 61 = .ok (.goto 4, 3) := by decide +kernel
theorem dX4_bestUp_64 : decode cX4_bestUp 64 = .ok (.iload_n 2, 1) := by decide +kernel
theorem dX4_bestUp_65 : decode cX4_bestUp 65 = .ok (.istore_n 2, 1) := by decide +kernel
theorem dX4_bestUp_66 : decode cX4_bestUp 66 = .ok (.iload 5, 2) := by decide +kernel
theorem dX4_bestUp_68 : decode cX4_bestUp 68 = .ok (.iload_n 3, 1) := by decide +kernel
theorem dX4_bestUp_69 : decode cX4_bestUp 69 = .ok (.if_icmp .le 8, 3) := by decide +kernel
theorem dX4_bestUp_72 : decode cX4_bestUp 72 = .ok (.iload 5, 2) := by decide +kernel
theorem dX4_bestUp_74 : decode cX4_bestUp 74 = .ok (.goto 4, 3) := by decide +kernel
theorem dX4_bestUp_77 : decode cX4_bestUp 77 = .ok (.iload_n 3, 1) := by decide +kernel
theorem dX4_bestUp_78 : decode cX4_bestUp 78 = .ok (.istore_n 3, 1) := by decide +kernel
theorem dX4_bestUp_79 : decode cX4_bestUp 79 = .ok (.iinc 4 1, 3) := by decide +kernel
theorem dX4_bestUp_82 : decode cX4_bestUp 82 = .ok (.goto (-54), 3) := by decide +kernel
theorem dX4_bestUp_85 : decode cX4_bestUp 85 = .ok (.iload_n 2, 1) := by decide +kernel
theorem dX4_bestUp_86 : decode cX4_bestUp 86 = .ok (.ireturn, 1) := by decide +kernel
set_option maxRecDepth 20000 in
theorem ggX4_bestDown_X4_isColumn : GoodIn wsX4_bestDown wsX4_isColumn := goodIn_r _ [4, 5, 6, 3, 7] (by decide +kernel) (by decide +kernel)
set_option maxRecDepth 20000 in
theorem gX4_bestDown_X4_isColumn : GoodIn wsX4_bestDown (va_wsS RX4 104 yX4_isColumn wsX4_isColumn) := goodIn_app (goodIn_of _ (by decide +kernel)) ggX4_bestDown_X4_isColumn
set_option maxRecDepth 20000 in
theorem ggX4_bestDown_X4_refused : GoodIn wsX4_bestDown wsX4_refused := goodIn_r _ [11, 12, 65, 66, 67, 68, 69, 70, 71, 72, 73, 74, 75, 76] (by decide +kernel) (by decide +kernel)
set_option maxRecDepth 20000 in
theorem gX4_bestDown_X4_refused : GoodIn wsX4_bestDown (wsV RX4 45 RX4 yX4_refused wsX4_refused) := goodIn_app (goodIn_of _ (by decide +kernel)) ggX4_bestDown_X4_refused
set_option maxRecDepth 20000 in
theorem ggX4_bestDown_X4_field : GoodIn wsX4_bestDown wsX4_field := goodIn_r _ [16, 17, 18, 19, 20, 3, 21, 22, 23, 24, 25, 26, 27, 28, 29, 30, 31, 32, 33, 34, 35, 36, 37, 38, 39, 40, 41, 42, 43, 44, 45, 46, 47, 48, 49, 50, 51, 52, 53, 54, 55, 56, 57, 58, 59, 60, 61, 65, 66, 67, 68, 69, 70, 71, 72, 73, 74, 75, 76] (by decide +kernel) (by decide +kernel)
set_option maxRecDepth 20000 in
theorem gX4_bestDown_X4_field : GoodIn wsX4_bestDown (wsV RX4 107 RX4 yX4_field wsX4_field) := goodIn_app (goodIn_of _ (by decide +kernel)) ggX4_bestDown_X4_field
set_option maxRecDepth 20000 in
theorem ggX4_bestDown_X4_middle : GoodIn wsX4_bestDown wsX4_middle := goodIn_r _ [64] (by decide +kernel) (by decide +kernel)
set_option maxRecDepth 20000 in
theorem gX4_bestDown_X4_middle : GoodIn wsX4_bestDown (va_wsS RX4 114 yX4_middle wsX4_middle) := goodIn_app (goodIn_of _ (by decide +kernel)) ggX4_bestDown_X4_middle
set_option maxRecDepth 20000 in
theorem ggX4_bestDown_X4_cos : GoodIn wsX4_bestDown wsX4_cos := goodIn_r _ [32, 33, 34, 3, 35, 36, 37, 38, 39] (by decide +kernel) (by decide +kernel)
set_option maxRecDepth 20000 in
theorem gX4_bestDown_X4_cos : GoodIn wsX4_bestDown (va_wsS RX4 63 yX4_cos wsX4_cos) := goodIn_app (goodIn_of _ (by decide +kernel)) ggX4_bestDown_X4_cos
theorem dX4_bestDown_0 : decode cX4_bestDown 0 = .ok (.aload_n 0, 1) := by decide +kernel
theorem dX4_bestDown_1 : decode cX4_bestDown 1 = .ok (.iload_n 1, 1) := by decide +kernel
theorem dX4_bestDown_2 : decode cX4_bestDown 2 = .ok (.invokestatic 104, 3) := by decide +kernel
theorem dX4_bestDown_5 : decode cX4_bestDown 5 = .ok (.ifCond .eq 7, 3) := by decide +kernel
theorem dX4_bestDown_8 : decode cX4_bestDown 8 = .ok (.iconst 0, 1) := by decide +kernel
theorem dX4_bestDown_9 : decode cX4_bestDown 9 = .ok (.goto 4, 3) := by decide +kernel
theorem dX4_bestDown_12 : decode cX4_bestDown 12 = .ok (.iconst 1, 1) := by decide +kernel
theorem dX4_bestDown_13 : decode cX4_bestDown 13 = .ok (.invokevirtual 45, 3) := by decide +kernel
theorem dX4_bestDown_16 : decode cX4_bestDown 16 = .ok (.ifCond .eq 5, 3) := by decide +kernel
theorem dX4_bestDown_19 : decode cX4_bestDown 19 = .ok (.iconst 0, 1) := by decide +kernel
theorem dX4_bestDown_20 : decode cX4_bestDown 20 = .ok (.ireturn, 1) := by decide +kernel
theorem dX4_bestDown_21 : decode cX4_bestDown 21 = .ok (.iconst (-1), 1) := by decide +kernel
theorem dX4_bestDown_22 : decode cX4_bestDown 22 = .ok (.istore_n 2, 1) := by decide +kernel
theorem dX4_bestDown_23 : decode cX4_bestDown 23 = .ok (.iconst 0, 1) := by decide +kernel
theorem dX4_bestDown_24 : decode cX4_bestDown 24 = .ok (.istore_n 3, 1) := by decide +kernel
theorem dX4_bestDown_25 : decode cX4_bestDown 25 = .ok (.bipush 9, 2) := by decide +kernel
theorem dX4_bestDown_27 : decode cX4_bestDown 27 = .ok (.istore 4, 2) := by decide +kernel
theorem dX4_bestDown_29 : decode cX4_bestDown 29 = .ok (.iload 4, 2) := by decide +kernel
theorem dX4_bestDown_31 : decode cX4_bestDown 31 = .ok (.bipush 19, 2) := by decide +kernel
theorem dX4_bestDown_33 : decode cX4_bestDown 33 = .ok (.if_icmp .ge 53, 3) := by decide +kernel
theorem dX4_bestDown_36 : decode cX4_bestDown 36 = .ok (.aload_n 0, 1) := by decide +kernel
theorem dX4_bestDown_37 : decode cX4_bestDown 37 = .ok (.iload 4, 2) := by decide +kernel
theorem dX4_bestDown_39 : decode cX4_bestDown 39 = .ok (.iload_n 1, 1) := by decide +kernel
theorem dX4_bestDown_40 : decode cX4_bestDown 40 = .ok (.invokevirtual 107, 3) := by decide +kernel
theorem dX4_bestDown_43 : decode cX4_bestDown 43 = .ok (.iload 4, 2) := by decide +kernel
theorem dX4_bestDown_45 : decode cX4_bestDown 45 = .ok (.invokestatic 114, 3) := by decide +kernel
theorem dX4_bestDown_48 : decode cX4_bestDown 48 = .ok (.invokestatic 63, 3) := by decide +kernel
theorem dX4_bestDown_51 : decode cX4_bestDown 51 = .ok (.imul, 1) := by decide +kernel
theorem dX4_bestDown_52 : decode cX4_bestDown 52 = .ok (.istore 5, 2) := by decide +kernel
theorem dX4_bestDown_54 : decode cX4_bestDown 54 = .ok (.iload 5, 2) := by decide +kernel
theorem dX4_bestDown_56 : decode cX4_bestDown 56 = .ok (.iload_n 3, 1) := by decide +kernel
theorem dX4_bestDown_57 : decode cX4_bestDown 57 = .ok (.if_icmp .ge 8, 3) := by decide +kernel
theorem dX4_bestDown_60 : decode cX4_bestDown 60 = .ok (.iload 4, 2) := by decide +kernel
theorem dX4_bestDown_62 : decode cX4_bestDown 62 = .ok (.goto 4, 3) := by decide +kernel
theorem dX4_bestDown_65 : decode cX4_bestDown 65 = .ok (.iload_n 2, 1) := by decide +kernel
theorem dX4_bestDown_66 : decode cX4_bestDown 66 = .ok (.istore_n 2, 1) := by decide +kernel
theorem dX4_bestDown_67 : decode cX4_bestDown 67 = .ok (.iload 5, 2) := by decide +kernel
theorem dX4_bestDown_69 : decode cX4_bestDown 69 = .ok (.iload_n 3, 1) := by decide +kernel
theorem dX4_bestDown_70 : decode cX4_bestDown 70 = .ok (.if_icmp .ge 8, 3) := by decide +kernel
theorem dX4_bestDown_73 : decode cX4_bestDown 73 = .ok (.iload 5, 2) := by decide +kernel
theorem dX4_bestDown_75 : decode cX4_bestDown 75 = .ok (.goto 4, 3) := by decide +kernel
theorem dX4_bestDown_78 : decode cX4_bestDown 78 = .ok (.iload_n 3, 1) := by decide +kernel
theorem dX4_bestDown_79 : decode cX4_bestDown 79 = .ok (.istore_n 3, 1) := by decide +kernel
theorem dX4_bestDown_80 : decode cX4_bestDown 80 = .ok (.iinc 4 1, 3) := by decide +kernel
theorem dX4_bestDown_83 : decode cX4_bestDown 83 = .ok (.goto (-54), 3) := by decide +kernel
theorem dX4_bestDown_86 : decode cX4_bestDown 86 = .ok (.iload_n 2, 1) := by decide +kernel
theorem dX4_bestDown_87 : decode cX4_bestDown 87 = .ok (.ireturn, 1) := by decide +kernel
set_option maxRecDepth 20000 in
theorem ggX4_bestCourse_X4_in : GoodIn wsX4_bestCourse wsX4_in := goodIn_r _ [4] (by decide +kernel) (by decide +kernel)
set_option maxRecDepth 20000 in
theorem gX4_bestCourse_X4_in : GoodIn wsX4_bestCourse (va_wsS RX4 38 yX4_in wsX4_in) := goodIn_app (goodIn_of _ (by decide +kernel)) ggX4_bestCourse_X4_in
set_option maxRecDepth 20000 in
theorem ggX4_bestCourse_X4_isColumn : GoodIn wsX4_bestCourse wsX4_isColumn := goodIn_r _ [7, 1, 2, 3, 4] (by decide +kernel) (by decide +kernel)
set_option maxRecDepth 20000 in
theorem gX4_bestCourse_X4_isColumn : GoodIn wsX4_bestCourse (va_wsS RX4 104 yX4_isColumn wsX4_isColumn) := goodIn_app (goodIn_of _ (by decide +kernel)) ggX4_bestCourse_X4_isColumn
set_option maxRecDepth 20000 in
theorem ggX4_bestCourse_X4_refused : GoodIn wsX4_bestCourse wsX4_refused := goodIn_r _ [11, 12, 62, 63, 64, 65, 66, 67, 68, 69, 70, 71, 72, 73] (by decide +kernel) (by decide +kernel)
set_option maxRecDepth 20000 in
theorem gX4_bestCourse_X4_refused : GoodIn wsX4_bestCourse (wsV RX4 45 RX4 yX4_refused wsX4_refused) := goodIn_app (goodIn_of _ (by decide +kernel)) ggX4_bestCourse_X4_refused
set_option maxRecDepth 20000 in
theorem ggX4_bestCourse_X4_turned : GoodIn wsX4_bestCourse wsX4_turned := goodIn_r _ [15] (by decide +kernel) (by decide +kernel)
set_option maxRecDepth 20000 in
theorem gX4_bestCourse_X4_turned : GoodIn wsX4_bestCourse (va_wsS RX4 55 yX4_turned wsX4_turned) := goodIn_app (goodIn_of _ (by decide +kernel)) ggX4_bestCourse_X4_turned
set_option maxRecDepth 20000 in
theorem ggX4_bestCourse_X4_opened : GoodIn wsX4_bestCourse wsX4_opened := goodIn_r _ [18] (by decide +kernel) (by decide +kernel)
set_option maxRecDepth 20000 in
theorem gX4_bestCourse_X4_opened : GoodIn wsX4_bestCourse (va_wsS RX4 101 yX4_opened wsX4_opened) := goodIn_app (goodIn_of _ (by decide +kernel)) ggX4_bestCourse_X4_opened
set_option maxRecDepth 20000 in
theorem ggX4_bestCourse_X4_field : GoodIn wsX4_bestCourse wsX4_field := goodIn_r _ [22, 23, 24, 25, 26, 3, 27, 28, 29, 30, 31, 32, 33, 34, 35, 36, 37, 38, 13, 14, 15, 39, 40, 41, 42, 43, 44, 45, 46, 47, 48, 49, 50, 51, 52, 53, 54, 55, 56, 57, 58, 59, 60, 61, 16, 17, 18, 62, 63, 64, 65, 66, 67, 68, 69, 70, 71, 72, 73] (by decide +kernel) (by decide +kernel)
set_option maxRecDepth 20000 in
theorem gX4_bestCourse_X4_field : GoodIn wsX4_bestCourse (wsV RX4 107 RX4 yX4_field wsX4_field) := goodIn_app (goodIn_of _ (by decide +kernel)) ggX4_bestCourse_X4_field
set_option maxRecDepth 20000 in
theorem ggX4_bestCourse_X4_cos : GoodIn wsX4_bestCourse wsX4_cos := goodIn_r _ [38, 13, 14, 3, 15, 39, 40, 41, 42] (by decide +kernel) (by decide +kernel)
set_option maxRecDepth 20000 in
theorem gX4_bestCourse_X4_cos : GoodIn wsX4_bestCourse (va_wsS RX4 63 yX4_cos wsX4_cos) := goodIn_app (goodIn_of _ (by decide +kernel)) ggX4_bestCourse_X4_cos
theorem dX4_bestCourse_0 : decode cX4_bestCourse 0 = .ok (.iload_n 2, 1) := by decide +kernel
theorem dX4_bestCourse_1 : decode cX4_bestCourse 1 = .ok (.iconst 0, 1) := by decide +kernel
theorem dX4_bestCourse_2 : decode cX4_bestCourse 2 = .ok (.sipush 359, 3) := by decide +kernel
theorem dX4_bestCourse_5 : decode cX4_bestCourse 5 = .ok (.invokestatic 38, 3) := by decide +kernel
theorem dX4_bestCourse_8 : decode cX4_bestCourse 8 = .ok (.ifCond .eq 18, 3) := by decide +kernel
theorem dX4_bestCourse_11 : decode cX4_bestCourse 11 = .ok (.iload_n 3, 1) := by decide +kernel
theorem dX4_bestCourse_12 : decode cX4_bestCourse 12 = .ok (.iconst 0, 1) := by decide +kernel
theorem dX4_bestCourse_13 : decode cX4_bestCourse 13 = .ok (.sipush 359, 3) := by decide +kernel
theorem dX4_bestCourse_16 : decode cX4_bestCourse 16 = .ok (.invokestatic 38, 3) := by decide +kernel
theorem dX4_bestCourse_19 : decode cX4_bestCourse 19 = .ok (.ifCond .eq 7, 3) := by decide +kernel
theorem dX4_bestCourse_22 : decode cX4_bestCourse 22 = .ok (.iconst 1, 1) := by decide +kernel
theorem dX4_bestCourse_23 : decode cX4_bestCourse 23 = .ok (.goto 4, 3) := by decide +kernel
theorem dX4_bestCourse_26 : decode cX4_bestCourse 26 = .ok (.iconst 0, 1) := by decide +kernel
theorem dX4_bestCourse_27 : decode cX4_bestCourse 27 = .ok (.istore 4, 2) := by decide +kernel
theorem dX4_bestCourse_29 : decode cX4_bestCourse 29 = .ok (.aload_n 0, 1) := by decide +kernel
theorem dX4_bestCourse_30 : decode cX4_bestCourse 30 = .ok (.iload_n 1, 1) := by decide +kernel
theorem dX4_bestCourse_31 : decode cX4_bestCourse 31 = .ok (.invokestatic 104, 3) := by decide +kernel
theorem dX4_bestCourse_34 : decode cX4_bestCourse 34 = .ok (.ifCond .ne 7, 3) := by decide +kernel
theorem dX4_bestCourse_37 : decode cX4_bestCourse 37 = .ok (.iconst 1, 1) := by decide +kernel
theorem dX4_bestCourse_38 : decode cX4_bestCourse 38 = .ok (.goto 13, 3) := by decide +kernel
theorem dX4_bestCourse_41 : decode cX4_bestCourse 41 = .ok (.iload 4, 2) := by decide +kernel
theorem dX4_bestCourse_43 : decode cX4_bestCourse 43 = .ok (.ifCond .eq 7, 3) := by decide +kernel
theorem dX4_bestCourse_46 : decode cX4_bestCourse 46 = .ok (.iconst 0, 1) := by decide +kernel
theorem dX4_bestCourse_47 : decode cX4_bestCourse 47 = .ok (.goto 4, 3) := by decide +kernel
theorem dX4_bestCourse_50 : decode cX4_bestCourse 50 = .ok (.iconst 2, 1) := by decide +kernel
theorem dX4_bestCourse_51 : decode cX4_bestCourse 51 = .ok (.invokevirtual 45, 3) := by decide +kernel
theorem dX4_bestCourse_54 : decode cX4_bestCourse 54 = .ok (.ifCond .eq 5, 3) := by decide +kernel
theorem dX4_bestCourse_57 : decode cX4_bestCourse 57 = .ok (.iconst 0, 1) := by decide +kernel
theorem dX4_bestCourse_58 : decode cX4_bestCourse 58 = .ok (.ireturn, 1) := by decide +kernel
theorem dX4_bestCourse_59 : decode cX4_bestCourse 59 = .ok (.iconst (-1), 1) := by decide +kernel
theorem dX4_bestCourse_60 : decode cX4_bestCourse 60 = .ok (.istore 5, 2) := by decide +kernel
theorem dX4_bestCourse_62 : decode cX4_bestCourse 62 = .ok (.iconst 0, 1) := by decide +kernel
theorem dX4_bestCourse_63 : decode cX4_bestCourse 63 = .ok (.istore 6, 2) := by decide +kernel
theorem dX4_bestCourse_65 : decode cX4_bestCourse 65 = .ok (.iconst (-1), 1) := by decide +kernel
theorem dX4_bestCourse_66 : decode cX4_bestCourse 66 = .ok (.istore 7, 2) := by decide +kernel
theorem dX4_bestCourse_68 : decode cX4_bestCourse 68 = .ok (.iconst 0, 1) := by decide +kernel
theorem dX4_bestCourse_69 : decode cX4_bestCourse 69 = .ok (.istore 8, 2) := by decide +kernel
theorem dX4_bestCourse_71 : decode cX4_bestCourse 71 = .ok (.iconst 0, 1) := by decide +kernel
theorem dX4_bestCourse_72 : decode cX4_bestCourse 72 = .ok (.istore 9, 2) := by decide +kernel
theorem dX4_bestCourse_74 : decode cX4_bestCourse 74 = .ok (.iload 9, 2) := by decide +kernel
theorem dX4_bestCourse_76 : decode cX4_bestCourse 76 = .ok (.sipush 360, 3) := by decide +kernel
theorem dX4_bestCourse_79 : decode cX4_bestCourse 79 = .ok (.if_icmp .ge 96, 3) := by decide +kernel
theorem dX4_bestCourse_82 : decode cX4_bestCourse 82 = .ok (.iload_n 2, 1) := by decide +kernel
theorem dX4_bestCourse_83 : decode cX4_bestCourse 83 = .ok (.iload 9, 2) := by decide +kernel
theorem dX4_bestCourse_85 : decode cX4_bestCourse 85 = .ok (.isub, 1) := by decide +kernel
theorem dX4_bestCourse_86 : decode cX4_bestCourse 86 = .ok (.invokestatic 55, 3) := by decide +kernel
theorem dX4_bestCourse_89 : decode cX4_bestCourse 89 = .ok (.invokestatic 101, 3) := by decide +kernel
theorem dX4_bestCourse_92 : decode cX4_bestCourse 92 = .ok (.bipush 10, 2) := by decide +kernel
theorem dX4_bestCourse_94 : decode cX4_bestCourse 94 = .ok (.idiv, 1) := by decide +kernel
theorem dX4_bestCourse_95 : decode cX4_bestCourse 95 = .ok (.istore 10, 2) := by decide +kernel
theorem dX4_bestCourse_97 : decode cX4_bestCourse 97 = .ok (.iload 10, 2) := by decide +kernel
theorem dX4_bestCourse_99 : decode cX4_bestCourse 99 = .ok (.iload 7, 2) := by decide +kernel
theorem dX4_bestCourse_101 : decode cX4_bestCourse 101 = .ok (.if_icmp .ne 8, 3) := by decide +kernel
theorem dX4_bestCourse_104 : decode cX4_bestCourse 104 = .ok (.iload 8, 2) := by decide +kernel
theorem dX4_bestCourse_106 : decode cX4_bestCourse 106 = .ok (.goto 10, 3) := by decide +kernel
theorem dX4_bestCourse_109 : decode cX4_bestCourse 109 = .ok (.aload_n 0, 1) := by decide +kernel
theorem dX4_bestCourse_110 : decode cX4_bestCourse 110 = .ok (.iload 10, 2) := by decide +kernel
theorem dX4_bestCourse_112 : decode cX4_bestCourse 112 = .ok (.iload_n 1, 1) := by decide +kernel
theorem dX4_bestCourse_113 : decode cX4_bestCourse 113 = .ok (.invokevirtual 107, 3) := by decide +kernel
theorem dX4_bestCourse_116 : decode cX4_bestCourse 116 = .ok (.istore 8, 2) := by decide +kernel
theorem dX4_bestCourse_118 : decode cX4_bestCourse 118 = .ok (.iload 10, 2) := by decide +kernel
theorem dX4_bestCourse_120 : decode cX4_bestCourse 120 = .ok (.istore 7, 2) := by decide +kernel
theorem dX4_bestCourse_122 : decode cX4_bestCourse 122 = .ok (.iload 8, 2) := by decide +kernel
theorem dX4_bestCourse_124 : decode cX4_bestCourse 124 = .ok (.iload 9, 2) := by decide +kernel
theorem dX4_bestCourse_126 : decode cX4_bestCourse 126 = .ok (.iload_n 3, 1) := by decide +kernel
theorem dX4_bestCourse_127 : decode cX4_bestCourse 127 = .ok (.isub, 1) := by decide +kernel
theorem dX4_bestCourse_128 : decode cX4_bestCourse 128 = .ok (.invokestatic 55, 3) := by decide +kernel
theorem dX4_bestCourse_131 : decode cX4_bestCourse 131 = .ok (.invokestatic 63, 3) := by decide +kernel
theorem dX4_bestCourse_134 : decode cX4_bestCourse 134 = .ok (.imul, 1) := by decide +kernel
theorem dX4_bestCourse_135 : decode cX4_bestCourse 135 = .ok (.istore 11, 2) := by decide +kernel
theorem dX4_bestCourse_137 : decode cX4_bestCourse 137 = .ok (.iload 11, 2) := by decide +kernel
theorem dX4_bestCourse_139 : decode cX4_bestCourse 139 = .ok (.iload 6, 2) := by decide +kernel
theorem dX4_bestCourse_141 : decode cX4_bestCourse 141 = .ok (.if_icmp .le 8, 3) := by decide +kernel
theorem dX4_bestCourse_144 : decode cX4_bestCourse 144 = .ok (.iload 9, 2) := by decide +kernel
theorem dX4_bestCourse_146 : decode cX4_bestCourse 146 = .ok (.goto 5, 3) := by decide +kernel
theorem dX4_bestCourse_149 : decode cX4_bestCourse 149 = .ok (.iload 5, 2) := by decide +kernel
theorem dX4_bestCourse_151 : decode cX4_bestCourse 151 = .ok (.istore 5, 2) := by decide +kernel
theorem dX4_bestCourse_153 : decode cX4_bestCourse 153 = .ok (.iload 11, 2) := by decide +kernel
theorem dX4_bestCourse_155 : decode cX4_bestCourse 155 = .ok (.iload 6, 2) := by decide +kernel
theorem dX4_bestCourse_157 : decode cX4_bestCourse 157 = .ok (.if_icmp .le 8, 3) := by decide +kernel
theorem dX4_bestCourse_160 : decode cX4_bestCourse 160 = .ok (.iload 11, 2) := by decide +kernel
theorem dX4_bestCourse_162 : decode cX4_bestCourse 162 = .ok (.goto 5, 3) := by decide +kernel
theorem dX4_bestCourse_165 : decode cX4_bestCourse 165 = .ok (.iload 6, 2) := by decide +kernel
theorem dX4_bestCourse_167 : decode cX4_bestCourse 167 = .ok (.istore 6, 2) := by decide +kernel
theorem dX4_bestCourse_169 : decode cX4_bestCourse 169 = .ok (.iinc 9 1, 3) := by decide +kernel
theorem dX4_bestCourse_172 : decode cX4_bestCourse 172 = .ok (.goto (-98), 3) := by decide +kernel
theorem dX4_bestCourse_175 : decode cX4_bestCourse 175 = .ok (.iload 5, 2) := by decide +kernel
theorem dX4_bestCourse_177 : decode cX4_bestCourse 177 = .ok (.ireturn, 1) := by decide +kernel
set_option maxRecDepth 20000 in
theorem ggX4_turnOf_X4_sideOf : GoodIn wsX4_turnOf wsX4_sideOf := goodIn_r _ [5, 6, 7, 8, 4, 9, 10, 11, 12, 13, 14, 15, 16, 17, 18, 19, 20, 21, 22, 23, 24, 25, 26, 27, 28, 29, 30, 31, 32, 33, 34, 35, 36, 37, 41, 42, 43, 44, 45, 46, 47, 48, 49, 50, 51, 52] (by decide +kernel) (by decide +kernel)
set_option maxRecDepth 20000 in
theorem gX4_turnOf_X4_sideOf : GoodIn wsX4_turnOf (wsV RX4 98 RX4 yX4_sideOf wsX4_sideOf) := goodIn_app (goodIn_of _ (by decide +kernel)) ggX4_turnOf_X4_sideOf
set_option maxRecDepth 20000 in
theorem ggX4_turnOf_X4_angleOf : GoodIn wsX4_turnOf wsX4_angleOf := goodIn_r _ [9, 10, 11, 12, 4, 13, 14, 15, 16, 17, 18, 19, 20, 21, 22, 23, 24, 25, 26, 27, 28, 29, 30, 31, 32, 33, 34, 35, 36, 37, 41, 42, 43, 44, 45, 46, 47, 48, 49, 50, 51, 52] (by decide +kernel) (by decide +kernel)
set_option maxRecDepth 20000 in
theorem gX4_turnOf_X4_angleOf : GoodIn wsX4_turnOf (wsV RX4 86 RX4 yX4_angleOf wsX4_angleOf) := goodIn_app (goodIn_of _ (by decide +kernel)) ggX4_turnOf_X4_angleOf
set_option maxRecDepth 20000 in
theorem ggX4_turnOf_X4_opened : GoodIn wsX4_turnOf wsX4_opened := goodIn_r _ [40] (by decide +kernel) (by decide +kernel)
set_option maxRecDepth 20000 in
theorem gX4_turnOf_X4_opened : GoodIn wsX4_turnOf (va_wsS RX4 101 yX4_opened wsX4_opened) := goodIn_app (goodIn_of _ (by decide +kernel)) ggX4_turnOf_X4_opened
theorem dX4_turnOf_0 : decode cX4_turnOf 0 = .ok (.iload_n 1, 1) := by decide +kernel
theorem dX4_turnOf_1 : decode cX4_turnOf 1 = .ok (.ifCond .ne 5, 3) := by decide +kernel
theorem dX4_turnOf_4 : decode cX4_turnOf 4 = .ok (.iconst 0, 1) := by decide +kernel
theorem dX4_turnOf_5 : decode cX4_turnOf 5 = .ok (.ireturn, 1) := by decide +kernel
theorem dX4_turnOf_6 : decode cX4_turnOf 6 = .ok (.aload_n 0, 1) := by decide +kernel
theorem dX4_turnOf_7 : decode cX4_turnOf 7 = .ok (.iload_n 1, 1) := by decide +kernel
theorem dX4_turnOf_8 : decode cX4_turnOf 8 = .ok (.invokevirtual 98, 3) := by decide +kernel
theorem dX4_turnOf_11 : decode cX4_turnOf 11 = .ok (.istore_n 2, 1) := by decide +kernel
theorem dX4_turnOf_12 : decode cX4_turnOf 12 = .ok (.aload_n 0, 1) := by decide +kernel
theorem dX4_turnOf_13 : decode cX4_turnOf 13 = .ok (.iload_n 1, 1) := by decide +kernel
theorem dX4_turnOf_14 : decode cX4_turnOf 14 = .ok (.iconst 1, 1) := by decide +kernel
theorem dX4_turnOf_15 : decode cX4_turnOf 15 = .ok (.isub, 1) := by decide +kernel
theorem dX4_turnOf_16 : decode cX4_turnOf 16 = .ok (.invokevirtual 98, 3) := by decide +kernel
theorem dX4_turnOf_19 : decode cX4_turnOf 19 = .ok (.istore_n 3, 1) := by decide +kernel
theorem dX4_turnOf_20 : decode cX4_turnOf 20 = .ok (.iload_n 2, 1) := by decide +kernel
theorem dX4_turnOf_21 : decode cX4_turnOf 21 = .ok (.ifCond .eq 12, 3) := by decide +kernel
theorem dX4_turnOf_24 : decode cX4_turnOf 24 = .ok (.iload_n 3, 1) := by decide +kernel
theorem dX4_turnOf_25 : decode cX4_turnOf 25 = .ok (.ifCond .eq 8, 3) := by decide +kernel
theorem dX4_turnOf_28 : decode cX4_turnOf 28 = .ok (.iload_n 2, 1) := by decide +kernel
theorem dX4_turnOf_29 : decode cX4_turnOf 29 = .ok (.iload_n 3, 1) := by decide +kernel
theorem dX4_turnOf_30 : decode cX4_turnOf 30 = .ok (.if_icmp .ne 5, 3) := by decide +kernel
theorem dX4_turnOf_33 : decode cX4_turnOf 33 = .ok (.iconst 0, 1) := by decide +kernel
theorem dX4_turnOf_34 : decode cX4_turnOf 34 = .ok (.ireturn, 1) := by decide +kernel
theorem dX4_turnOf_35 : decode cX4_turnOf 35 = .ok (.aload_n 0, 1) := by decide +kernel
theorem dX4_turnOf_36 : decode cX4_turnOf 36 = .ok (.iload_n 1, 1) := by decide +kernel
theorem dX4_turnOf_37 : decode cX4_turnOf 37 = .ok (.invokevirtual 86, 3) := by decide +kernel
theorem dX4_turnOf_40 : decode cX4_turnOf 40 = .ok (.invokestatic 101, 3) := by decide +kernel
theorem dX4_turnOf_43 : decode cX4_turnOf 43 = .ok (.aload_n 0, 1) := by decide +kernel
theorem dX4_turnOf_44 : decode cX4_turnOf 44 = .ok (.iload_n 1, 1) := by decide +kernel
theorem dX4_turnOf_45 : decode cX4_turnOf 45 = .ok (.iconst 1, 1) := by decide +kernel
theorem dX4_turnOf_46 : decode cX4_turnOf 46 = .ok (.isub, 1) := by decide +kernel
theorem dX4_turnOf_47 : decode cX4_turnOf 47 = .ok (.invokevirtual 86, 3) := by decide +kernel
theorem dX4_turnOf_50 : decode cX4_turnOf 50 = .ok (.invokestatic 101, 3) := by decide +kernel
theorem dX4_turnOf_53 : decode cX4_turnOf 53 = .ok (.iadd, 1) := by decide +kernel
theorem dX4_turnOf_54 : decode cX4_turnOf 54 = .ok (.sipush 180, 3) := by decide +kernel
theorem dX4_turnOf_57 : decode cX4_turnOf 57 = .ok (.if_icmp .ge 7, 3) := by decide +kernel
theorem dX4_turnOf_60 : decode cX4_turnOf 60 = .ok (.iconst 1, 1) := by decide +kernel
theorem dX4_turnOf_61 : decode cX4_turnOf 61 = .ok (.goto 4, 3) := by decide +kernel
theorem dX4_turnOf_64 : decode cX4_turnOf 64 = .ok (.iconst 2, 1) := by decide +kernel
theorem dX4_turnOf_65 : decode cX4_turnOf 65 = .ok (.ireturn, 1) := by decide +kernel
set_option maxRecDepth 20000 in
theorem ggX4_costOf_X4_trueSpeed : GoodIn wsX4_costOf wsX4_trueSpeed := goodIn_r _ [7, 8, 9, 10, 11, 12, 13, 14, 15, 16, 17, 18, 19, 20, 21] (by decide +kernel) (by decide +kernel)
set_option maxRecDepth 20000 in
theorem gX4_costOf_X4_trueSpeed : GoodIn wsX4_costOf (wsV RX4 68 RX4 yX4_trueSpeed wsX4_trueSpeed) := goodIn_app (goodIn_of _ (by decide +kernel)) ggX4_costOf_X4_trueSpeed
theorem dX4_costOf_0 : decode cX4_costOf 0 = .ok (.iconst 0, 1) := by decide +kernel
theorem dX4_costOf_1 : decode cX4_costOf 1 = .ok (.istore_n 2, 1) := by decide +kernel
theorem dX4_costOf_2 : decode cX4_costOf 2 = .ok (.iload_n 1, 1) := by decide +kernel
theorem dX4_costOf_3 : decode cX4_costOf 3 = .ok (.istore_n 3, 1) := by decide +kernel
theorem dX4_costOf_4 : decode cX4_costOf 4 = .ok (.iload_n 3, 1) := by decide +kernel
theorem dX4_costOf_5 : decode cX4_costOf 5 = .ok (.iload_n 1, 1) := by decide +kernel
theorem dX4_costOf_6 : decode cX4_costOf 6 = .ok (.iconst 3, 1) := by decide +kernel
theorem dX4_costOf_7 : decode cX4_costOf 7 = .ok (.iadd, 1) := by decide +kernel
theorem dX4_costOf_8 : decode cX4_costOf 8 = .ok (.if_icmp .ge 62, 3) := by decide +kernel
theorem dX4_costOf_11 : decode cX4_costOf 11 = .ok (.iload_n 3, 1) := by decide +kernel
theorem dX4_costOf_12 : decode cX4_costOf 12 = .ok (.aload_n 0, 1) := by decide +kernel
theorem dX4_costOf_13 : decode cX4_costOf 13 = .ok (.getfield 42, 3) := by decide +kernel
theorem dX4_costOf_16 : decode cX4_costOf 16 = .ok (.if_icmp .ge 54, 3) := by decide +kernel
theorem dX4_costOf_19 : decode cX4_costOf 19 = .ok (.aload_n 0, 1) := by decide +kernel
theorem dX4_costOf_20 : decode cX4_costOf 20 = .ok (.iload_n 1, 1) := by decide +kernel
theorem dX4_costOf_21 : decode cX4_costOf 21 = .ok (.iconst 1, 1) := by decide +kernel
theorem dX4_costOf_22 : decode cX4_costOf 22 = .ok (.isub, 1) := by decide +kernel
theorem dX4_costOf_23 : decode cX4_costOf 23 = .ok (.invokevirtual 68, 3) := by decide +kernel
theorem dX4_costOf_26 : decode cX4_costOf 26 = .ok (.aload_n 0, 1) := by decide +kernel
theorem dX4_costOf_27 : decode cX4_costOf 27 = .ok (.iload_n 3, 1) := by decide +kernel
theorem dX4_costOf_28 : decode cX4_costOf 28 = .ok (.invokevirtual 68, 3) := by decide +kernel
theorem dX4_costOf_31 : decode cX4_costOf 31 = .ok (.isub, 1) := by decide +kernel
theorem dX4_costOf_32 : decode cX4_costOf 32 = .ok (.istore 4, 2) := by decide +kernel
theorem dX4_costOf_34 : decode cX4_costOf 34 = .ok (.iload_n 2, 1) := by decide +kernel
theorem dX4_costOf_35 : decode cX4_costOf 35 = .ok (.iload 4, 2) := by decide +kernel
theorem dX4_costOf_37 : decode cX4_costOf 37 = .ok (.ifCond .le 24, 3) := by decide +kernel
theorem dX4_costOf_40 : decode cX4_costOf 40 = .ok (.iload 4, 2) := by decide +kernel
theorem dX4_costOf_42 : decode cX4_costOf 42 = .ok (.aload_n 0, 1) := by decide +kernel
theorem dX4_costOf_43 : decode cX4_costOf 43 = .ok (.getfield 7, 3) := by decide +kernel
theorem dX4_costOf_46 : decode cX4_costOf 46 = .ok (.iload_n 3, 1) := by decide +kernel
theorem dX4_costOf_47 : decode cX4_costOf 47 = .ok (.iaload, 1) := by decide +kernel
theorem dX4_costOf_48 : decode cX4_costOf 48 = .ok (.aload_n 0, 1) := by decide +kernel
theorem dX4_costOf_49 : decode cX4_costOf 49 = .ok (.getfield 7, 3) := by decide +kernel
theorem dX4_costOf_52 : decode cX4_costOf 52 = .ok (.iload_n 3, 1) := by decide +kernel
theorem dX4_costOf_53 : decode cX4_costOf 53 = .ok (.iconst 1, 1) := by decide +kernel
theorem dX4_costOf_54 : decode cX4_costOf 54 = .ok (.isub, 1) := by decide +kernel
theorem dX4_costOf_55 : decode cX4_costOf 55 = .ok (.iaload, 1) := by decide +kernel
theorem dX4_costOf_56 : decode cX4_costOf 56 = .ok (.isub, 1) := by decide +kernel
theorem dX4_costOf_57 : decode cX4_costOf 57 = .ok (.imul, 1) := by decide +kernel
theorem dX4_costOf_58 : decode cX4_costOf 58 = .ok (.goto 4, 3) := by decide +kernel
theorem dX4_costOf_61 : decode cX4_costOf 61 = .ok (.iconst 0, 1) := by decide +kernel
theorem dX4_costOf_62 : decode cX4_costOf 62 = .ok (.iadd, 1) := by decide +kernel
theorem dX4_costOf_63 : decode cX4_costOf 63 = .ok (.istore_n 2, 1) := by decide +kernel
theorem dX4_costOf_64 : decode cX4_costOf 64 = .ok (.iinc 3 1, 3) := by decide +kernel
theorem dX4_costOf_67 : decode cX4_costOf 67 = .ok (.goto (-63), 3) := by decide +kernel
theorem dX4_costOf_70 : decode cX4_costOf 70 = .ok (.iload_n 2, 1) := by decide +kernel
theorem dX4_costOf_71 : decode cX4_costOf 71 = .ok (.ireturn, 1) := by decide +kernel
set_option maxRecDepth 20000 in
theorem ggX4_turn_X4_noEntry : GoodIn wsX4_turn wsX4_noEntry := goodIn_r _ [5, 6, 7, 8, 4, 9, 10, 11, 12, 13, 14, 58, 59, 60, 61, 62, 63, 64, 65, 66, 67, 68, 69] (by decide +kernel) (by decide +kernel)
set_option maxRecDepth 20000 in
theorem gX4_turn_X4_noEntry : GoodIn wsX4_turn (wsV RX4 89 RX4 yX4_noEntry wsX4_noEntry) := goodIn_app (goodIn_of _ (by decide +kernel)) ggX4_turn_X4_noEntry
set_option maxRecDepth 20000 in
theorem ggX4_turn_X4_turnOf : GoodIn wsX4_turn wsX4_turnOf := goodIn_r _ [18, 19, 20, 21, 4, 22, 23, 24, 25, 26, 27, 28, 29, 30, 31, 32, 33, 34, 35, 36, 37, 38, 39, 40, 41, 42, 43, 44, 45, 46, 47, 48, 49, 50, 51, 52, 53, 54, 55, 56, 57, 58, 59, 60, 61, 62, 63, 64, 65, 66, 67, 68, 69] (by decide +kernel) (by decide +kernel)
set_option maxRecDepth 20000 in
theorem gX4_turn_X4_turnOf : GoodIn wsX4_turn (wsV RX4 117 RX4 yX4_turnOf wsX4_turnOf) := goodIn_app (goodIn_of _ (by decide +kernel)) ggX4_turn_X4_turnOf
theorem dX4_turn_0 : decode cX4_turn 0 = .ok (.aload_n 0, 1) := by decide +kernel
theorem dX4_turn_1 : decode cX4_turn 1 = .ok (.iload_n 1, 1) := by decide +kernel
theorem dX4_turn_2 : decode cX4_turn 2 = .ok (.invokevirtual 89, 3) := by decide +kernel
theorem dX4_turn_5 : decode cX4_turn 5 = .ok (.ifCond .eq 7, 3) := by decide +kernel
theorem dX4_turn_8 : decode cX4_turn 8 = .ok (.iconst 0, 1) := by decide +kernel
theorem dX4_turn_9 : decode cX4_turn 9 = .ok (.goto 8, 3) := by decide +kernel
theorem dX4_turn_12 : decode cX4_turn 12 = .ok (.aload_n 0, 1) := by decide +kernel
theorem dX4_turn_13 : decode cX4_turn 13 = .ok (.iload_n 1, 1) := by decide +kernel
theorem dX4_turn_14 : decode cX4_turn 14 = .ok (.invokevirtual 117, 3) := by decide +kernel
theorem dX4_turn_17 : decode cX4_turn 17 = .ok (.ireturn, 1) := by decide +kernel
set_option maxRecDepth 20000 in
theorem ggX4_cost_X4_noEntry : GoodIn wsX4_cost wsX4_noEntry := goodIn_r _ [5, 6, 7, 8, 4, 9, 10, 11, 12, 13, 14, 63, 64, 65, 66, 67, 68, 69, 70, 71, 72, 73, 74] (by decide +kernel) (by decide +kernel)
set_option maxRecDepth 20000 in
theorem gX4_cost_X4_noEntry : GoodIn wsX4_cost (wsV RX4 89 RX4 yX4_noEntry wsX4_noEntry) := goodIn_app (goodIn_of _ (by decide +kernel)) ggX4_cost_X4_noEntry
set_option maxRecDepth 20000 in
theorem ggX4_cost_X4_turnOf : GoodIn wsX4_cost wsX4_turnOf := goodIn_r _ [18, 19, 20, 21, 4, 22, 23, 24, 25, 26, 27, 28, 29, 30, 31, 32, 33, 34, 35, 36, 37, 38, 39, 40, 41, 42, 43, 44, 45, 46, 47, 48, 49, 50, 51, 52, 53, 54, 55, 56, 57, 63, 64, 65, 66, 67, 68, 69, 70, 71, 72, 73, 74] (by decide +kernel) (by decide +kernel)
set_option maxRecDepth 20000 in
theorem gX4_cost_X4_turnOf : GoodIn wsX4_cost (wsV RX4 117 RX4 yX4_turnOf wsX4_turnOf) := goodIn_app (goodIn_of _ (by decide +kernel)) ggX4_cost_X4_turnOf
set_option maxRecDepth 20000 in
theorem ggX4_cost_X4_costOf : GoodIn wsX4_cost wsX4_costOf := goodIn_r _ [61, 6, 62, 45, 46, 47, 4, 48, 49, 50, 63, 64, 65, 66, 67, 68, 69, 70, 71, 72, 73, 74] (by decide +kernel) (by decide +kernel)
set_option maxRecDepth 20000 in
theorem gX4_cost_X4_costOf : GoodIn wsX4_cost (wsV RX4 120 RX4 yX4_costOf wsX4_costOf) := goodIn_app (goodIn_of _ (by decide +kernel)) ggX4_cost_X4_costOf
theorem dX4_cost_0 : decode cX4_cost 0 = .ok (.aload_n 0, 1) := by decide +kernel
theorem dX4_cost_1 : decode cX4_cost 1 = .ok (.iload_n 1, 1) := by decide +kernel
theorem dX4_cost_2 : decode cX4_cost 2 = .ok (.invokevirtual 89, 3) := by decide +kernel
theorem dX4_cost_5 : decode cX4_cost 5 = .ok (.ifCond .ne 11, 3) := by decide +kernel
theorem dX4_cost_8 : decode cX4_cost 8 = .ok (.aload_n 0, 1) := by decide +kernel
theorem dX4_cost_9 : decode cX4_cost 9 = .ok (.iload_n 1, 1) := by decide +kernel
theorem dX4_cost_10 : decode cX4_cost 10 = .ok (.invokevirtual 117, 3) := by decide +kernel
theorem dX4_cost_13 : decode cX4_cost 13 = .ok (.ifCond .ne 7, 3) := by decide +kernel
theorem dX4_cost_16 : decode cX4_cost 16 = .ok (.iconst 0, 1) := by decide +kernel
theorem dX4_cost_17 : decode cX4_cost 17 = .ok (.goto 8, 3) := by decide +kernel
theorem dX4_cost_20 : decode cX4_cost 20 = .ok (.aload_n 0, 1) := by decide +kernel
theorem dX4_cost_21 : decode cX4_cost 21 = .ok (.iload_n 1, 1) := by decide +kernel
theorem dX4_cost_22 : decode cX4_cost 22 = .ok (.invokevirtual 120, 3) := by decide +kernel
theorem dX4_cost_25 : decode cX4_cost 25 = .ok (.ireturn, 1) := by decide +kernel
set_option maxRecDepth 20000 in
theorem ggX4_costs_X4_refused : GoodIn wsX4_costs wsX4_refused := goodIn_r _ [6, 7, 56, 57, 58, 59, 60, 61, 62, 63, 64, 65, 66, 67] (by decide +kernel) (by decide +kernel)
set_option maxRecDepth 20000 in
theorem gX4_costs_X4_refused : GoodIn wsX4_costs (wsV RX4 45 RX4 yX4_refused wsX4_refused) := goodIn_app (goodIn_of _ (by decide +kernel)) ggX4_costs_X4_refused
set_option maxRecDepth 20000 in
theorem ggX4_costs_X4_turnOf : GoodIn wsX4_costs wsX4_turnOf := goodIn_r _ [11, 12, 13, 14, 5, 15, 16, 17, 18, 19, 20, 21, 22, 23, 24, 25, 26, 27, 28, 29, 30, 31, 32, 33, 34, 35, 36, 37, 38, 39, 40, 41, 42, 43, 44, 45, 46, 47, 48, 49, 50, 56, 57, 58, 59, 60, 61, 62, 63, 64, 65, 66, 67] (by decide +kernel) (by decide +kernel)
set_option maxRecDepth 20000 in
theorem gX4_costs_X4_turnOf : GoodIn wsX4_costs (wsV RX4 117 RX4 yX4_turnOf wsX4_turnOf) := goodIn_app (goodIn_of _ (by decide +kernel)) ggX4_costs_X4_turnOf
set_option maxRecDepth 20000 in
theorem ggX4_costs_X4_costOf : GoodIn wsX4_costs wsX4_costOf := goodIn_r _ [54, 1, 55, 38, 39, 40, 5, 41, 42, 43, 56, 57, 58, 59, 60, 61, 62, 63, 64, 65, 66, 67] (by decide +kernel) (by decide +kernel)
set_option maxRecDepth 20000 in
theorem gX4_costs_X4_costOf : GoodIn wsX4_costs (wsV RX4 120 RX4 yX4_costOf wsX4_costOf) := goodIn_app (goodIn_of _ (by decide +kernel)) ggX4_costs_X4_costOf
theorem dX4_costs_0 : decode cX4_costs 0 = .ok (.aload_n 0, 1) := by decide +kernel
theorem dX4_costs_1 : decode cX4_costs 1 = .ok (.iload_n 1, 1) := by decide +kernel
theorem dX4_costs_2 : decode cX4_costs 2 = .ok (.iconst 1, 1) := by decide +kernel
theorem dX4_costs_3 : decode cX4_costs 3 = .ok (.if_icmp .eq 8, 3) := by decide +kernel
theorem dX4_costs_6 : decode cX4_costs 6 = .ok (.iload_n 1, 1) := by decide +kernel
theorem dX4_costs_7 : decode cX4_costs 7 = .ok (.iconst 2, 1) := by decide +kernel
theorem dX4_costs_8 : decode cX4_costs 8 = .ok (.if_icmp .ne 7, 3) := by decide +kernel
theorem dX4_costs_11 : decode cX4_costs 11 = .ok (.iconst 0, 1) := by decide +kernel
theorem dX4_costs_12 : decode cX4_costs 12 = .ok (.goto 4, 3) := by decide +kernel
theorem dX4_costs_15 : decode cX4_costs 15 = .ok (.iconst 1, 1) := by decide +kernel
theorem dX4_costs_16 : decode cX4_costs 16 = .ok (.invokevirtual 45, 3) := by decide +kernel
theorem dX4_costs_19 : decode cX4_costs 19 = .ok (.ifCond .eq 5, 3) := by decide +kernel
theorem dX4_costs_22 : decode cX4_costs 22 = .ok (.iconst 0, 1) := by decide +kernel
theorem dX4_costs_23 : decode cX4_costs 23 = .ok (.ireturn, 1) := by decide +kernel
theorem dX4_costs_24 : decode cX4_costs 24 = .ok (.iconst 0, 1) := by decide +kernel
theorem dX4_costs_25 : decode cX4_costs 25 = .ok (.istore_n 2, 1) := by decide +kernel
theorem dX4_costs_26 : decode cX4_costs 26 = .ok (.iconst 1, 1) := by decide +kernel
theorem dX4_costs_27 : decode cX4_costs 27 = .ok (.istore_n 3, 1) := by decide +kernel
theorem dX4_costs_28 : decode cX4_costs 28 = .ok (.iload_n 3, 1) := by decide +kernel
theorem dX4_costs_29 : decode cX4_costs 29 = .ok (.aload_n 0, 1) := by decide +kernel
theorem dX4_costs_30 : decode cX4_costs 30 = .ok (.getfield 42, 3) := by decide +kernel
theorem dX4_costs_33 : decode cX4_costs 33 = .ok (.if_icmp .ge 30, 3) := by decide +kernel
theorem dX4_costs_36 : decode cX4_costs 36 = .ok (.iload_n 2, 1) := by decide +kernel
theorem dX4_costs_37 : decode cX4_costs 37 = .ok (.aload_n 0, 1) := by decide +kernel
theorem dX4_costs_38 : decode cX4_costs 38 = .ok (.iload_n 3, 1) := by decide +kernel
theorem dX4_costs_39 : decode cX4_costs 39 = .ok (.invokevirtual 117, 3) := by decide +kernel
theorem dX4_costs_42 : decode cX4_costs 42 = .ok (.iload_n 1, 1) := by decide +kernel
theorem dX4_costs_43 : decode cX4_costs 43 = .ok (.if_icmp .ne 11, 3) := by decide +kernel
theorem dX4_costs_46 : decode cX4_costs 46 = .ok (.aload_n 0, 1) := by decide +kernel
theorem dX4_costs_47 : decode cX4_costs 47 = .ok (.iload_n 3, 1) := by decide +kernel
theorem dX4_costs_48 : decode cX4_costs 48 = .ok (.invokevirtual 120, 3) := by decide +kernel
theorem dX4_costs_51 : decode cX4_costs 51 = .ok (.goto 4, 3) := by decide +kernel
theorem dX4_costs_54 : decode cX4_costs 54 = .ok (.iconst 0, 1) := by decide +kernel
theorem dX4_costs_55 : decode cX4_costs 55 = .ok (.iadd, 1) := by decide +kernel
theorem dX4_costs_56 : decode cX4_costs 56 = .ok (.istore_n 2, 1) := by decide +kernel
theorem dX4_costs_57 : decode cX4_costs 57 = .ok (.iinc 3 1, 3) := by decide +kernel
theorem dX4_costs_60 : decode cX4_costs 60 = .ok (.goto (-32), 3) := by decide +kernel
theorem dX4_costs_63 : decode cX4_costs 63 = .ok (.iload_n 2, 1) := by decide +kernel
theorem dX4_costs_64 : decode cX4_costs 64 = .ok (.ireturn, 1) := by decide +kernel
set_option maxRecDepth 20000 in
theorem ggX4_way_X4_trueSpeed : GoodIn wsX4_way wsX4_trueSpeed := goodIn_r _ [10, 11, 12, 26, 27, 28, 29, 30, 31, 32, 33, 34, 35, 36, 37] (by decide +kernel) (by decide +kernel)
set_option maxRecDepth 20000 in
theorem gX4_way_X4_trueSpeed : GoodIn wsX4_way (wsV RX4 68 RX4 yX4_trueSpeed wsX4_trueSpeed) := goodIn_app (goodIn_of _ (by decide +kernel)) ggX4_way_X4_trueSpeed
set_option maxRecDepth 20000 in
theorem ggX4_way_X4_trueHeading : GoodIn wsX4_way wsX4_trueHeading := goodIn_r _ [16, 17, 18, 19, 20, 9, 21, 26, 27, 28, 29, 30, 31, 32, 33, 34, 35, 36, 37] (by decide +kernel) (by decide +kernel)
set_option maxRecDepth 20000 in
theorem gX4_way_X4_trueHeading : GoodIn wsX4_way (wsV RX4 95 RX4 yX4_trueHeading wsX4_trueHeading) := goodIn_app (goodIn_of _ (by decide +kernel)) ggX4_way_X4_trueHeading
set_option maxRecDepth 20000 in
theorem ggX4_way_X4_sin : GoodIn wsX4_way wsX4_sin := goodIn_r _ [24, 25, 19, 20, 9, 21] (by decide +kernel) (by decide +kernel)
set_option maxRecDepth 20000 in
theorem gX4_way_X4_sin : GoodIn wsX4_way (va_wsS RX4 60 yX4_sin wsX4_sin) := goodIn_app (goodIn_of _ (by decide +kernel)) ggX4_way_X4_sin
theorem dX4_way_0 : decode cX4_way 0 = .ok (.lconst 0, 1) := by decide +kernel
theorem dX4_way_1 : decode cX4_way 1 = .ok (.lstore_n 3, 1) := by decide +kernel
theorem dX4_way_2 : decode cX4_way 2 = .ok (.iconst 0, 1) := by decide +kernel
theorem dX4_way_3 : decode cX4_way 3 = .ok (.istore 5, 2) := by decide +kernel
theorem dX4_way_5 : decode cX4_way 5 = .ok (.iload 5, 2) := by decide +kernel
theorem dX4_way_7 : decode cX4_way 7 = .ok (.iload_n 1, 1) := by decide +kernel
theorem dX4_way_8 : decode cX4_way 8 = .ok (.if_icmp .ge 90, 3) := by decide +kernel
theorem dX4_way_11 : decode cX4_way 11 = .ok (.aload_n 0, 1) := by decide +kernel
theorem dX4_way_12 : decode cX4_way 12 = .ok (.getfield 7, 3) := by decide +kernel
theorem dX4_way_15 : decode cX4_way 15 = .ok (.iload 5, 2) := by decide +kernel
theorem dX4_way_17 : decode cX4_way 17 = .ok (.iaload, 1) := by decide +kernel
theorem dX4_way_18 : decode cX4_way 18 = .ok (.bipush 60, 2) := by decide +kernel
theorem dX4_way_20 : decode cX4_way 20 = .ok (.idiv, 1) := by decide +kernel
theorem dX4_way_21 : decode cX4_way 21 = .ok (.istore 6, 2) := by decide +kernel
theorem dX4_way_23 : decode cX4_way 23 = .ok (.aload_n 0, 1) := by decide +kernel
theorem dX4_way_24 : decode cX4_way 24 = .ok (.iload 5, 2) := by decide +kernel
theorem dX4_way_26 : decode cX4_way 26 = .ok (.invokevirtual 68, 3) := by decide +kernel
theorem dX4_way_29 : decode cX4_way 29 = .ok (.i2l, 1) := by decide +kernel
theorem dX4_way_30 : decode cX4_way 30 = .ok (.aload_n 0, 1) := by decide +kernel
theorem dX4_way_31 : decode cX4_way 31 = .ok (.iload 5, 2) := by decide +kernel
theorem dX4_way_33 : decode cX4_way 33 = .ok (.invokevirtual 95, 3) := by decide +kernel
theorem dX4_way_36 : decode cX4_way 36 = .ok (.iload_n 2, 1) := by decide +kernel
theorem dX4_way_37 : decode cX4_way 37 = .ok (.iadd, 1) := by decide +kernel
theorem dX4_way_38 : decode cX4_way 38 = .ok (.invokestatic 60, 3) := by decide +kernel
theorem dX4_way_41 : decode cX4_way 41 = .ok (.i2l, 1) := by decide +kernel
theorem dX4_way_42 : decode cX4_way 42 = .ok (.lmul, 1) := by decide +kernel
theorem dX4_way_43 : decode cX4_way 43 = .ok (.aload_n 0, 1) := by decide +kernel
theorem dX4_way_44 : decode cX4_way 44 = .ok (.getfield 32, 3) := by decide +kernel
theorem dX4_way_47 : decode cX4_way 47 = .ok (.iload 6, 2) := by decide +kernel
theorem dX4_way_49 : decode cX4_way 49 = .ok (.iaload, 1) := by decide +kernel
theorem dX4_way_50 : decode cX4_way 50 = .ok (.i2l, 1) := by decide +kernel
theorem dX4_way_51 : decode cX4_way 51 = .ok (.aload_n 0, 1) := by decide +kernel
theorem dX4_way_52 : decode cX4_way 52 = .ok (.getfield 29, 3) := by decide +kernel
theorem dX4_way_55 : decode cX4_way 55 = .ok (.iload 6, 2) := by decide +kernel
theorem dX4_way_57 : decode cX4_way 57 = .ok (.iaload, 1) := by decide +kernel
theorem dX4_way_58 : decode cX4_way 58 = .ok (.iload_n 2, 1) := by decide +kernel
theorem dX4_way_59 : decode cX4_way 59 = .ok (.iadd, 1) := by decide +kernel
theorem dX4_way_60 : decode cX4_way 60 = .ok (.invokestatic 60, 3) := by decide +kernel
theorem dX4_way_63 : decode cX4_way 63 = .ok (.i2l, 1) := by decide +kernel
theorem dX4_way_64 : decode cX4_way 64 = .ok (.lmul, 1) := by decide +kernel
theorem dX4_way_65 : decode cX4_way 65 = .ok (.ladd, 1) := by decide +kernel
theorem dX4_way_66 : decode cX4_way 66 = .ok (.lstore 7, 2) := by decide +kernel
theorem dX4_way_68 : decode cX4_way 68 = .ok (.lload_n 3, 1) := by decide +kernel
theorem dX4_way_69 : decode cX4_way 69 = .ok (.lload 7, 2) := by decide +kernel
theorem dX4_way_71 : decode cX4_way 71 = .ok (.aload_n 0, 1) := by decide +kernel
theorem dX4_way_72 : decode cX4_way 72 = .ok (.getfield 7, 3) := by decide +kernel
theorem dX4_way_75 : decode cX4_way 75 = .ok (.iload 5, 2) := by decide +kernel
theorem dX4_way_77 : decode cX4_way 77 = .ok (.iconst 1, 1) := by decide +kernel
theorem dX4_way_78 : decode cX4_way 78 = .ok (.iadd, 1) := by decide +kernel
theorem dX4_way_79 : decode cX4_way 79 = .ok (.iaload, 1) := by decide +kernel
theorem dX4_way_80 : decode cX4_way 80 = .ok (.aload_n 0, 1) := by decide +kernel
theorem dX4_way_81 : decode cX4_way 81 = .ok (.getfield 7, 3) := by decide +kernel
theorem dX4_way_84 : decode cX4_way 84 = .ok (.iload 5, 2) := by decide +kernel
theorem dX4_way_86 : decode cX4_way 86 = .ok (.iaload, 1) := by decide +kernel
theorem dX4_way_87 : decode cX4_way 87 = .ok (.isub, 1) := by decide +kernel
theorem dX4_way_88 : decode cX4_way 88 = .ok (.i2l, 1) := by decide +kernel
theorem dX4_way_89 : decode cX4_way 89 = .ok (.lmul, 1) := by decide +kernel
theorem dX4_way_90 : decode cX4_way 90 = .ok (.ladd, 1) := by decide +kernel
theorem dX4_way_91 : decode cX4_way 91 = .ok (.lstore_n 3, 1) := by decide +kernel
theorem dX4_way_92 : decode cX4_way 92 = .ok (.iinc 5 1, 3) := by decide +kernel
theorem dX4_way_95 : decode cX4_way 95 = .ok (.goto (-90), 3) := by decide +kernel
theorem dX4_way_98 : decode cX4_way 98 = .ok (.lload_n 3, 1) := by decide +kernel
theorem dX4_way_99 : decode cX4_way 99 = .ok (.lconst 0, 1) := by decide +kernel
theorem dX4_way_100 : decode cX4_way 100 = .ok (.lcmp, 1) := by decide +kernel
theorem dX4_way_101 : decode cX4_way 101 = .ok (.ifCond .lt 11, 3) := by decide +kernel
theorem dX4_way_104 : decode cX4_way 104 = .ok (.lload_n 3, 1) := by decide +kernel
theorem dX4_way_105 : decode cX4_way 105 = .ok (.ldc2_w 123, 3) := by decide +kernel
theorem dX4_way_108 : decode cX4_way 108 = .ok (.ldiv, 1) := by decide +kernel
theorem dX4_way_109 : decode cX4_way 109 = .ok (.goto 13, 3) := by decide +kernel
theorem dX4_way_112 : decode cX4_way 112 = .ok (.ldc2_w 125, 3) := by decide +kernel
theorem dX4_way_115 : decode cX4_way 115 = .ok (.lload_n 3, 1) := by decide +kernel
theorem dX4_way_116 : decode cX4_way 116 = .ok (.lsub, 1) := by decide +kernel
theorem dX4_way_117 : decode cX4_way 117 = .ok (.ldc2_w 123, 3) := by decide +kernel
theorem dX4_way_120 : decode cX4_way 120 = .ok (.ldiv, 1) := by decide +kernel
theorem dX4_way_121 : decode cX4_way 121 = .ok (.lneg, 1) := by decide +kernel
theorem dX4_way_122 : decode cX4_way 122 = .ok (.l2i, 1) := by decide +kernel
theorem dX4_way_123 : decode cX4_way 123 = .ok (.ireturn, 1) := by decide +kernel
set_option maxRecDepth 20000 in
theorem ggX4_east_X4_noEntry : GoodIn wsX4_east wsX4_noEntry := goodIn_r _ [5, 6, 7, 8, 4, 9, 10, 11, 12, 13, 14, 43, 44, 45, 46, 47, 48, 49, 50, 51, 52, 53, 54] (by decide +kernel) (by decide +kernel)
set_option maxRecDepth 20000 in
theorem gX4_east_X4_noEntry : GoodIn wsX4_east (wsV RX4 89 RX4 yX4_noEntry wsX4_noEntry) := goodIn_app (goodIn_of _ (by decide +kernel)) ggX4_east_X4_noEntry
set_option maxRecDepth 20000 in
theorem ggX4_east_X4_way : GoodIn wsX4_east wsX4_way := goodIn_r _ [18, 19, 20, 21, 22, 23, 24, 25, 26, 4, 27, 28, 29, 30, 31, 32, 33, 34, 35, 36, 37, 38, 39, 40, 41, 42, 43, 44, 45, 46, 47, 48, 49, 50, 51, 52, 53, 54] (by decide +kernel) (by decide +kernel)
set_option maxRecDepth 20000 in
theorem gX4_east_X4_way : GoodIn wsX4_east (wsV RX4 127 RX4 yX4_way wsX4_way) := goodIn_app (goodIn_of _ (by decide +kernel)) ggX4_east_X4_way
theorem dX4_east_0 : decode cX4_east 0 = .ok (.aload_n 0, 1) := by decide +kernel
theorem dX4_east_1 : decode cX4_east 1 = .ok (.iload_n 1, 1) := by decide +kernel
theorem dX4_east_2 : decode cX4_east 2 = .ok (.invokevirtual 89, 3) := by decide +kernel
theorem dX4_east_5 : decode cX4_east 5 = .ok (.ifCond .eq 7, 3) := by decide +kernel
theorem dX4_east_8 : decode cX4_east 8 = .ok (.iconst 0, 1) := by decide +kernel
theorem dX4_east_9 : decode cX4_east 9 = .ok (.goto 9, 3) := by decide +kernel
theorem dX4_east_12 : decode cX4_east 12 = .ok (.aload_n 0, 1) := by decide +kernel
theorem dX4_east_13 : decode cX4_east 13 = .ok (.iload_n 1, 1) := by decide +kernel
theorem dX4_east_14 : decode cX4_east 14 = .ok (.iconst 0, 1) := by decide +kernel
theorem dX4_east_15 : decode cX4_east 15 = .ok (.invokevirtual 127, 3) := by decide +kernel
theorem dX4_east_18 : decode cX4_east 18 = .ok (.ireturn, 1) := by decide +kernel
set_option maxRecDepth 20000 in
theorem ggX4_north_X4_noEntry : GoodIn wsX4_north wsX4_noEntry := goodIn_r _ [5, 6, 7, 8, 4, 9, 10, 11, 12, 13, 14, 43, 44, 45, 46, 47, 48, 49, 50, 51, 52, 53, 54] (by decide +kernel) (by decide +kernel)
set_option maxRecDepth 20000 in
theorem gX4_north_X4_noEntry : GoodIn wsX4_north (wsV RX4 89 RX4 yX4_noEntry wsX4_noEntry) := goodIn_app (goodIn_of _ (by decide +kernel)) ggX4_north_X4_noEntry
set_option maxRecDepth 20000 in
theorem ggX4_north_X4_way : GoodIn wsX4_north wsX4_way := goodIn_r _ [18, 19, 20, 21, 22, 23, 24, 25, 26, 4, 27, 28, 29, 30, 31, 32, 33, 34, 35, 36, 37, 38, 39, 40, 41, 42, 43, 44, 45, 46, 47, 48, 49, 50, 51, 52, 53, 54] (by decide +kernel) (by decide +kernel)
set_option maxRecDepth 20000 in
theorem gX4_north_X4_way : GoodIn wsX4_north (wsV RX4 127 RX4 yX4_way wsX4_way) := goodIn_app (goodIn_of _ (by decide +kernel)) ggX4_north_X4_way
theorem dX4_north_0 : decode cX4_north 0 = .ok (.aload_n 0, 1) := by decide +kernel
theorem dX4_north_1 : decode cX4_north 1 = .ok (.iload_n 1, 1) := by decide +kernel
theorem dX4_north_2 : decode cX4_north 2 = .ok (.invokevirtual 89, 3) := by decide +kernel
theorem dX4_north_5 : decode cX4_north 5 = .ok (.ifCond .eq 7, 3) := by decide +kernel
theorem dX4_north_8 : decode cX4_north 8 = .ok (.iconst 0, 1) := by decide +kernel
theorem dX4_north_9 : decode cX4_north 9 = .ok (.goto 10, 3) := by decide +kernel
theorem dX4_north_12 : decode cX4_north 12 = .ok (.aload_n 0, 1) := by decide +kernel
theorem dX4_north_13 : decode cX4_north 13 = .ok (.iload_n 1, 1) := by decide +kernel
theorem dX4_north_14 : decode cX4_north 14 = .ok (.bipush 90, 2) := by decide +kernel
theorem dX4_north_16 : decode cX4_north 16 = .ok (.invokevirtual 127, 3) := by decide +kernel
theorem dX4_north_19 : decode cX4_north 19 = .ok (.ireturn, 1) := by decide +kernel
set_option maxRecDepth 20000 in
theorem ggX4_vaneShown_X4_sideOf : GoodIn wsX4_vaneShown wsX4_sideOf := goodIn_r _ [7, 8, 9, 10, 6, 11, 12, 13, 14, 15, 16, 17, 18, 19, 20, 21, 22, 23, 24, 25, 26, 27, 28, 29, 30, 31, 32, 33, 34, 35, 36, 37, 38, 39, 43, 44, 45, 46, 47, 48, 49, 50, 51, 52, 53, 54] (by decide +kernel) (by decide +kernel)
set_option maxRecDepth 20000 in
theorem gX4_vaneShown_X4_sideOf : GoodIn wsX4_vaneShown (wsV RX4 98 RX4 yX4_sideOf wsX4_sideOf) := goodIn_app (goodIn_of _ (by decide +kernel)) ggX4_vaneShown_X4_sideOf
set_option maxRecDepth 20000 in
theorem ggX4_vaneShown_X4_angleOf : GoodIn wsX4_vaneShown wsX4_angleOf := goodIn_r _ [11, 12, 13, 14, 6, 15, 16, 17, 18, 19, 20, 21, 22, 23, 24, 25, 26, 27, 28, 29, 30, 31, 32, 33, 34, 35, 36, 37, 38, 39, 43, 44, 45, 46, 47, 48, 49, 50, 51, 52, 53, 54] (by decide +kernel) (by decide +kernel)
set_option maxRecDepth 20000 in
theorem gX4_vaneShown_X4_angleOf : GoodIn wsX4_vaneShown (wsV RX4 86 RX4 yX4_angleOf wsX4_angleOf) := goodIn_app (goodIn_of _ (by decide +kernel)) ggX4_vaneShown_X4_angleOf
set_option maxRecDepth 20000 in
theorem ggX4_vaneShown_X4_opened : GoodIn wsX4_vaneShown wsX4_opened := goodIn_r _ [42] (by decide +kernel) (by decide +kernel)
set_option maxRecDepth 20000 in
theorem gX4_vaneShown_X4_opened : GoodIn wsX4_vaneShown (va_wsS RX4 101 yX4_opened wsX4_opened) := goodIn_app (goodIn_of _ (by decide +kernel)) ggX4_vaneShown_X4_opened
theorem dX4_vaneShown_0 : decode cX4_vaneShown 0 = .ok (.aload_n 0, 1) := by decide +kernel
theorem dX4_vaneShown_1 : decode cX4_vaneShown 1 = .ok (.iconst 0, 1) := by decide +kernel
theorem dX4_vaneShown_2 : decode cX4_vaneShown 2 = .ok (.putfield 35, 3) := by decide +kernel
theorem dX4_vaneShown_5 : decode cX4_vaneShown 5 = .ok (.iconst 0, 1) := by decide +kernel
theorem dX4_vaneShown_6 : decode cX4_vaneShown 6 = .ok (.istore_n 1, 1) := by decide +kernel
theorem dX4_vaneShown_7 : decode cX4_vaneShown 7 = .ok (.iconst 0, 1) := by decide +kernel
theorem dX4_vaneShown_8 : decode cX4_vaneShown 8 = .ok (.istore_n 2, 1) := by decide +kernel
theorem dX4_vaneShown_9 : decode cX4_vaneShown 9 = .ok (.iconst 0, 1) := by decide +kernel
theorem dX4_vaneShown_10 : decode cX4_vaneShown 10 = .ok (.istore_n 3, 1) := by decide +kernel
theorem dX4_vaneShown_11 : decode cX4_vaneShown 11 = .ok (.iconst 0, 1) := by decide +kernel
theorem dX4_vaneShown_12 : decode cX4_vaneShown 12 = .ok (.istore 4, 2) := by decide +kernel
theorem dX4_vaneShown_14 : decode cX4_vaneShown 14 = .ok (.iconst 0, 1) := by decide +kernel
theorem dX4_vaneShown_15 : decode cX4_vaneShown 15 = .ok (.istore 5, 2) := by decide +kernel
theorem dX4_vaneShown_17 : decode cX4_vaneShown 17 = .ok (.iload 5, 2) := by decide +kernel
theorem dX4_vaneShown_19 : decode cX4_vaneShown 19 = .ok (.aload_n 0, 1) := by decide +kernel
theorem dX4_vaneShown_20 : decode cX4_vaneShown 20 = .ok (.getfield 42, 3) := by decide +kernel
theorem dX4_vaneShown_23 : decode cX4_vaneShown 23 = .ok (.if_icmp .ge 88, 3) := by decide +kernel
theorem dX4_vaneShown_26 : decode cX4_vaneShown 26 = .ok (.aload_n 0, 1) := by decide +kernel
theorem dX4_vaneShown_27 : decode cX4_vaneShown 27 = .ok (.iload 5, 2) := by decide +kernel
theorem dX4_vaneShown_29 : decode cX4_vaneShown 29 = .ok (.invokevirtual 98, 3) := by decide +kernel
theorem dX4_vaneShown_32 : decode cX4_vaneShown 32 = .ok (.istore 6, 2) := by decide +kernel
theorem dX4_vaneShown_34 : decode cX4_vaneShown 34 = .ok (.aload_n 0, 1) := by decide +kernel
theorem dX4_vaneShown_35 : decode cX4_vaneShown 35 = .ok (.iload 5, 2) := by decide +kernel
theorem dX4_vaneShown_37 : decode cX4_vaneShown 37 = .ok (.invokevirtual 86, 3) := by decide +kernel
theorem dX4_vaneShown_40 : decode cX4_vaneShown 40 = .ok (.invokestatic 101, 3) := by decide +kernel
theorem dX4_vaneShown_43 : decode cX4_vaneShown 43 = .ok (.istore 7, 2) := by decide +kernel
theorem dX4_vaneShown_45 : decode cX4_vaneShown 45 = .ok (.iload_n 1, 1) := by decide +kernel
theorem dX4_vaneShown_46 : decode cX4_vaneShown 46 = .ok (.iload 6, 2) := by decide +kernel
theorem dX4_vaneShown_48 : decode cX4_vaneShown 48 = .ok (.iconst 2, 1) := by decide +kernel
theorem dX4_vaneShown_49 : decode cX4_vaneShown 49 = .ok (.if_icmp .ne 7, 3) := by decide +kernel
theorem dX4_vaneShown_52 : decode cX4_vaneShown 52 = .ok (.iconst 1, 1) := by decide +kernel
theorem dX4_vaneShown_53 : decode cX4_vaneShown 53 = .ok (.goto 4, 3) := by decide +kernel
theorem dX4_vaneShown_56 : decode cX4_vaneShown 56 = .ok (.iconst 0, 1) := by decide +kernel
theorem dX4_vaneShown_57 : decode cX4_vaneShown 57 = .ok (.iadd, 1) := by decide +kernel
theorem dX4_vaneShown_58 : decode cX4_vaneShown 58 = .ok (.istore_n 1, 1) := by decide +kernel
theorem dX4_vaneShown_59 : decode cX4_vaneShown 59 = .ok (.iload_n 2, 1) := by decide +kernel
theorem dX4_vaneShown_60 : decode cX4_vaneShown 60 = .ok (.iload 6, 2) := by decide +kernel
theorem dX4_vaneShown_62 : decode cX4_vaneShown 62 = .ok (.iconst 1, 1) := by decide +kernel
theorem dX4_vaneShown_63 : decode cX4_vaneShown 63 = .ok (.if_icmp .ne 7, 3) := by decide +kernel
theorem dX4_vaneShown_66 : decode cX4_vaneShown 66 = .ok (.iconst 1, 1) := by decide +kernel
theorem dX4_vaneShown_67 : decode cX4_vaneShown 67 = .ok (.goto 4, 3) := by decide +kernel
theorem dX4_vaneShown_70 : decode cX4_vaneShown 70 = .ok (.iconst 0, 1) := by decide +kernel
theorem dX4_vaneShown_71 : decode cX4_vaneShown 71 = .ok (.iadd, 1) := by decide +kernel
theorem dX4_vaneShown_72 : decode cX4_vaneShown 72 = .ok (.istore_n 2, 1) := by decide +kernel
theorem dX4_vaneShown_73 : decode cX4_vaneShown 73 = .ok (.iload_n 3, 1) := by decide +kernel
theorem dX4_vaneShown_74 : decode cX4_vaneShown 74 = .ok (.iload 6, 2) := by decide +kernel
theorem dX4_vaneShown_76 : decode cX4_vaneShown 76 = .ok (.iconst 2, 1) := by decide +kernel
theorem dX4_vaneShown_77 : decode cX4_vaneShown 77 = .ok (.if_icmp .ne 8, 3) := by decide +kernel
theorem dX4_vaneShown_80 : decode cX4_vaneShown 80 = .ok (.iload 7, 2) := by decide +kernel
theorem dX4_vaneShown_82 : decode cX4_vaneShown 82 = .ok (.goto 4, 3) := by decide +kernel
theorem dX4_vaneShown_85 : decode cX4_vaneShown 85 = .ok (.iconst 0, 1) := by decide +kernel
theorem dX4_vaneShown_86 : decode cX4_vaneShown 86 = .ok (.iadd, 1) := by decide +kernel
theorem dX4_vaneShown_87 : decode cX4_vaneShown 87 = .ok (.istore_n 3, 1) := by decide +kernel
theorem dX4_vaneShown_88 : decode cX4_vaneShown 88 = .ok (.iload 4, 2) := by decide +kernel
theorem dX4_vaneShown_90 : decode cX4_vaneShown 90 = .ok (.iload 6, 2) := by decide +kernel
theorem dX4_vaneShown_92 : decode cX4_vaneShown 92 = .ok (.iconst 1, 1) := by decide +kernel
theorem dX4_vaneShown_93 : decode cX4_vaneShown 93 = .ok (.if_icmp .ne 8, 3) := by decide +kernel
theorem dX4_vaneShown_96 : decode cX4_vaneShown 96 = .ok (.iload 7, 2) := by decide +kernel
theorem dX4_vaneShown_98 : decode cX4_vaneShown 98 = .ok (.goto 4, 3) := by decide +kernel
theorem dX4_vaneShown_101 : decode cX4_vaneShown 101 = .ok (.iconst 0, 1) := by decide +kernel
theorem dX4_vaneShown_102 : decode cX4_vaneShown 102 = .ok (.iadd, 1) := by decide +kernel
theorem dX4_vaneShown_103 : decode cX4_vaneShown 103 = .ok (.istore 4, 2) := by decide +kernel
theorem dX4_vaneShown_105 : decode cX4_vaneShown 105 = .ok (.iinc 5 1, 3) := by decide +kernel
theorem dX4_vaneShown_108 : decode cX4_vaneShown 108 = .ok (.goto (-91), 3) := by decide +kernel
theorem dX4_vaneShown_111 : decode cX4_vaneShown 111 = .ok (.iload_n 1, 1) := by decide +kernel
theorem dX4_vaneShown_112 : decode cX4_vaneShown 112 = .ok (.ifCond .eq 7, 3) := by decide +kernel
theorem dX4_vaneShown_115 : decode cX4_vaneShown 115 = .ok (.iload_n 2, 1) := by decide +kernel
theorem dX4_vaneShown_116 : decode cX4_vaneShown 116 = .ok (.ifCond .ne 7, 3) := by decide +kernel
theorem dX4_vaneShown_119 : decode cX4_vaneShown 119 = .ok (.sipush (-1000), 3) := by decide +kernel
theorem dX4_vaneShown_122 : decode cX4_vaneShown 122 = .ok (.ireturn, 1) := by decide +kernel
theorem dX4_vaneShown_123 : decode cX4_vaneShown 123 = .ok (.iload_n 3, 1) := by decide +kernel
theorem dX4_vaneShown_124 : decode cX4_vaneShown 124 = .ok (.iload_n 1, 1) := by decide +kernel
theorem dX4_vaneShown_125 : decode cX4_vaneShown 125 = .ok (.idiv, 1) := by decide +kernel
theorem dX4_vaneShown_126 : decode cX4_vaneShown 126 = .ok (.iload 4, 2) := by decide +kernel
theorem dX4_vaneShown_128 : decode cX4_vaneShown 128 = .ok (.iload_n 2, 1) := by decide +kernel
theorem dX4_vaneShown_129 : decode cX4_vaneShown 129 = .ok (.idiv, 1) := by decide +kernel
theorem dX4_vaneShown_130 : decode cX4_vaneShown 130 = .ok (.isub, 1) := by decide +kernel
theorem dX4_vaneShown_131 : decode cX4_vaneShown 131 = .ok (.istore 5, 2) := by decide +kernel
theorem dX4_vaneShown_133 : decode cX4_vaneShown 133 = .ok (.iload 5, 2) := by decide +kernel
theorem dX4_vaneShown_135 : decode cX4_vaneShown 135 = .ok (.ifCond .lt 10, 3) := by decide +kernel
theorem dX4_vaneShown_138 : decode cX4_vaneShown 138 = .ok (.iload 5, 2) := by decide +kernel
theorem dX4_vaneShown_140 : decode cX4_vaneShown 140 = .ok (.iconst 2, 1) := by decide +kernel
theorem dX4_vaneShown_141 : decode cX4_vaneShown 141 = .ok (.idiv, 1) := by decide +kernel
theorem dX4_vaneShown_142 : decode cX4_vaneShown 142 = .ok (.goto 10, 3) := by decide +kernel
theorem dX4_vaneShown_145 : decode cX4_vaneShown 145 = .ok (.iconst 1, 1) := by decide +kernel
theorem dX4_vaneShown_146 : decode cX4_vaneShown 146 = .ok (.iload 5, 2) := by decide +kernel
theorem dX4_vaneShown_148 : decode cX4_vaneShown 148 = .ok (.isub, 1) := by decide +kernel
theorem dX4_vaneShown_149 : decode cX4_vaneShown 149 = .ok (.iconst 2, 1) := by decide +kernel
theorem dX4_vaneShown_150 : decode cX4_vaneShown 150 = .ok (.idiv, 1) := by decide +kernel
theorem dX4_vaneShown_151 : decode cX4_vaneShown 151 = .ok (.ineg, 1) := by decide +kernel
theorem dX4_vaneShown_152 : decode cX4_vaneShown 152 = .ok (.ireturn, 1) := by decide +kernel
