theorem dX3_north_9 : decode cX3_north 9 = .ok (.invokevirtual 169, 3) := by decide +kernel
theorem dX3_north_12 : decode cX3_north 12 = .ok (.ireturn, 1) := by decide +kernel
set_option maxRecDepth 20000 in
theorem ggX3_vaneShown_X3_meanOpenAngle : GoodIn wsX3_vaneShown wsX3_meanOpenAngle := goodIn_r _ [5, 6, 7, 8, 9, 10, 11, 12, 13, 14, 15, 16, 17, 18, 4, 19, 20, 21, 22, 23, 28, 29, 30, 31, 32, 33, 34, 35, 36, 37, 38, 39, 40, 41, 42, 43, 44, 45] (by decide +kernel) (by decide +kernel)
set_option maxRecDepth 20000 in
theorem gX3_vaneShown_X3_meanOpenAngle : GoodIn wsX3_vaneShown (wsV RX3 172 RX3 yX3_meanOpenAngle wsX3_meanOpenAngle) := goodIn_app (goodIn_of _ (by decide +kernel)) ggX3_vaneShown_X3_meanOpenAngle
set_option maxRecDepth 20000 in
theorem ggX3_vaneShown_J9_floorDiv_7cf53 : GoodIn wsX3_vaneShown wsJ9_floorDiv_7cf53 := goodIn_r _ [27] (by decide +kernel) (by decide +kernel)
set_option maxRecDepth 20000 in
theorem gX3_vaneShown_J9_floorDiv_7cf53 : GoodIn wsX3_vaneShown (va_wsS RX3 175 yJ9_floorDiv_7cf53 wsJ9_floorDiv_7cf53) := goodIn_app (goodIn_of _ (by decide +kernel)) ggX3_vaneShown_J9_floorDiv_7cf53
theorem dX3_vaneShown_0 : decode cX3_vaneShown 0 = .ok (.aload_n 0, 1) := by decide +kernel
theorem dX3_vaneShown_1 : decode cX3_vaneShown 1 = .ok (.iconst 2, 1) := by decide +kernel
theorem dX3_vaneShown_2 : decode cX3_vaneShown 2 = .ok (.invokevirtual 172, 3) := by decide +kernel
theorem dX3_vaneShown_5 : decode cX3_vaneShown 5 = .ok (.istore_n 1, 1) := by decide +kernel
theorem dX3_vaneShown_6 : decode cX3_vaneShown 6 = .ok (.aload_n 0, 1) := by decide +kernel
theorem dX3_vaneShown_7 : decode cX3_vaneShown 7 = .ok (.iconst 1, 1) := by decide +kernel
theorem dX3_vaneShown_8 : decode cX3_vaneShown 8 = .ok (.invokevirtual 172, 3) := by decide +kernel
theorem dX3_vaneShown_11 : decode cX3_vaneShown 11 = .ok (.istore_n 2, 1) := by decide +kernel
theorem dX3_vaneShown_12 : decode cX3_vaneShown 12 = .ok (.iload_n 1, 1) := by decide +kernel
theorem dX3_vaneShown_13 : decode cX3_vaneShown 13 = .ok (.iconst (-1), 1) := by decide +kernel
theorem dX3_vaneShown_14 : decode cX3_vaneShown 14 = .ok (.if_icmp .eq 8, 3) := by decide +kernel
theorem dX3_vaneShown_17 : decode cX3_vaneShown 17 = .ok (.iload_n 2, 1) := by decide +kernel
theorem dX3_vaneShown_18 : decode cX3_vaneShown 18 = .ok (.iconst (-1), 1) := by decide +kernel
theorem dX3_vaneShown_19 : decode cX3_vaneShown 19 = .ok (.if_icmp .ne 7, 3) := by decide +kernel
theorem dX3_vaneShown_22 : decode cX3_vaneShown 22 = .ok (.sipush (-1000), 3) := by decide +kernel
theorem dX3_vaneShown_25 : decode cX3_vaneShown 25 = .ok (.ireturn, 1) := by decide +kernel
theorem dX3_vaneShown_26 : decode cX3_vaneShown 26 = .ok (.iload_n 1, 1) := by decide +kernel
theorem dX3_vaneShown_27 : decode cX3_vaneShown 27 = .ok (.iload_n 2, 1) := by decide +kernel
theorem dX3_vaneShown_28 : decode cX3_vaneShown 28 = .ok (.isub, 1) := by decide +kernel
theorem dX3_vaneShown_29 : decode cX3_vaneShown 29 = .ok (.iconst 2, 1) := by decide +kernel
theorem dX3_vaneShown_30 : decode cX3_vaneShown 30 = .ok (.invokestatic 175, 3) := by decide +kernel
theorem dX3_vaneShown_33 : decode cX3_vaneShown 33 = .ok (.ireturn, 1) := by decide +kernel
theorem dX3_isWithin_0 : decode cX3_isWithin 0 = .ok (.iload_n 0, 1) := by decide +kernel
theorem dX3_isWithin_1 : decode cX3_isWithin 1 = .ok (.iload_n 1, 1) := by decide +kernel
theorem dX3_isWithin_2 : decode cX3_isWithin 2 = .ok (.if_icmp .lt 12, 3) := by decide +kernel
theorem dX3_isWithin_5 : decode cX3_isWithin 5 = .ok (.iload_n 0, 1) := by decide +kernel
theorem dX3_isWithin_6 : decode cX3_isWithin 6 = .ok (.iload_n 2, 1) := by decide +kernel
theorem dX3_isWithin_7 : decode cX3_isWithin 7 = .ok (.if_icmp .gt 7, 3) := by decide +kernel
theorem dX3_isWithin_10 : decode cX3_isWithin 10 = .ok (.iconst 1, 1) := by decide +kernel
theorem dX3_isWithin_11 : decode cX3_isWithin 11 = .ok (.goto 4, 3) := by decide +kernel
theorem dX3_isWithin_14 : decode cX3_isWithin 14 = .ok (.iconst 0, 1) := by decide +kernel
theorem dX3_isWithin_15 : decode cX3_isWithin 15 = .ok (.ireturn, 1) := by decide +kernel
set_option maxRecDepth 20000 in
theorem ggX3_isDirection_X3_isWithin : GoodIn wsX3_isDirection wsX3_isWithin := goodIn_r _ [4] (by decide +kernel) (by decide +kernel)
set_option maxRecDepth 20000 in
theorem gX3_isDirection_X3_isWithin : GoodIn wsX3_isDirection (va_wsS RX3 41 yX3_isWithin wsX3_isWithin) := goodIn_app (goodIn_of _ (by decide +kernel)) ggX3_isDirection_X3_isWithin
theorem dX3_isDirection_0 : decode cX3_isDirection 0 = .ok (.iload_n 0, 1) := by decide +kernel
theorem dX3_isDirection_1 : decode cX3_isDirection 1 = .ok (.iconst 0, 1) := by decide +kernel
theorem dX3_isDirection_2 : decode cX3_isDirection 2 = .ok (.sipush 359, 3) := by decide +kernel
theorem dX3_isDirection_5 : decode cX3_isDirection 5 = .ok (.invokestatic 41, 3) := by decide +kernel
theorem dX3_isDirection_8 : decode cX3_isDirection 8 = .ok (.ireturn, 1) := by decide +kernel
theorem dX3_checkArgument_0 : decode cX3_checkArgument 0 = .ok (.iload_n 0, 1) := by decide +kernel
theorem dX3_checkArgument_1 : decode cX3_checkArgument 1 = .ok (.ifCond .ne 13, 3) := by decide +kernel
theorem dX3_checkArgument_4 : decode cX3_checkArgument 4 = .ok (.new 178, 3) := by decide +kernel
theorem dX3_checkArgument_7 : decode cX3_checkArgument 7 = .ok (.dup, 1) := by decide +kernel
theorem dX3_checkArgument_8 : decode cX3_checkArgument 8 = .ok (.ldc 180, 2) := by decide +kernel
theorem dX3_checkArgument_10 : decode cX3_checkArgument 10 = .ok (.invokespecial 182, 3) := by decide +kernel
theorem dX3_checkArgument_13 : decode cX3_checkArgument 13 = .ok (.athrow, 1) := by decide +kernel
theorem dX3_checkArgument_14 : decode cX3_checkArgument 14 = .ok (.return_, 1) := by decide +kernel
set_option maxRecDepth 20000 in
theorem ggX3_checkEntry_X3_isWithin : GoodIn wsX3_checkEntry wsX3_isWithin := goodIn_r _ [7] (by decide +kernel) (by decide +kernel)
set_option maxRecDepth 20000 in
theorem gX3_checkEntry_X3_isWithin : GoodIn wsX3_checkEntry (va_wsS RX3 41 yX3_isWithin wsX3_isWithin) := goodIn_app (goodIn_of _ (by decide +kernel)) ggX3_checkEntry_X3_isWithin
theorem dX3_checkEntry_0 : decode cX3_checkEntry 0 = .ok (.iload_n 1, 1) := by decide +kernel
theorem dX3_checkEntry_1 : decode cX3_checkEntry 1 = .ok (.iconst 0, 1) := by decide +kernel
theorem dX3_checkEntry_2 : decode cX3_checkEntry 2 = .ok (.aload_n 0, 1) := by decide +kernel
theorem dX3_checkEntry_3 : decode cX3_checkEntry 3 = .ok (.getfield 53, 3) := by decide +kernel
theorem dX3_checkEntry_6 : decode cX3_checkEntry 6 = .ok (.iconst 1, 1) := by decide +kernel
theorem dX3_checkEntry_7 : decode cX3_checkEntry 7 = .ok (.isub, 1) := by decide +kernel
theorem dX3_checkEntry_8 : decode cX3_checkEntry 8 = .ok (.invokestatic 41, 3) := by decide +kernel
theorem dX3_checkEntry_11 : decode cX3_checkEntry 11 = .ok (.ifCond .ne 13, 3) := by decide +kernel
theorem dX3_checkEntry_14 : decode cX3_checkEntry 14 = .ok (.new 96, 3) := by decide +kernel
theorem dX3_checkEntry_17 : decode cX3_checkEntry 17 = .ok (.dup, 1) := by decide +kernel
theorem dX3_checkEntry_18 : decode cX3_checkEntry 18 = .ok (.ldc 183, 2) := by decide +kernel
theorem dX3_checkEntry_20 : decode cX3_checkEntry 20 = .ok (.invokespecial 100, 3) := by decide +kernel
theorem dX3_checkEntry_23 : decode cX3_checkEntry 23 = .ok (.athrow, 1) := by decide +kernel
theorem dX3_checkEntry_24 : decode cX3_checkEntry 24 = .ok (.return_, 1) := by decide +kernel
set_option maxRecDepth 20000 in
theorem ggX3_checkField_X3_isWithin : GoodIn wsX3_checkField wsX3_isWithin := goodIn_r _ [6] (by decide +kernel) (by decide +kernel)
set_option maxRecDepth 20000 in
theorem gX3_checkField_X3_isWithin : GoodIn wsX3_checkField (va_wsS RX3 41 yX3_isWithin wsX3_isWithin) := goodIn_app (goodIn_of _ (by decide +kernel)) ggX3_checkField_X3_isWithin
set_option maxRecDepth 20000 in
theorem ggX3_checkField_X3_checkColumn : GoodIn wsX3_checkField wsX3_checkColumn := goodIn_ca (goodIn_r _ [9, 1, 2, 3, 4, 5, 6] (by decide +kernel) (by decide +kernel)) (goodIn_sub (fun _ h => List.mem_cons_of_mem _ (List.mem_append_right _ h)) (by decide +kernel))
set_option maxRecDepth 20000 in
theorem gX3_checkField_X3_checkColumn : GoodIn wsX3_checkField (va_wsS RX3 147 yX3_checkColumn wsX3_checkColumn) := goodIn_app (goodIn_of _ (by decide +kernel)) ggX3_checkField_X3_checkColumn
theorem dX3_checkField_0 : decode cX3_checkField 0 = .ok (.iload_n 0, 1) := by decide +kernel
theorem dX3_checkField_1 : decode cX3_checkField 1 = .ok (.iconst 0, 1) := by decide +kernel
theorem dX3_checkField_2 : decode cX3_checkField 2 = .ok (.bipush 18, 2) := by decide +kernel
theorem dX3_checkField_4 : decode cX3_checkField 4 = .ok (.invokestatic 41, 3) := by decide +kernel
theorem dX3_checkField_7 : decode cX3_checkField 7 = .ok (.ifCond .ne 13, 3) := by decide +kernel
theorem dX3_checkField_10 : decode cX3_checkField 10 = .ok (.new 96, 3) := by decide +kernel
theorem dX3_checkField_13 : decode cX3_checkField 13 = .ok (.dup, 1) := by decide +kernel
theorem dX3_checkField_14 : decode cX3_checkField 14 = .ok (.ldc 185, 2) := by decide +kernel
theorem dX3_checkField_16 : decode cX3_checkField 16 = .ok (.invokespecial 100, 3) := by decide +kernel
theorem dX3_checkField_19 : decode cX3_checkField 19 = .ok (.athrow, 1) := by decide +kernel
theorem dX3_checkField_20 : decode cX3_checkField 20 = .ok (.iload_n 1, 1) := by decide +kernel
theorem dX3_checkField_21 : decode cX3_checkField 21 = .ok (.invokestatic 147, 3) := by decide +kernel
theorem dX3_checkField_24 : decode cX3_checkField 24 = .ok (.return_, 1) := by decide +kernel
set_option maxRecDepth 20000 in
theorem ggX3_checkColumn_X3_isWithin : GoodIn wsX3_checkColumn wsX3_isWithin := goodIn_r _ [6] (by decide +kernel) (by decide +kernel)
set_option maxRecDepth 20000 in
theorem gX3_checkColumn_X3_isWithin : GoodIn wsX3_checkColumn (va_wsS RX3 41 yX3_isWithin wsX3_isWithin) := goodIn_app (goodIn_of _ (by decide +kernel)) ggX3_checkColumn_X3_isWithin
theorem dX3_checkColumn_0 : decode cX3_checkColumn 0 = .ok (.iload_n 0, 1) := by decide +kernel
theorem dX3_checkColumn_1 : decode cX3_checkColumn 1 = .ok (.iconst 0, 1) := by decide +kernel
theorem dX3_checkColumn_2 : decode cX3_checkColumn 2 = .ok (.bipush 9, 2) := by decide +kernel
theorem dX3_checkColumn_4 : decode cX3_checkColumn 4 = .ok (.invokestatic 41, 3) := by decide +kernel
theorem dX3_checkColumn_7 : decode cX3_checkColumn 7 = .ok (.ifCond .ne 13, 3) := by decide +kernel
theorem dX3_checkColumn_10 : decode cX3_checkColumn 10 = .ok (.new 96, 3) := by decide +kernel
theorem dX3_checkColumn_13 : decode cX3_checkColumn 13 = .ok (.dup, 1) := by decide +kernel
theorem dX3_checkColumn_14 : decode cX3_checkColumn 14 = .ok (.ldc 187, 2) := by decide +kernel
theorem dX3_checkColumn_16 : decode cX3_checkColumn 16 = .ok (.invokespecial 100, 3) := by decide +kernel
theorem dX3_checkColumn_19 : decode cX3_checkColumn 19 = .ok (.athrow, 1) := by decide +kernel
theorem dX3_checkColumn_20 : decode cX3_checkColumn 20 = .ok (.return_, 1) := by decide +kernel
set_option maxRecDepth 20000 in
theorem ggX3_turned_J9_floorMod_7cf53 : GoodIn wsX3_turned wsJ9_floorMod_7cf53 := goodIn_r _ [4] (by decide +kernel) (by decide +kernel)
set_option maxRecDepth 20000 in
theorem gX3_turned_J9_floorMod_7cf53 : GoodIn wsX3_turned (va_wsS RX3 189 yJ9_floorMod_7cf53 wsJ9_floorMod_7cf53) := goodIn_app (goodIn_of _ (by decide +kernel)) ggX3_turned_J9_floorMod_7cf53
theorem dX3_turned_0 : decode cX3_turned 0 = .ok (.iload_n 0, 1) := by decide +kernel
theorem dX3_turned_1 : decode cX3_turned 1 = .ok (.iload_n 1, 1) := by decide +kernel
theorem dX3_turned_2 : decode cX3_turned 2 = .ok (.iadd, 1) := by decide +kernel
theorem dX3_turned_3 : decode cX3_turned 3 = .ok (.sipush 360, 3) := by decide +kernel
theorem dX3_turned_6 : decode cX3_turned 6 = .ok (.invokestatic 189, 3) := by decide +kernel
theorem dX3_turned_9 : decode cX3_turned 9 = .ok (.ireturn, 1) := by decide +kernel
theorem dX3_openAngleOf_0 : decode cX3_openAngleOf 0 = .ok (.iload_n 0, 1) := by decide +kernel
theorem dX3_openAngleOf_1 : decode cX3_openAngleOf 1 = .ok (.sipush 360, 3) := by decide +kernel
theorem dX3_openAngleOf_4 : decode cX3_openAngleOf 4 = .ok (.iload_n 0, 1) := by decide +kernel
theorem dX3_openAngleOf_5 : decode cX3_openAngleOf 5 = .ok (.isub, 1) := by decide +kernel
theorem dX3_openAngleOf_6 : decode cX3_openAngleOf 6 = .ok (.invokestatic 192, 3) := by decide +kernel
theorem dX3_openAngleOf_9 : decode cX3_openAngleOf 9 = .ok (.ireturn, 1) := by decide +kernel
theorem dX3_rowOf_0 : decode cX3_rowOf 0 = .ok (.iload_n 0, 1) := by decide +kernel
theorem dX3_rowOf_1 : decode cX3_rowOf 1 = .ok (.bipush 10, 2) := by decide +kernel
theorem dX3_rowOf_3 : decode cX3_rowOf 3 = .ok (.idiv, 1) := by decide +kernel
theorem dX3_rowOf_4 : decode cX3_rowOf 4 = .ok (.ireturn, 1) := by decide +kernel
theorem dX3_middleOf_0 : decode cX3_middleOf 0 = .ok (.iload_n 0, 1) := by decide +kernel
theorem dX3_middleOf_1 : decode cX3_middleOf 1 = .ok (.bipush 10, 2) := by decide +kernel
theorem dX3_middleOf_3 : decode cX3_middleOf 3 = .ok (.imul, 1) := by decide +kernel
theorem dX3_middleOf_4 : decode cX3_middleOf 4 = .ok (.iconst 5, 1) := by decide +kernel
theorem dX3_middleOf_5 : decode cX3_middleOf 5 = .ok (.iadd, 1) := by decide +kernel
theorem dX3_middleOf_6 : decode cX3_middleOf 6 = .ok (.sipush 180, 3) := by decide +kernel
theorem dX3_middleOf_9 : decode cX3_middleOf 9 = .ok (.invokestatic 192, 3) := by decide +kernel
theorem dX3_middleOf_12 : decode cX3_middleOf 12 = .ok (.ireturn, 1) := by decide +kernel
set_option maxRecDepth 20000 in
theorem ggX3_bestRow_X0_kept : GoodIn wsX3_bestRow wsX0_kept := goodIn_r _ [7, 8, 36] (by decide +kernel) (by decide +kernel)
set_option maxRecDepth 20000 in
theorem gX3_bestRow_X0_kept : GoodIn wsX3_bestRow (wsV RX3 133 RX0 yX0_kept wsX0_kept) := goodIn_app (goodIn_of _ (by decide +kernel)) ggX3_bestRow_X0_kept
set_option maxRecDepth 20000 in
theorem ggX3_bestRow_X3_middleOf : GoodIn wsX3_bestRow wsX3_middleOf := goodIn_r _ [12, 13, 14, 15, 16] (by decide +kernel) (by decide +kernel)
set_option maxRecDepth 20000 in
theorem gX3_bestRow_X3_middleOf : GoodIn wsX3_bestRow (va_wsS RX3 195 yX3_middleOf wsX3_middleOf) := goodIn_app (goodIn_of _ (by decide +kernel)) ggX3_bestRow_X3_middleOf
set_option maxRecDepth 20000 in
theorem ggX3_bestRow_X1_cosineOf : GoodIn wsX3_bestRow wsX1_cosineOf := goodIn_r _ [21, 22, 23, 24, 25, 26, 37] (by decide +kernel) (by decide +kernel)
set_option maxRecDepth 20000 in
theorem gX3_bestRow_X1_cosineOf : GoodIn wsX3_bestRow (wsV RX3 160 RX1 yX1_cosineOf wsX1_cosineOf) := goodIn_app (goodIn_of _ (by decide +kernel)) ggX3_bestRow_X1_cosineOf
theorem dX3_bestRow_0 : decode cX3_bestRow 0 = .ok (.iconst (-1), 1) := by decide +kernel
theorem dX3_bestRow_1 : decode cX3_bestRow 1 = .ok (.istore 5, 2) := by decide +kernel
theorem dX3_bestRow_3 : decode cX3_bestRow 3 = .ok (.iconst 0, 1) := by decide +kernel
theorem dX3_bestRow_4 : decode cX3_bestRow 4 = .ok (.istore 6, 2) := by decide +kernel
theorem dX3_bestRow_6 : decode cX3_bestRow 6 = .ok (.iload_n 2, 1) := by decide +kernel
theorem dX3_bestRow_7 : decode cX3_bestRow 7 = .ok (.istore 7, 2) := by decide +kernel
theorem dX3_bestRow_9 : decode cX3_bestRow 9 = .ok (.iload 7, 2) := by decide +kernel
theorem dX3_bestRow_11 : decode cX3_bestRow 11 = .ok (.iload_n 3, 1) := by decide +kernel
theorem dX3_bestRow_12 : decode cX3_bestRow 12 = .ok (.if_icmp .gt 52, 3) := by decide +kernel
theorem dX3_bestRow_15 : decode cX3_bestRow 15 = .ok (.iload 4, 2) := by decide +kernel
theorem dX3_bestRow_17 : decode cX3_bestRow 17 = .ok (.aload_n 0, 1) := by decide +kernel
theorem dX3_bestRow_18 : decode cX3_bestRow 18 = .ok (.getfield 26, 3) := by decide +kernel
theorem dX3_bestRow_21 : decode cX3_bestRow 21 = .ok (.iload 7, 2) := by decide +kernel
theorem dX3_bestRow_23 : decode cX3_bestRow 23 = .ok (.iload_n 1, 1) := by decide +kernel
theorem dX3_bestRow_24 : decode cX3_bestRow 24 = .ok (.invokevirtual 133, 3) := by decide +kernel
theorem dX3_bestRow_27 : decode cX3_bestRow 27 = .ok (.imul, 1) := by decide +kernel
theorem dX3_bestRow_28 : decode cX3_bestRow 28 = .ok (.aload_n 0, 1) := by decide +kernel
theorem dX3_bestRow_29 : decode cX3_bestRow 29 = .ok (.getfield 12, 3) := by decide +kernel
theorem dX3_bestRow_32 : decode cX3_bestRow 32 = .ok (.iload 7, 2) := by decide +kernel
theorem dX3_bestRow_34 : decode cX3_bestRow 34 = .ok (.invokestatic 195, 3) := by decide +kernel
theorem dX3_bestRow_37 : decode cX3_bestRow 37 = .ok (.invokevirtual 160, 3) := by decide +kernel
theorem dX3_bestRow_40 : decode cX3_bestRow 40 = .ok (.imul, 1) := by decide +kernel
theorem dX3_bestRow_41 : decode cX3_bestRow 41 = .ok (.istore 8, 2) := by decide +kernel
theorem dX3_bestRow_43 : decode cX3_bestRow 43 = .ok (.iload 8, 2) := by decide +kernel
theorem dX3_bestRow_45 : decode cX3_bestRow 45 = .ok (.iload 6, 2) := by decide +kernel
theorem dX3_bestRow_47 : decode cX3_bestRow 47 = .ok (.if_icmp .le 11, 3) := by decide +kernel
theorem dX3_bestRow_50 : decode cX3_bestRow 50 = .ok (.iload 8, 2) := by decide +kernel
theorem dX3_bestRow_52 : decode cX3_bestRow 52 = .ok (.istore 6, 2) := by decide +kernel
theorem dX3_bestRow_54 : decode cX3_bestRow 54 = .ok (.iload 7, 2) := by decide +kernel
theorem dX3_bestRow_56 : decode cX3_bestRow 56 = .ok (.istore 5, 2) := by decide +kernel
theorem dX3_bestRow_58 : decode cX3_bestRow 58 = .ok (.iinc 7 1, 3) := by decide +kernel
theorem dX3_bestRow_61 : decode cX3_bestRow 61 = .ok (.goto (-52), 3) := by decide +kernel
theorem dX3_bestRow_64 : decode cX3_bestRow 64 = .ok (.iload 5, 2) := by decide +kernel
theorem dX3_bestRow_66 : decode cX3_bestRow 66 = .ok (.ireturn, 1) := by decide +kernel
set_option maxRecDepth 20000 in
theorem ggX3_reckonAll_X0_forget : GoodIn wsX3_reckonAll wsX0_forget := goodIn_r _ [8, 9, 98] (by decide +kernel) (by decide +kernel)
set_option maxRecDepth 20000 in
theorem gX3_reckonAll_X0_forget : GoodIn wsX3_reckonAll (wsV RX3 198 RX0 yX0_forget wsX0_forget) := goodIn_app (goodIn_of _ (by decide +kernel)) ggX3_reckonAll_X0_forget
set_option maxRecDepth 20000 in
theorem ggX3_reckonAll_X3_reckon : GoodIn wsX3_reckonAll wsX3_reckon := goodIn_r _ [14, 15, 16, 17, 18, 19, 20, 21, 22, 23, 24, 25, 26, 27, 28, 29, 13, 30, 31, 32, 33, 34, 35, 36, 37, 38, 39, 40, 41, 42, 43, 44, 45, 46, 47, 48, 49, 50, 51, 52, 53, 54, 55, 56, 99, 100, 101, 102, 103, 104, 105, 106, 107, 89, 90, 91, 92, 93, 94, 95, 96, 97, 108] (by decide +kernel) (by decide +kernel)
set_option maxRecDepth 20000 in
theorem gX3_reckonAll_X3_reckon : GoodIn wsX3_reckonAll (wsV RX3 80 RX3 yX3_reckon wsX3_reckon) := goodIn_app (goodIn_of _ (by decide +kernel)) ggX3_reckonAll_X3_reckon
set_option maxRecDepth 20000 in
theorem ggX3_reckonAll_X0_learn : GoodIn wsX3_reckonAll wsX0_learn := goodIn_r _ [60, 9, 61, 62, 63, 64, 65, 66, 67, 68, 69, 70, 71, 72, 73, 74, 75, 76, 13, 77, 78, 79, 80, 81, 82, 83, 84, 85, 86, 87, 88, 98, 99, 100, 101, 102, 103, 104, 105, 106, 107] (by decide +kernel) (by decide +kernel)
set_option maxRecDepth 20000 in
theorem gX3_reckonAll_X0_learn : GoodIn wsX3_reckonAll (wsV RX3 84 RX0 yX0_learn wsX0_learn) := goodIn_app (goodIn_of _ (by decide +kernel)) ggX3_reckonAll_X0_learn
theorem dX3_reckonAll_0 : decode cX3_reckonAll 0 = .ok (.aload_n 0, 1) := by decide +kernel
theorem dX3_reckonAll_1 : decode cX3_reckonAll 1 = .ok (.getfield 26, 3) := by decide +kernel
theorem dX3_reckonAll_4 : decode cX3_reckonAll 4 = .ok (.invokevirtual 198, 3) := by decide +kernel
theorem dX3_reckonAll_7 : decode cX3_reckonAll 7 = .ok (.iconst 0, 1) := by decide +kernel
theorem dX3_reckonAll_8 : decode cX3_reckonAll 8 = .ok (.istore_n 1, 1) := by decide +kernel
theorem dX3_reckonAll_9 : decode cX3_reckonAll 9 = .ok (.iload_n 1, 1) := by decide +kernel
theorem dX3_reckonAll_10 : decode cX3_reckonAll 10 = .ok (.aload_n 0, 1) := by decide +kernel
theorem dX3_reckonAll_11 : decode cX3_reckonAll 11 = .ok (.getfield 53, 3) := by decide +kernel
theorem dX3_reckonAll_14 : decode cX3_reckonAll 14 = .ok (.if_icmp .ge 32, 3) := by decide +kernel
theorem dX3_reckonAll_17 : decode cX3_reckonAll 17 = .ok (.aload_n 0, 1) := by decide +kernel
theorem dX3_reckonAll_18 : decode cX3_reckonAll 18 = .ok (.aload_n 0, 1) := by decide +kernel
theorem dX3_reckonAll_19 : decode cX3_reckonAll 19 = .ok (.getfield 18, 3) := by decide +kernel
theorem dX3_reckonAll_22 : decode cX3_reckonAll 22 = .ok (.iload_n 1, 1) := by decide +kernel
theorem dX3_reckonAll_23 : decode cX3_reckonAll 23 = .ok (.aaload, 1) := by decide +kernel
theorem dX3_reckonAll_24 : decode cX3_reckonAll 24 = .ok (.invokevirtual 80, 3) := by decide +kernel
theorem dX3_reckonAll_27 : decode cX3_reckonAll 27 = .ok (.aload_n 0, 1) := by decide +kernel
theorem dX3_reckonAll_28 : decode cX3_reckonAll 28 = .ok (.getfield 26, 3) := by decide +kernel
theorem dX3_reckonAll_31 : decode cX3_reckonAll 31 = .ok (.aload_n 0, 1) := by decide +kernel
theorem dX3_reckonAll_32 : decode cX3_reckonAll 32 = .ok (.getfield 18, 3) := by decide +kernel
theorem dX3_reckonAll_35 : decode cX3_reckonAll 35 = .ok (.iload_n 1, 1) := by decide +kernel
theorem dX3_reckonAll_36 : decode cX3_reckonAll 36 = .ok (.aaload, 1) := by decide +kernel
theorem dX3_reckonAll_37 : decode cX3_reckonAll 37 = .ok (.invokevirtual 84, 3) := by decide +kernel
theorem dX3_reckonAll_40 : decode cX3_reckonAll 40 = .ok (.iinc 1 1, 3) := by decide +kernel
theorem dX3_reckonAll_43 : decode cX3_reckonAll 43 = .ok (.goto (-34), 3) := by decide +kernel
theorem dX3_reckonAll_46 : decode cX3_reckonAll 46 = .ok (.return_, 1) := by decide +kernel
set_option maxRecDepth 20000 in
theorem ggX3_reckon_X3_turned : GoodIn wsX3_reckon wsX3_turned := goodIn_r _ [17, 18, 19, 20, 21] (by decide +kernel) (by decide +kernel)
set_option maxRecDepth 20000 in
theorem gX3_reckon_X3_turned : GoodIn wsX3_reckon (va_wsS RX3 121 yX3_turned wsX3_turned) := goodIn_app (goodIn_of _ (by decide +kernel)) ggX3_reckon_X3_turned
set_option maxRecDepth 20000 in
theorem ggX3_reckon_X1_cosineOf : GoodIn wsX3_reckon wsX1_cosineOf := goodIn_r _ [26, 27, 28, 19, 20, 21, 62] (by decide +kernel) (by decide +kernel)
set_option maxRecDepth 20000 in
theorem gX3_reckon_X1_cosineOf : GoodIn wsX3_reckon (wsV RX3 160 RX1 yX1_cosineOf wsX1_cosineOf) := goodIn_app (goodIn_of _ (by decide +kernel)) ggX3_reckon_X1_cosineOf
set_option maxRecDepth 20000 in
theorem ggX3_reckon_X1_sineOf : GoodIn wsX3_reckon wsX1_sineOf := goodIn_r _ [32, 27, 28, 19, 20, 21, 62] (by decide +kernel) (by decide +kernel)
set_option maxRecDepth 20000 in
theorem gX3_reckon_X1_sineOf : GoodIn wsX3_reckon (wsV RX3 101 RX1 yX1_sineOf wsX1_sineOf) := goodIn_app (goodIn_of _ (by decide +kernel)) ggX3_reckon_X1_sineOf
set_option maxRecDepth 20000 in
theorem ggX3_reckon_X3_rootOf : GoodIn wsX3_reckon wsX3_rootOf := goodIn_r _ [35] (by decide +kernel) (by decide +kernel)
set_option maxRecDepth 20000 in
theorem gX3_reckon_X3_rootOf : GoodIn wsX3_reckon (va_wsS RX3 203 yX3_rootOf wsX3_rootOf) := goodIn_app (goodIn_of _ (by decide +kernel)) ggX3_reckon_X3_rootOf
set_option maxRecDepth 20000 in
theorem ggX3_reckon_X1_angleOf : GoodIn wsX3_reckon wsX1_angleOf := goodIn_r _ [39, 40, 27, 41, 42, 25, 43, 62] (by decide +kernel) (by decide +kernel)
set_option maxRecDepth 20000 in
theorem gX3_reckon_X1_angleOf : GoodIn wsX3_reckon (wsV RX3 207 RX1 yX1_angleOf wsX1_angleOf) := goodIn_app (goodIn_of _ (by decide +kernel)) ggX3_reckon_X1_angleOf
theorem dX3_reckon_0 : decode cX3_reckon 0 = .ok (.aload_n 1, 1) := by decide +kernel
theorem dX3_reckon_1 : decode cX3_reckon 1 = .ok (.aload_n 1, 1) := by decide +kernel
theorem dX3_reckon_2 : decode cX3_reckon 2 = .ok (.getfield 68, 3) := by decide +kernel
theorem dX3_reckon_5 : decode cX3_reckon 5 = .ok (.aload_n 0, 1) := by decide +kernel
theorem dX3_reckon_6 : decode cX3_reckon 6 = .ok (.getfield 37, 3) := by decide +kernel
theorem dX3_reckon_9 : decode cX3_reckon 9 = .ok (.imul, 1) := by decide +kernel
theorem dX3_reckon_10 : decode cX3_reckon 10 = .ok (.sipush 1000, 3) := by decide +kernel
theorem dX3_reckon_13 : decode cX3_reckon 13 = .ok (.idiv, 1) := by decide +kernel
theorem dX3_reckon_14 : decode cX3_reckon 14 = .ok (.putfield 109, 3) := by decide +kernel
theorem dX3_reckon_17 : decode cX3_reckon 17 = .ok (.aload_n 1, 1) := by decide +kernel
theorem dX3_reckon_18 : decode cX3_reckon 18 = .ok (.aload_n 1, 1) := by decide +kernel
theorem dX3_reckon_19 : decode cX3_reckon 19 = .ok (.getfield 71, 3) := by decide +kernel
theorem dX3_reckon_22 : decode cX3_reckon 22 = .ok (.aload_n 0, 1) := by decide +kernel
theorem dX3_reckon_23 : decode cX3_reckon 23 = .ok (.getfield 87, 3) := by decide +kernel
theorem dX3_reckon_26 : decode cX3_reckon 26 = .ok (.invokestatic 121, 3) := by decide +kernel
theorem dX3_reckon_29 : decode cX3_reckon 29 = .ok (.putfield 118, 3) := by decide +kernel
theorem dX3_reckon_32 : decode cX3_reckon 32 = .ok (.aload_n 1, 1) := by decide +kernel
theorem dX3_reckon_33 : decode cX3_reckon 33 = .ok (.getfield 77, 3) := by decide +kernel
theorem dX3_reckon_36 : decode cX3_reckon 36 = .ok (.aload_n 0, 1) := by decide +kernel
theorem dX3_reckon_37 : decode cX3_reckon 37 = .ok (.getfield 90, 3) := by decide +kernel
theorem dX3_reckon_40 : decode cX3_reckon 40 = .ok (.invokestatic 121, 3) := by decide +kernel
theorem dX3_reckon_43 : decode cX3_reckon 43 = .ok (.istore_n 2, 1) := by decide +kernel
theorem dX3_reckon_44 : decode cX3_reckon 44 = .ok (.aload_n 1, 1) := by decide +kernel
theorem dX3_reckon_45 : decode cX3_reckon 45 = .ok (.getfield 74, 3) := by decide +kernel
theorem dX3_reckon_48 : decode cX3_reckon 48 = .ok (.i2l, 1) := by decide +kernel
theorem dX3_reckon_49 : decode cX3_reckon 49 = .ok (.aload_n 0, 1) := by decide +kernel
theorem dX3_reckon_50 : decode cX3_reckon 50 = .ok (.getfield 12, 3) := by decide +kernel
theorem dX3_reckon_53 : decode cX3_reckon 53 = .ok (.iload_n 2, 1) := by decide +kernel
theorem dX3_reckon_54 : decode cX3_reckon 54 = .ok (.invokevirtual 160, 3) := by decide +kernel
theorem dX3_reckon_57 : decode cX3_reckon 57 = .ok (.i2l, 1) := by decide +kernel
theorem dX3_reckon_58 : decode cX3_reckon 58 = .ok (.lmul, 1) := by decide +kernel
theorem dX3_reckon_59 : decode cX3_reckon 59 = .ok (.ldc2_w 201, 3) := by decide +kernel
theorem dX3_reckon_62 : decode cX3_reckon 62 = .ok (.aload_n 1, 1) := by decide +kernel
theorem dX3_reckon_63 : decode cX3_reckon 63 = .ok (.getfield 109, 3) := by decide +kernel
theorem dX3_reckon_66 : decode cX3_reckon 66 = .ok (.i2l, 1) := by decide +kernel
theorem dX3_reckon_67 : decode cX3_reckon 67 = .ok (.lmul, 1) := by decide +kernel
theorem dX3_reckon_68 : decode cX3_reckon 68 = .ok (.lsub, 1) := by decide +kernel
theorem dX3_reckon_69 : decode cX3_reckon 69 = .ok (.lstore_n 3, 1) := by decide +kernel
theorem dX3_reckon_70 : decode cX3_reckon 70 = .ok (.aload_n 1, 1) := by decide +kernel
theorem dX3_reckon_71 : decode cX3_reckon 71 = .ok (.getfield 74, 3) := by decide +kernel
theorem dX3_reckon_74 : decode cX3_reckon 74 = .ok (.i2l, 1) := by decide +kernel
theorem dX3_reckon_75 : decode cX3_reckon 75 = .ok (.aload_n 0, 1) := by decide +kernel
theorem dX3_reckon_76 : decode cX3_reckon 76 = .ok (.getfield 12, 3) := by decide +kernel
theorem dX3_reckon_79 : decode cX3_reckon 79 = .ok (.iload_n 2, 1) := by decide +kernel
theorem dX3_reckon_80 : decode cX3_reckon 80 = .ok (.invokevirtual 101, 3) := by decide +kernel
theorem dX3_reckon_83 : decode cX3_reckon 83 = .ok (.i2l, 1) := by decide +kernel
theorem dX3_reckon_84 : decode cX3_reckon 84 = .ok (.lmul, 1) := by decide +kernel
theorem dX3_reckon_85 : decode cX3_reckon 85 = .ok (.lstore 5, 2) := by decide +kernel
theorem dX3_reckon_87 : decode cX3_reckon 87 = .ok (.aload_n 1, 1) := by decide +kernel
theorem dX3_reckon_88 : decode cX3_reckon 88 = .ok (.lload_n 3, 1) := by decide +kernel
theorem dX3_reckon_89 : decode cX3_reckon 89 = .ok (.lload_n 3, 1) := by decide +kernel
theorem dX3_reckon_90 : decode cX3_reckon 90 = .ok (.lmul, 1) := by decide +kernel
theorem dX3_reckon_91 : decode cX3_reckon 91 = .ok (.lload 5, 2) := by decide +kernel
theorem dX3_reckon_93 : decode cX3_reckon 93 = .ok (.lload 5, 2) := by decide +kernel
theorem dX3_reckon_95 : decode cX3_reckon 95 = .ok (.lmul, 1) := by decide +kernel
theorem dX3_reckon_96 : decode cX3_reckon 96 = .ok (.ladd, 1) := by decide +kernel
theorem dX3_reckon_97 : decode cX3_reckon 97 = .ok (.invokestatic 203, 3) := by decide +kernel
theorem dX3_reckon_100 : decode cX3_reckon 100 = .ok (.ldc2_w 201, 3) := by decide +kernel
theorem dX3_reckon_103 : decode cX3_reckon 103 = .ok (.ldiv, 1) := by decide +kernel
theorem dX3_reckon_104 : decode cX3_reckon 104 = .ok (.l2i, 1) := by decide +kernel
theorem dX3_reckon_105 : decode cX3_reckon 105 = .ok (.putfield 112, 3) := by decide +kernel
theorem dX3_reckon_108 : decode cX3_reckon 108 = .ok (.aload_n 1, 1) := by decide +kernel
theorem dX3_reckon_109 : decode cX3_reckon 109 = .ok (.aload_n 0, 1) := by decide +kernel
theorem dX3_reckon_110 : decode cX3_reckon 110 = .ok (.getfield 12, 3) := by decide +kernel
theorem dX3_reckon_113 : decode cX3_reckon 113 = .ok (.lload_n 3, 1) := by decide +kernel
theorem dX3_reckon_114 : decode cX3_reckon 114 = .ok (.lload 5, 2) := by decide +kernel
theorem dX3_reckon_116 : decode cX3_reckon 116 = .ok (.invokevirtual 207, 3) := by decide +kernel
theorem dX3_reckon_119 : decode cX3_reckon 119 = .ok (.putfield 115, 3) := by decide +kernel
theorem dX3_reckon_122 : decode cX3_reckon 122 = .ok (.return_, 1) := by decide +kernel
theorem dX3_rootOf_0 : decode cX3_rootOf 0 = .ok (.lconst 0, 1) := by decide +kernel
theorem dX3_rootOf_1 : decode cX3_rootOf 1 = .ok (.lstore_n 2, 1) := by decide +kernel
theorem dX3_rootOf_2 : decode cX3_rootOf 2 = .ok (.bipush 20, 2) := by decide +kernel
theorem dX3_rootOf_4 : decode cX3_rootOf 4 = .ok (.istore 4, 2) := by decide +kernel
theorem dX3_rootOf_6 : decode cX3_rootOf 6 = .ok (.iload 4, 2) := by decide +kernel
theorem dX3_rootOf_8 : decode cX3_rootOf 8 = .ok (.ifCond .lt 30, 3) := by decide +kernel
theorem dX3_rootOf_11 : decode cX3_rootOf 11 = .ok (.lload_n 2, 1) := by decide +kernel
theorem dX3_rootOf_12 : decode cX3_rootOf 12 = .ok (.lconst 1, 1) := by decide +kernel
theorem dX3_rootOf_13 : decode cX3_rootOf 13 = .ok (.iload 4, 2) := by decide +kernel
theorem dX3_rootOf_15 : decode cX3_rootOf 15 = .ok (.lshl, 1) := by decide +kernel
theorem dX3_rootOf_16 : decode cX3_rootOf 16 = .ok (.ladd, 1) := by decide +kernel
theorem dX3_rootOf_17 : decode cX3_rootOf 17 = .ok (.lstore 5, 2) := by decide +kernel
theorem dX3_rootOf_19 : decode cX3_rootOf 19 = .ok (.lload 5, 2) := by decide +kernel
theorem dX3_rootOf_21 : decode cX3_rootOf 21 = .ok (.lload 5, 2) := by decide +kernel
theorem dX3_rootOf_23 : decode cX3_rootOf 23 = .ok (.lmul, 1) := by decide +kernel
theorem dX3_rootOf_24 : decode cX3_rootOf 24 = .ok (.lload_n 0, 1) := by decide +kernel
theorem dX3_rootOf_25 : decode cX3_rootOf 25 = .ok (.lcmp, 1) := by decide +kernel
theorem dX3_rootOf_26 : decode cX3_rootOf 26 = .ok (.ifCond .gt 6, 3) := by decide +kernel
theorem dX3_rootOf_29 : decode cX3_rootOf 29 = .ok (.lload 5, 2) := by decide +kernel
theorem dX3_rootOf_31 : decode cX3_rootOf 31 = .ok (.lstore_n 2, 1) := by decide +kernel
theorem dX3_rootOf_32 : decode cX3_rootOf 32 = .ok (.iinc 4 (-1), 3) := by decide +kernel
theorem dX3_rootOf_35 : decode cX3_rootOf 35 = .ok (.goto (-29), 3) := by decide +kernel
theorem dX3_rootOf_38 : decode cX3_rootOf 38 = .ok (.lload_n 2, 1) := by decide +kernel
theorem dX3_rootOf_39 : decode cX3_rootOf 39 = .ok (.lreturn, 1) := by decide +kernel
set_option maxRecDepth 20000 in
theorem ggX3_kindOf_X2_windSide : GoodIn wsX3_kindOf wsX2_windSide := goodIn_r _ [6, 7, 28, 29, 30, 31, 32, 33, 34, 35, 36] (by decide +kernel) (by decide +kernel)
set_option maxRecDepth 20000 in
theorem gX3_kindOf_X2_windSide : GoodIn wsX3_kindOf (wsV RX3 125 RX2 yX2_windSide wsX2_windSide) := goodIn_app (goodIn_of _ (by decide +kernel)) ggX3_kindOf_X2_windSide
set_option maxRecDepth 20000 in
theorem ggX3_kindOf_X2_openAngle : GoodIn wsX3_kindOf wsX2_openAngle := goodIn_r _ [11, 7, 12, 13, 14, 15, 16, 17, 18, 28, 29, 30, 31, 32, 33, 34, 35, 36] (by decide +kernel) (by decide +kernel)
set_option maxRecDepth 20000 in
theorem gX3_kindOf_X2_openAngle : GoodIn wsX3_kindOf (wsV RX3 211 RX2 yX2_openAngle wsX2_openAngle) := goodIn_app (goodIn_of _ (by decide +kernel)) ggX3_kindOf_X2_openAngle
theorem dX3_kindOf_0 : decode cX3_kindOf 0 = .ok (.iload_n 1, 1) := by decide +kernel
theorem dX3_kindOf_1 : decode cX3_kindOf 1 = .ok (.ifCond .ne 5, 3) := by decide +kernel
theorem dX3_kindOf_4 : decode cX3_kindOf 4 = .ok (.iconst 0, 1) := by decide +kernel
theorem dX3_kindOf_5 : decode cX3_kindOf 5 = .ok (.ireturn, 1) := by decide +kernel
theorem dX3_kindOf_6 : decode cX3_kindOf 6 = .ok (.aload_n 0, 1) := by decide +kernel
theorem dX3_kindOf_7 : decode cX3_kindOf 7 = .ok (.getfield 18, 3) := by decide +kernel
theorem dX3_kindOf_10 : decode cX3_kindOf 10 = .ok (.iload_n 1, 1) := by decide +kernel
theorem dX3_kindOf_11 : decode cX3_kindOf 11 = .ok (.iconst 1, 1) := by decide +kernel
theorem dX3_kindOf_12 : decode cX3_kindOf 12 = .ok (.isub, 1) := by decide +kernel
theorem dX3_kindOf_13 : decode cX3_kindOf 13 = .ok (.aaload, 1) := by decide +kernel
theorem dX3_kindOf_14 : decode cX3_kindOf 14 = .ok (.astore_n 2, 1) := by decide +kernel
theorem dX3_kindOf_15 : decode cX3_kindOf 15 = .ok (.aload_n 0, 1) := by decide +kernel
theorem dX3_kindOf_16 : decode cX3_kindOf 16 = .ok (.getfield 18, 3) := by decide +kernel
theorem dX3_kindOf_19 : decode cX3_kindOf 19 = .ok (.iload_n 1, 1) := by decide +kernel
theorem dX3_kindOf_20 : decode cX3_kindOf 20 = .ok (.aaload, 1) := by decide +kernel
theorem dX3_kindOf_21 : decode cX3_kindOf 21 = .ok (.astore_n 3, 1) := by decide +kernel
theorem dX3_kindOf_22 : decode cX3_kindOf 22 = .ok (.aload_n 3, 1) := by decide +kernel
theorem dX3_kindOf_23 : decode cX3_kindOf 23 = .ok (.invokevirtual 125, 3) := by decide +kernel
theorem dX3_kindOf_26 : decode cX3_kindOf 26 = .ok (.istore 4, 2) := by decide +kernel
theorem dX3_kindOf_28 : decode cX3_kindOf 28 = .ok (.aload_n 2, 1) := by decide +kernel
theorem dX3_kindOf_29 : decode cX3_kindOf 29 = .ok (.invokevirtual 125, 3) := by decide +kernel
theorem dX3_kindOf_32 : decode cX3_kindOf 32 = .ok (.istore 5, 2) := by decide +kernel
theorem dX3_kindOf_34 : decode cX3_kindOf 34 = .ok (.iload 4, 2) := by decide +kernel
theorem dX3_kindOf_36 : decode cX3_kindOf 36 = .ok (.ifCond .eq 15, 3) := by decide +kernel
theorem dX3_kindOf_39 : decode cX3_kindOf 39 = .ok (.iload 5, 2) := by decide +kernel
theorem dX3_kindOf_41 : decode cX3_kindOf 41 = .ok (.ifCond .eq 10, 3) := by decide +kernel
theorem dX3_kindOf_44 : decode cX3_kindOf 44 = .ok (.iload 4, 2) := by decide +kernel
theorem dX3_kindOf_46 : decode cX3_kindOf 46 = .ok (.iload 5, 2) := by decide +kernel
theorem dX3_kindOf_48 : decode cX3_kindOf 48 = .ok (.if_icmp .ne 5, 3) := by decide +kernel
theorem dX3_kindOf_51 : decode cX3_kindOf 51 = .ok (.iconst 0, 1) := by decide +kernel
theorem dX3_kindOf_52 : decode cX3_kindOf 52 = .ok (.ireturn, 1) := by decide +kernel
theorem dX3_kindOf_53 : decode cX3_kindOf 53 = .ok (.aload_n 2, 1) := by decide +kernel
theorem dX3_kindOf_54 : decode cX3_kindOf 54 = .ok (.invokevirtual 211, 3) := by decide +kernel
theorem dX3_kindOf_57 : decode cX3_kindOf 57 = .ok (.aload_n 3, 1) := by decide +kernel
theorem dX3_kindOf_58 : decode cX3_kindOf 58 = .ok (.invokevirtual 211, 3) := by decide +kernel
theorem dX3_kindOf_61 : decode cX3_kindOf 61 = .ok (.iadd, 1) := by decide +kernel
theorem dX3_kindOf_62 : decode cX3_kindOf 62 = .ok (.sipush 180, 3) := by decide +kernel
theorem dX3_kindOf_65 : decode cX3_kindOf 65 = .ok (.if_icmp .ge 7, 3) := by decide +kernel
theorem dX3_kindOf_68 : decode cX3_kindOf 68 = .ok (.iconst 1, 1) := by decide +kernel
theorem dX3_kindOf_69 : decode cX3_kindOf 69 = .ok (.goto 4, 3) := by decide +kernel
theorem dX3_kindOf_72 : decode cX3_kindOf 72 = .ok (.iconst 2, 1) := by decide +kernel
theorem dX3_kindOf_73 : decode cX3_kindOf 73 = .ok (.ireturn, 1) := by decide +kernel
set_option maxRecDepth 20000 in
theorem ggX3_lossOf_X3_kindOf : GoodIn wsX3_lossOf wsX3_kindOf := goodIn_r _ [16, 1, 17, 18, 19, 20, 21, 22, 23, 24, 25, 26, 27, 15, 28, 4, 5, 6, 7, 29, 30, 31, 32, 33, 34, 35, 36, 37, 38, 39, 40, 41, 42, 43, 44, 45, 46] (by decide +kernel) (by decide +kernel)
set_option maxRecDepth 20000 in
theorem gX3_lossOf_X3_kindOf : GoodIn wsX3_lossOf (wsV RX3 163 RX3 yX3_kindOf wsX3_kindOf) := goodIn_app (goodIn_of _ (by decide +kernel)) ggX3_lossOf_X3_kindOf
theorem dX3_lossOf_0 : decode cX3_lossOf 0 = .ok (.aload_n 0, 1) := by decide +kernel
theorem dX3_lossOf_1 : decode cX3_lossOf 1 = .ok (.iload_n 1, 1) := by decide +kernel
theorem dX3_lossOf_2 : decode cX3_lossOf 2 = .ok (.invokevirtual 163, 3) := by decide +kernel
theorem dX3_lossOf_5 : decode cX3_lossOf 5 = .ok (.ifCond .ne 5, 3) := by decide +kernel
theorem dX3_lossOf_8 : decode cX3_lossOf 8 = .ok (.iconst 0, 1) := by decide +kernel
theorem dX3_lossOf_9 : decode cX3_lossOf 9 = .ok (.ireturn, 1) := by decide +kernel
theorem dX3_lossOf_10 : decode cX3_lossOf 10 = .ok (.aload_n 0, 1) := by decide +kernel
theorem dX3_lossOf_11 : decode cX3_lossOf 11 = .ok (.getfield 18, 3) := by decide +kernel
theorem dX3_lossOf_14 : decode cX3_lossOf 14 = .ok (.iload_n 1, 1) := by decide +kernel
theorem dX3_lossOf_15 : decode cX3_lossOf 15 = .ok (.iconst 1, 1) := by decide +kernel
theorem dX3_lossOf_16 : decode cX3_lossOf 16 = .ok (.isub, 1) := by decide +kernel
theorem dX3_lossOf_17 : decode cX3_lossOf 17 = .ok (.aaload, 1) := by decide +kernel
theorem dX3_lossOf_18 : decode cX3_lossOf 18 = .ok (.getfield 109, 3) := by decide +kernel
theorem dX3_lossOf_21 : decode cX3_lossOf 21 = .ok (.istore_n 2, 1) := by decide +kernel
theorem dX3_lossOf_22 : decode cX3_lossOf 22 = .ok (.iload_n 1, 1) := by decide +kernel
theorem dX3_lossOf_23 : decode cX3_lossOf 23 = .ok (.iconst 3, 1) := by decide +kernel
theorem dX3_lossOf_24 : decode cX3_lossOf 24 = .ok (.iadd, 1) := by decide +kernel
theorem dX3_lossOf_25 : decode cX3_lossOf 25 = .ok (.aload_n 0, 1) := by decide +kernel
theorem dX3_lossOf_26 : decode cX3_lossOf 26 = .ok (.getfield 53, 3) := by decide +kernel
theorem dX3_lossOf_29 : decode cX3_lossOf 29 = .ok (.invokestatic 192, 3) := by decide +kernel
theorem dX3_lossOf_32 : decode cX3_lossOf 32 = .ok (.istore_n 3, 1) := by decide +kernel
theorem dX3_lossOf_33 : decode cX3_lossOf 33 = .ok (.iconst 0, 1) := by decide +kernel
theorem dX3_lossOf_34 : decode cX3_lossOf 34 = .ok (.istore 4, 2) := by decide +kernel
theorem dX3_lossOf_36 : decode cX3_lossOf 36 = .ok (.iload_n 1, 1) := by decide +kernel
theorem dX3_lossOf_37 : decode cX3_lossOf 37 = .ok (.istore 5, 2) := by decide +kernel
theorem dX3_lossOf_39 : decode cX3_lossOf 39 = .ok (.iload 5, 2) := by decide +kernel
theorem dX3_lossOf_41 : decode cX3_lossOf 41 = .ok (.iload_n 3, 1) := by decide +kernel
theorem dX3_lossOf_42 : decode cX3_lossOf 42 = .ok (.if_icmp .ge 58, 3) := by decide +kernel
theorem dX3_lossOf_45 : decode cX3_lossOf 45 = .ok (.iload_n 2, 1) := by decide +kernel
theorem dX3_lossOf_46 : decode cX3_lossOf 46 = .ok (.aload_n 0, 1) := by decide +kernel
theorem dX3_lossOf_47 : decode cX3_lossOf 47 = .ok (.getfield 18, 3) := by decide +kernel
theorem dX3_lossOf_50 : decode cX3_lossOf 50 = .ok (.iload 5, 2) := by decide +kernel
theorem dX3_lossOf_52 : decode cX3_lossOf 52 = .ok (.aaload, 1) := by decide +kernel
theorem dX3_lossOf_53 : decode cX3_lossOf 53 = .ok (.getfield 109, 3) := by decide +kernel
theorem dX3_lossOf_56 : decode cX3_lossOf 56 = .ok (.isub, 1) := by decide +kernel
theorem dX3_lossOf_57 : decode cX3_lossOf 57 = .ok (.iconst 0, 1) := by decide +kernel
theorem dX3_lossOf_58 : decode cX3_lossOf 58 = .ok (.invokestatic 142, 3) := by decide +kernel
theorem dX3_lossOf_61 : decode cX3_lossOf 61 = .ok (.istore 6, 2) := by decide +kernel
theorem dX3_lossOf_63 : decode cX3_lossOf 63 = .ok (.iload 4, 2) := by decide +kernel
theorem dX3_lossOf_65 : decode cX3_lossOf 65 = .ok (.iload 6, 2) := by decide +kernel
theorem dX3_lossOf_67 : decode cX3_lossOf 67 = .ok (.aload_n 0, 1) := by decide +kernel
theorem dX3_lossOf_68 : decode cX3_lossOf 68 = .ok (.getfield 18, 3) := by decide +kernel
theorem dX3_lossOf_71 : decode cX3_lossOf 71 = .ok (.iload 5, 2) := by decide +kernel
theorem dX3_lossOf_73 : decode cX3_lossOf 73 = .ok (.aaload, 1) := by decide +kernel
theorem dX3_lossOf_74 : decode cX3_lossOf 74 = .ok (.getfield 63, 3) := by decide +kernel
theorem dX3_lossOf_77 : decode cX3_lossOf 77 = .ok (.aload_n 0, 1) := by decide +kernel
theorem dX3_lossOf_78 : decode cX3_lossOf 78 = .ok (.getfield 18, 3) := by decide +kernel
theorem dX3_lossOf_81 : decode cX3_lossOf 81 = .ok (.iload 5, 2) := by decide +kernel
theorem dX3_lossOf_83 : decode cX3_lossOf 83 = .ok (.iconst 1, 1) := by decide +kernel
theorem dX3_lossOf_84 : decode cX3_lossOf 84 = .ok (.isub, 1) := by decide +kernel
theorem dX3_lossOf_85 : decode cX3_lossOf 85 = .ok (.aaload, 1) := by decide +kernel
theorem dX3_lossOf_86 : decode cX3_lossOf 86 = .ok (.getfield 63, 3) := by decide +kernel
theorem dX3_lossOf_89 : decode cX3_lossOf 89 = .ok (.isub, 1) := by decide +kernel
theorem dX3_lossOf_90 : decode cX3_lossOf 90 = .ok (.imul, 1) := by decide +kernel
theorem dX3_lossOf_91 : decode cX3_lossOf 91 = .ok (.iadd, 1) := by decide +kernel
theorem dX3_lossOf_92 : decode cX3_lossOf 92 = .ok (.istore 4, 2) := by decide +kernel
theorem dX3_lossOf_94 : decode cX3_lossOf 94 = .ok (.iinc 5 1, 3) := by decide +kernel
theorem dX3_lossOf_97 : decode cX3_lossOf 97 = .ok (.goto (-58), 3) := by decide +kernel
theorem dX3_lossOf_100 : decode cX3_lossOf 100 = .ok (.iload 4, 2) := by decide +kernel
theorem dX3_lossOf_102 : decode cX3_lossOf 102 = .ok (.ireturn, 1) := by decide +kernel
set_option maxRecDepth 20000 in
theorem ggX3_distance_X1_sineOf : GoodIn wsX3_distance wsX1_sineOf := goodIn_r _ [13, 14, 15, 16, 17, 18, 40] (by decide +kernel) (by decide +kernel)
set_option maxRecDepth 20000 in
theorem gX3_distance_X1_sineOf : GoodIn wsX3_distance (wsV RX3 101 RX1 yX1_sineOf wsX1_sineOf) := goodIn_app (goodIn_of _ (by decide +kernel)) ggX3_distance_X1_sineOf
set_option maxRecDepth 20000 in
theorem ggX3_distance_J9_floorDiv_f86c9 : GoodIn wsX3_distance wsJ9_floorDiv_f86c9 := goodIn_r _ [21] (by decide +kernel) (by decide +kernel)
set_option maxRecDepth 20000 in
theorem gX3_distance_J9_floorDiv_f86c9 : GoodIn wsX3_distance (va_wsS RX3 216 yJ9_floorDiv_f86c9 wsJ9_floorDiv_f86c9) := goodIn_app (goodIn_of _ (by decide +kernel)) ggX3_distance_J9_floorDiv_f86c9
theorem dX3_distance_0 : decode cX3_distance 0 = .ok (.lconst 0, 1) := by decide +kernel
theorem dX3_distance_1 : decode cX3_distance 1 = .ok (.lstore_n 3, 1) := by decide +kernel
theorem dX3_distance_2 : decode cX3_distance 2 = .ok (.iconst 0, 1) := by decide +kernel
theorem dX3_distance_3 : decode cX3_distance 3 = .ok (.istore 5, 2) := by decide +kernel
theorem dX3_distance_5 : decode cX3_distance 5 = .ok (.iload 5, 2) := by decide +kernel
theorem dX3_distance_7 : decode cX3_distance 7 = .ok (.iload_n 1, 1) := by decide +kernel
theorem dX3_distance_8 : decode cX3_distance 8 = .ok (.if_icmp .ge 108, 3) := by decide +kernel
theorem dX3_distance_11 : decode cX3_distance 11 = .ok (.aload_n 0, 1) := by decide +kernel
theorem dX3_distance_12 : decode cX3_distance 12 = .ok (.getfield 18, 3) := by decide +kernel
theorem dX3_distance_15 : decode cX3_distance 15 = .ok (.iload 5, 2) := by decide +kernel
theorem dX3_distance_17 : decode cX3_distance 17 = .ok (.aaload, 1) := by decide +kernel
theorem dX3_distance_18 : decode cX3_distance 18 = .ok (.astore 6, 2) := by decide +kernel
theorem dX3_distance_20 : decode cX3_distance 20 = .ok (.aload 6, 2) := by decide +kernel
theorem dX3_distance_22 : decode cX3_distance 22 = .ok (.getfield 63, 3) := by decide +kernel
theorem dX3_distance_25 : decode cX3_distance 25 = .ok (.bipush 60, 2) := by decide +kernel
theorem dX3_distance_27 : decode cX3_distance 27 = .ok (.idiv, 1) := by decide +kernel
theorem dX3_distance_28 : decode cX3_distance 28 = .ok (.istore 7, 2) := by decide +kernel
theorem dX3_distance_30 : decode cX3_distance 30 = .ok (.aload 6, 2) := by decide +kernel
theorem dX3_distance_32 : decode cX3_distance 32 = .ok (.getfield 109, 3) := by decide +kernel
theorem dX3_distance_35 : decode cX3_distance 35 = .ok (.i2l, 1) := by decide +kernel
theorem dX3_distance_36 : decode cX3_distance 36 = .ok (.aload_n 0, 1) := by decide +kernel
theorem dX3_distance_37 : decode cX3_distance 37 = .ok (.getfield 12, 3) := by decide +kernel
theorem dX3_distance_40 : decode cX3_distance 40 = .ok (.aload 6, 2) := by decide +kernel
theorem dX3_distance_42 : decode cX3_distance 42 = .ok (.getfield 118, 3) := by decide +kernel
theorem dX3_distance_45 : decode cX3_distance 45 = .ok (.iload_n 2, 1) := by decide +kernel
theorem dX3_distance_46 : decode cX3_distance 46 = .ok (.iadd, 1) := by decide +kernel
theorem dX3_distance_47 : decode cX3_distance 47 = .ok (.invokevirtual 101, 3) := by decide +kernel
theorem dX3_distance_50 : decode cX3_distance 50 = .ok (.i2l, 1) := by decide +kernel
theorem dX3_distance_51 : decode cX3_distance 51 = .ok (.lmul, 1) := by decide +kernel
theorem dX3_distance_52 : decode cX3_distance 52 = .ok (.lstore 8, 2) := by decide +kernel
theorem dX3_distance_54 : decode cX3_distance 54 = .ok (.aload_n 0, 1) := by decide +kernel
theorem dX3_distance_55 : decode cX3_distance 55 = .ok (.getfield 34, 3) := by decide +kernel
theorem dX3_distance_58 : decode cX3_distance 58 = .ok (.iload 7, 2) := by decide +kernel
theorem dX3_distance_60 : decode cX3_distance 60 = .ok (.iaload, 1) := by decide +kernel
theorem dX3_distance_61 : decode cX3_distance 61 = .ok (.i2l, 1) := by decide +kernel
theorem dX3_distance_62 : decode cX3_distance 62 = .ok (.aload_n 0, 1) := by decide +kernel
theorem dX3_distance_63 : decode cX3_distance 63 = .ok (.getfield 12, 3) := by decide +kernel
theorem dX3_distance_66 : decode cX3_distance 66 = .ok (.aload_n 0, 1) := by decide +kernel
theorem dX3_distance_67 : decode cX3_distance 67 = .ok (.getfield 30, 3) := by decide +kernel
theorem dX3_distance_70 : decode cX3_distance 70 = .ok (.iload 7, 2) := by decide +kernel
theorem dX3_distance_72 : decode cX3_distance 72 = .ok (.iaload, 1) := by decide +kernel
theorem dX3_distance_73 : decode cX3_distance 73 = .ok (.iload_n 2, 1) := by decide +kernel
theorem dX3_distance_74 : decode cX3_distance 74 = .ok (.iadd, 1) := by decide +kernel
theorem dX3_distance_75 : decode cX3_distance 75 = .ok (.invokevirtual 101, 3) := by decide +kernel
theorem dX3_distance_78 : decode cX3_distance 78 = .ok (.i2l, 1) := by decide +kernel
theorem dX3_distance_79 : decode cX3_distance 79 = .ok (.lmul, 1) := by decide +kernel
theorem dX3_distance_80 : decode cX3_distance 80 = .ok (.lstore 10, 2) := by decide +kernel
theorem dX3_distance_82 : decode cX3_distance 82 = .ok (.lload_n 3, 1) := by decide +kernel
theorem dX3_distance_83 : decode cX3_distance 83 = .ok (.lload 8, 2) := by decide +kernel
theorem dX3_distance_85 : decode cX3_distance 85 = .ok (.lload 10, 2) := by decide +kernel
theorem dX3_distance_87 : decode cX3_distance 87 = .ok (.ladd, 1) := by decide +kernel
theorem dX3_distance_88 : decode cX3_distance 88 = .ok (.aload_n 0, 1) := by decide +kernel
theorem dX3_distance_89 : decode cX3_distance 89 = .ok (.getfield 18, 3) := by decide +kernel
theorem dX3_distance_92 : decode cX3_distance 92 = .ok (.iload 5, 2) := by decide +kernel
theorem dX3_distance_94 : decode cX3_distance 94 = .ok (.iconst 1, 1) := by decide +kernel
theorem dX3_distance_95 : decode cX3_distance 95 = .ok (.iadd, 1) := by decide +kernel
theorem dX3_distance_96 : decode cX3_distance 96 = .ok (.aaload, 1) := by decide +kernel
theorem dX3_distance_97 : decode cX3_distance 97 = .ok (.getfield 63, 3) := by decide +kernel
theorem dX3_distance_100 : decode cX3_distance 100 = .ok (.aload 6, 2) := by decide +kernel
theorem dX3_distance_102 : decode cX3_distance 102 = .ok (.getfield 63, 3) := by decide +kernel
theorem dX3_distance_105 : decode cX3_distance 105 = .ok (.isub, 1) := by decide +kernel
theorem dX3_distance_106 : decode cX3_distance 106 = .ok (.i2l, 1) := by decide +kernel
theorem dX3_distance_107 : decode cX3_distance 107 = .ok (.lmul, 1) := by decide +kernel
theorem dX3_distance_108 : decode cX3_distance 108 = .ok (.ladd, 1) := by decide +kernel
theorem dX3_distance_109 : decode cX3_distance 109 = .ok (.lstore_n 3, 1) := by decide +kernel
theorem dX3_distance_110 : decode cX3_distance 110 = .ok (.iinc 5 1, 3) := by decide +kernel
theorem dX3_distance_113 : decode cX3_distance 113 = .ok (.goto (-108), 3) := by decide +kernel
theorem dX3_distance_116 : decode cX3_distance 116 = .ok (.lload_n 3, 1) := by decide +kernel
theorem dX3_distance_117 : decode cX3_distance 117 = .ok (.ldc2_w 214, 3) := by decide +kernel
theorem dX3_distance_120 : decode cX3_distance 120 = .ok (.invokestatic 216, 3) := by decide +kernel
theorem dX3_distance_123 : decode cX3_distance 123 = .ok (.l2i, 1) := by decide +kernel
theorem dX3_distance_124 : decode cX3_distance 124 = .ok (.ireturn, 1) := by decide +kernel
set_option maxRecDepth 20000 in
theorem ggX3_meanOpenAngle_X2_windSide : GoodIn wsX3_meanOpenAngle wsX2_windSide := goodIn_r _ [7, 8, 29, 30, 31, 32, 33, 34, 35, 36, 37] (by decide +kernel) (by decide +kernel)
set_option maxRecDepth 20000 in
theorem gX3_meanOpenAngle_X2_windSide : GoodIn wsX3_meanOpenAngle (wsV RX3 125 RX2 yX2_windSide wsX2_windSide) := goodIn_app (goodIn_of _ (by decide +kernel)) ggX3_meanOpenAngle_X2_windSide
set_option maxRecDepth 20000 in
theorem ggX3_meanOpenAngle_X2_openAngle : GoodIn wsX3_meanOpenAngle wsX2_openAngle := goodIn_r _ [12, 8, 13, 14, 15, 16, 17, 18, 19, 29, 30, 31, 32, 33, 34, 35, 36, 37] (by decide +kernel) (by decide +kernel)
set_option maxRecDepth 20000 in
theorem gX3_meanOpenAngle_X2_openAngle : GoodIn wsX3_meanOpenAngle (wsV RX3 211 RX2 yX2_openAngle wsX2_openAngle) := goodIn_app (goodIn_of _ (by decide +kernel)) ggX3_meanOpenAngle_X2_openAngle
theorem dX3_meanOpenAngle_0 : decode cX3_meanOpenAngle 0 = .ok (.iconst 0, 1) := by decide +kernel
theorem dX3_meanOpenAngle_1 : decode cX3_meanOpenAngle 1 = .ok (.istore_n 2, 1) := by decide +kernel
theorem dX3_meanOpenAngle_2 : decode cX3_meanOpenAngle 2 = .ok (.iconst 0, 1) := by decide +kernel
theorem dX3_meanOpenAngle_3 : decode cX3_meanOpenAngle 3 = .ok (.istore_n 3, 1) := by decide +kernel
theorem dX3_meanOpenAngle_4 : decode cX3_meanOpenAngle 4 = .ok (.iconst 0, 1) := by decide +kernel
theorem dX3_meanOpenAngle_5 : decode cX3_meanOpenAngle 5 = .ok (.istore 4, 2) := by decide +kernel
theorem dX3_meanOpenAngle_7 : decode cX3_meanOpenAngle 7 = .ok (.iload 4, 2) := by decide +kernel
theorem dX3_meanOpenAngle_9 : decode cX3_meanOpenAngle 9 = .ok (.aload_n 0, 1) := by decide +kernel
theorem dX3_meanOpenAngle_10 : decode cX3_meanOpenAngle 10 = .ok (.getfield 53, 3) := by decide +kernel
theorem dX3_meanOpenAngle_13 : decode cX3_meanOpenAngle 13 = .ok (.if_icmp .ge 39, 3) := by decide +kernel
theorem dX3_meanOpenAngle_16 : decode cX3_meanOpenAngle 16 = .ok (.aload_n 0, 1) := by decide +kernel
theorem dX3_meanOpenAngle_17 : decode cX3_meanOpenAngle 17 = .ok (.getfield 18, 3) := by decide +kernel
theorem dX3_meanOpenAngle_20 : decode cX3_meanOpenAngle 20 = .ok (.iload 4, 2) := by decide +kernel
theorem dX3_meanOpenAngle_22 : decode cX3_meanOpenAngle 22 = .ok (.aaload, 1) := by decide +kernel
theorem dX3_meanOpenAngle_23 : decode cX3_meanOpenAngle 23 = .ok (.invokevirtual 125, 3) := by decide +kernel
theorem dX3_meanOpenAngle_26 : decode cX3_meanOpenAngle 26 = .ok (.iload_n 1, 1) := by decide +kernel
theorem dX3_meanOpenAngle_27 : decode cX3_meanOpenAngle 27 = .ok (.if_icmp .ne 19, 3) := by decide +kernel
theorem dX3_meanOpenAngle_30 : decode cX3_meanOpenAngle 30 = .ok (.iload_n 2, 1) := by decide +kernel
theorem dX3_meanOpenAngle_31 : decode cX3_meanOpenAngle 31 = .ok (.aload_n 0, 1) := by decide +kernel
theorem dX3_meanOpenAngle_32 : decode cX3_meanOpenAngle 32 = .ok (.getfield 18, 3) := by decide +kernel
theorem dX3_meanOpenAngle_35 : decode cX3_meanOpenAngle 35 = .ok (.iload 4, 2) := by decide +kernel
theorem dX3_meanOpenAngle_37 : decode cX3_meanOpenAngle 37 = .ok (.aaload, 1) := by decide +kernel
theorem dX3_meanOpenAngle_38 : decode cX3_meanOpenAngle 38 = .ok (.invokevirtual 211, 3) := by decide +kernel
theorem dX3_meanOpenAngle_41 : decode cX3_meanOpenAngle 41 = .ok (.iadd, 1) := by decide +kernel
theorem dX3_meanOpenAngle_42 : decode cX3_meanOpenAngle 42 = .ok (.istore_n 2, 1) := by decide +kernel
theorem dX3_meanOpenAngle_43 : decode cX3_meanOpenAngle 43 = .ok (.iinc 3 1, 3) := by decide +kernel
theorem dX3_meanOpenAngle_46 : decode cX3_meanOpenAngle 46 = .ok (.iinc 4 1, 3) := by decide +kernel
theorem dX3_meanOpenAngle_49 : decode cX3_meanOpenAngle 49 = .ok (.goto (-42), 3) := by decide +kernel
theorem dX3_meanOpenAngle_52 : decode cX3_meanOpenAngle 52 = .ok (.iload_n 3, 1) := by decide +kernel
theorem dX3_meanOpenAngle_53 : decode cX3_meanOpenAngle 53 = .ok (.ifCond .ne 7, 3) := by decide +kernel
theorem dX3_meanOpenAngle_56 : decode cX3_meanOpenAngle 56 = .ok (.iconst (-1), 1) := by decide +kernel
theorem dX3_meanOpenAngle_57 : decode cX3_meanOpenAngle 57 = .ok (.goto 6, 3) := by decide +kernel
theorem dX3_meanOpenAngle_60 : decode cX3_meanOpenAngle 60 = .ok (.iload_n 2, 1) := by decide +kernel
theorem dX3_meanOpenAngle_61 : decode cX3_meanOpenAngle 61 = .ok (.iload_n 3, 1) := by decide +kernel
theorem dX3_meanOpenAngle_62 : decode cX3_meanOpenAngle 62 = .ok (.idiv, 1) := by decide +kernel
theorem dX3_meanOpenAngle_63 : decode cX3_meanOpenAngle 63 = .ok (.ireturn, 1) := by decide +kernel
