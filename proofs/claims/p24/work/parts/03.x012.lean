theorem dX0_init_0 : decode cX0_init 0 = .ok (.aload_n 0, 1) := by decide +kernel
theorem dX0_init_1 : decode cX0_init 1 = .ok (.invokespecial 3, 3) := by decide +kernel
theorem dX0_init_4 : decode cX0_init 4 = .ok (.aload_n 0, 1) := by decide +kernel
theorem dX0_init_5 : decode cX0_init 5 = .ok (.sipush 190, 3) := by decide +kernel
theorem dX0_init_8 : decode cX0_init 8 = .ok (.newarray .int, 2) := by decide +kernel
theorem dX0_init_10 : decode cX0_init 10 = .ok (.putfield 9, 3) := by decide +kernel
theorem dX0_init_13 : decode cX0_init 13 = .ok (.return_, 1) := by decide +kernel
theorem dX0_forget_0 : decode cX0_forget 0 = .ok (.iconst 0, 1) := by decide +kernel
theorem dX0_forget_1 : decode cX0_forget 1 = .ok (.istore_n 1, 1) := by decide +kernel
theorem dX0_forget_2 : decode cX0_forget 2 = .ok (.iload_n 1, 1) := by decide +kernel
theorem dX0_forget_3 : decode cX0_forget 3 = .ok (.aload_n 0, 1) := by decide +kernel
theorem dX0_forget_4 : decode cX0_forget 4 = .ok (.getfield 9, 3) := by decide +kernel
theorem dX0_forget_7 : decode cX0_forget 7 = .ok (.arraylength, 1) := by decide +kernel
theorem dX0_forget_8 : decode cX0_forget 8 = .ok (.if_icmp .ge 16, 3) := by decide +kernel
theorem dX0_forget_11 : decode cX0_forget 11 = .ok (.aload_n 0, 1) := by decide +kernel
theorem dX0_forget_12 : decode cX0_forget 12 = .ok (.getfield 9, 3) := by decide +kernel
theorem dX0_forget_15 : decode cX0_forget 15 = .ok (.iload_n 1, 1) := by decide +kernel
theorem dX0_forget_16 : decode cX0_forget 16 = .ok (.iconst 0, 1) := by decide +kernel
theorem dX0_forget_17 : decode cX0_forget 17 = .ok (.iastore, 1) := by decide +kernel
theorem dX0_forget_18 : decode cX0_forget 18 = .ok (.iinc 1 1, 3) := by decide +kernel
theorem dX0_forget_21 : decode cX0_forget 21 = .ok (.goto (-19), 3) := by decide +kernel
theorem dX0_forget_24 : decode cX0_forget 24 = .ok (.return_, 1) := by decide +kernel
set_option maxRecDepth 20000 in
theorem ggX0_learn_X2_row : GoodIn wsX0_learn wsX2_row := goodIn_r _ [11, 12, 13, 14, 10, 15, 16, 17, 18, 19, 20, 21, 5, 22, 23, 24, 32, 33, 34, 35, 36, 37, 38, 39, 40] (by decide +kernel) (by decide +kernel)
set_option maxRecDepth 20000 in
theorem gX0_learn_X2_row : GoodIn wsX0_learn (wsV RX0 15 RX2 yX2_row wsX2_row) := goodIn_app (goodIn_of _ (by decide +kernel)) ggX0_learn_X2_row
set_option maxRecDepth 20000 in
theorem ggX0_learn_X2_column : GoodIn wsX0_learn wsX2_column := goodIn_r _ [28, 29, 30, 21, 5, 22, 32, 33, 34, 35, 36, 37, 38, 39, 40] (by decide +kernel) (by decide +kernel)
set_option maxRecDepth 20000 in
theorem gX0_learn_X2_column : GoodIn wsX0_learn (wsV RX0 21 RX2 yX2_column wsX2_column) := goodIn_app (goodIn_of _ (by decide +kernel)) ggX0_learn_X2_column
theorem dX0_learn_0 : decode cX0_learn 0 = .ok (.aload_n 1, 1) := by decide +kernel
theorem dX0_learn_1 : decode cX0_learn 1 = .ok (.invokevirtual 15, 3) := by decide +kernel
theorem dX0_learn_4 : decode cX0_learn 4 = .ok (.bipush 10, 2) := by decide +kernel
theorem dX0_learn_6 : decode cX0_learn 6 = .ok (.imul, 1) := by decide +kernel
theorem dX0_learn_7 : decode cX0_learn 7 = .ok (.aload_n 1, 1) := by decide +kernel
theorem dX0_learn_8 : decode cX0_learn 8 = .ok (.invokevirtual 21, 3) := by decide +kernel
theorem dX0_learn_11 : decode cX0_learn 11 = .ok (.iadd, 1) := by decide +kernel
theorem dX0_learn_12 : decode cX0_learn 12 = .ok (.istore_n 2, 1) := by decide +kernel
theorem dX0_learn_13 : decode cX0_learn 13 = .ok (.aload_n 0, 1) := by decide +kernel
theorem dX0_learn_14 : decode cX0_learn 14 = .ok (.getfield 9, 3) := by decide +kernel
theorem dX0_learn_17 : decode cX0_learn 17 = .ok (.iload_n 2, 1) := by decide +kernel
theorem dX0_learn_18 : decode cX0_learn 18 = .ok (.aload_n 0, 1) := by decide +kernel
theorem dX0_learn_19 : decode cX0_learn 19 = .ok (.getfield 9, 3) := by decide +kernel
theorem dX0_learn_22 : decode cX0_learn 22 = .ok (.iload_n 2, 1) := by decide +kernel
theorem dX0_learn_23 : decode cX0_learn 23 = .ok (.iaload, 1) := by decide +kernel
theorem dX0_learn_24 : decode cX0_learn 24 = .ok (.aload_n 1, 1) := by decide +kernel
theorem dX0_learn_25 : decode cX0_learn 25 = .ok (.getfield 24, 3) := by decide +kernel
theorem dX0_learn_28 : decode cX0_learn 28 = .ok (.invokestatic 28, 3) := by decide +kernel
theorem dX0_learn_31 : decode cX0_learn 31 = .ok (.iastore, 1) := by decide +kernel
theorem dX0_learn_32 : decode cX0_learn 32 = .ok (.return_, 1) := by decide +kernel
theorem dX0_kept_0 : decode cX0_kept 0 = .ok (.aload_n 0, 1) := by decide +kernel
theorem dX0_kept_1 : decode cX0_kept 1 = .ok (.getfield 9, 3) := by decide +kernel
theorem dX0_kept_4 : decode cX0_kept 4 = .ok (.iload_n 1, 1) := by decide +kernel
theorem dX0_kept_5 : decode cX0_kept 5 = .ok (.bipush 10, 2) := by decide +kernel
theorem dX0_kept_7 : decode cX0_kept 7 = .ok (.imul, 1) := by decide +kernel
theorem dX0_kept_8 : decode cX0_kept 8 = .ok (.iload_n 2, 1) := by decide +kernel
theorem dX0_kept_9 : decode cX0_kept 9 = .ok (.iadd, 1) := by decide +kernel
theorem dX0_kept_10 : decode cX0_kept 10 = .ok (.iaload, 1) := by decide +kernel
theorem dX0_kept_11 : decode cX0_kept 11 = .ok (.ireturn, 1) := by decide +kernel
theorem dX1_init_0 : decode cX1_init 0 = .ok (.aload_n 0, 1) := by decide +kernel
theorem dX1_init_1 : decode cX1_init 1 = .ok (.invokespecial 3, 3) := by decide +kernel
theorem dX1_init_4 : decode cX1_init 4 = .ok (.aload_n 0, 1) := by decide +kernel
theorem dX1_init_5 : decode cX1_init 5 = .ok (.sipush 450, 3) := by decide +kernel
theorem dX1_init_8 : decode cX1_init 8 = .ok (.newarray .int, 2) := by decide +kernel
theorem dX1_init_10 : decode cX1_init 10 = .ok (.putfield 9, 3) := by decide +kernel
theorem dX1_init_13 : decode cX1_init 13 = .ok (.iconst 0, 1) := by decide +kernel
theorem dX1_init_14 : decode cX1_init 14 = .ok (.istore_n 1, 1) := by decide +kernel
theorem dX1_init_15 : decode cX1_init 15 = .ok (.iload_n 1, 1) := by decide +kernel
theorem dX1_init_16 : decode cX1_init 16 = .ok (.sipush 180, 3) := by decide +kernel
theorem dX1_init_19 : decode cX1_init 19 = .ok (.if_icmp .ge 47, 3) := by decide +kernel
theorem dX1_init_22 : decode cX1_init 22 = .ok (.iload_n 1, 1) := by decide +kernel
theorem dX1_init_23 : decode cX1_init 23 = .ok (.sipush 180, 3) := by decide +kernel
theorem dX1_init_26 : decode cX1_init 26 = .ok (.iload_n 1, 1) := by decide +kernel
theorem dX1_init_27 : decode cX1_init 27 = .ok (.isub, 1) := by decide +kernel
theorem dX1_init_28 : decode cX1_init 28 = .ok (.imul, 1) := by decide +kernel
theorem dX1_init_29 : decode cX1_init 29 = .ok (.istore_n 2, 1) := by decide +kernel
theorem dX1_init_30 : decode cX1_init 30 = .ok (.sipush 4000, 3) := by decide +kernel
theorem dX1_init_33 : decode cX1_init 33 = .ok (.iload_n 2, 1) := by decide +kernel
theorem dX1_init_34 : decode cX1_init 34 = .ok (.imul, 1) := by decide +kernel
theorem dX1_init_35 : decode cX1_init 35 = .ok (.ldc 15, 2) := by decide +kernel
theorem dX1_init_37 : decode cX1_init 37 = .ok (.iload_n 2, 1) := by decide +kernel
theorem dX1_init_38 : decode cX1_init 38 = .ok (.isub, 1) := by decide +kernel
theorem dX1_init_39 : decode cX1_init 39 = .ok (.idiv, 1) := by decide +kernel
theorem dX1_init_40 : decode cX1_init 40 = .ok (.istore_n 3, 1) := by decide +kernel
theorem dX1_init_41 : decode cX1_init 41 = .ok (.aload_n 0, 1) := by decide +kernel
theorem dX1_init_42 : decode cX1_init 42 = .ok (.getfield 9, 3) := by decide +kernel
theorem dX1_init_45 : decode cX1_init 45 = .ok (.iload_n 1, 1) := by decide +kernel
theorem dX1_init_46 : decode cX1_init 46 = .ok (.iload_n 3, 1) := by decide +kernel
theorem dX1_init_47 : decode cX1_init 47 = .ok (.iastore, 1) := by decide +kernel
theorem dX1_init_48 : decode cX1_init 48 = .ok (.aload_n 0, 1) := by decide +kernel
theorem dX1_init_49 : decode cX1_init 49 = .ok (.getfield 9, 3) := by decide +kernel
theorem dX1_init_52 : decode cX1_init 52 = .ok (.iload_n 1, 1) := by decide +kernel
theorem dX1_init_53 : decode cX1_init 53 = .ok (.sipush 180, 3) := by decide +kernel
theorem dX1_init_56 : decode cX1_init 56 = .ok (.iadd, 1) := by decide +kernel
theorem dX1_init_57 : decode cX1_init 57 = .ok (.iload_n 3, 1) := by decide +kernel
theorem dX1_init_58 : decode cX1_init 58 = .ok (.ineg, 1) := by decide +kernel
theorem dX1_init_59 : decode cX1_init 59 = .ok (.iastore, 1) := by decide +kernel
theorem dX1_init_60 : decode cX1_init 60 = .ok (.iinc 1 1, 3) := by decide +kernel
theorem dX1_init_63 : decode cX1_init 63 = .ok (.goto (-48), 3) := by decide +kernel
theorem dX1_init_66 : decode cX1_init 66 = .ok (.iconst 0, 1) := by decide +kernel
theorem dX1_init_67 : decode cX1_init 67 = .ok (.istore_n 1, 1) := by decide +kernel
theorem dX1_init_68 : decode cX1_init 68 = .ok (.iload_n 1, 1) := by decide +kernel
theorem dX1_init_69 : decode cX1_init 69 = .ok (.bipush 90, 2) := by decide +kernel
theorem dX1_init_71 : decode cX1_init 71 = .ok (.if_icmp .ge 25, 3) := by decide +kernel
theorem dX1_init_74 : decode cX1_init 74 = .ok (.aload_n 0, 1) := by decide +kernel
theorem dX1_init_75 : decode cX1_init 75 = .ok (.getfield 9, 3) := by decide +kernel
theorem dX1_init_78 : decode cX1_init 78 = .ok (.iload_n 1, 1) := by decide +kernel
theorem dX1_init_79 : decode cX1_init 79 = .ok (.sipush 360, 3) := by decide +kernel
theorem dX1_init_82 : decode cX1_init 82 = .ok (.iadd, 1) := by decide +kernel
theorem dX1_init_83 : decode cX1_init 83 = .ok (.aload_n 0, 1) := by decide +kernel
theorem dX1_init_84 : decode cX1_init 84 = .ok (.getfield 9, 3) := by decide +kernel
theorem dX1_init_87 : decode cX1_init 87 = .ok (.iload_n 1, 1) := by decide +kernel
theorem dX1_init_88 : decode cX1_init 88 = .ok (.iaload, 1) := by decide +kernel
theorem dX1_init_89 : decode cX1_init 89 = .ok (.iastore, 1) := by decide +kernel
theorem dX1_init_90 : decode cX1_init 90 = .ok (.iinc 1 1, 3) := by decide +kernel
theorem dX1_init_93 : decode cX1_init 93 = .ok (.goto (-25), 3) := by decide +kernel
theorem dX1_init_96 : decode cX1_init 96 = .ok (.return_, 1) := by decide +kernel
set_option maxRecDepth 20000 in
theorem ggX1_sineOf_J9_floorMod_7cf53 : GoodIn wsX1_sineOf wsJ9_floorMod_7cf53 := goodIn_r _ [5] (by decide +kernel) (by decide +kernel)
set_option maxRecDepth 20000 in
theorem gX1_sineOf_J9_floorMod_7cf53 : GoodIn wsX1_sineOf (va_wsS RX1 16 yJ9_floorMod_7cf53 wsJ9_floorMod_7cf53) := goodIn_app (goodIn_of _ (by decide +kernel)) ggX1_sineOf_J9_floorMod_7cf53
theorem dX1_sineOf_0 : decode cX1_sineOf 0 = .ok (.aload_n 0, 1) := by decide +kernel
theorem dX1_sineOf_1 : decode cX1_sineOf 1 = .ok (.getfield 9, 3) := by decide +kernel
theorem dX1_sineOf_4 : decode cX1_sineOf 4 = .ok (.iload_n 1, 1) := by decide +kernel
theorem dX1_sineOf_5 : decode cX1_sineOf 5 = .ok (.sipush 360, 3) := by decide +kernel
theorem dX1_sineOf_8 : decode cX1_sineOf 8 = .ok (.invokestatic 16, 3) := by decide +kernel
theorem dX1_sineOf_11 : decode cX1_sineOf 11 = .ok (.iaload, 1) := by decide +kernel
theorem dX1_sineOf_12 : decode cX1_sineOf 12 = .ok (.ireturn, 1) := by decide +kernel
set_option maxRecDepth 20000 in
theorem ggX1_cosineOf_J9_floorMod_7cf53 : GoodIn wsX1_cosineOf wsJ9_floorMod_7cf53 := goodIn_r _ [5] (by decide +kernel) (by decide +kernel)
set_option maxRecDepth 20000 in
theorem gX1_cosineOf_J9_floorMod_7cf53 : GoodIn wsX1_cosineOf (va_wsS RX1 16 yJ9_floorMod_7cf53 wsJ9_floorMod_7cf53) := goodIn_app (goodIn_of _ (by decide +kernel)) ggX1_cosineOf_J9_floorMod_7cf53
theorem dX1_cosineOf_0 : decode cX1_cosineOf 0 = .ok (.aload_n 0, 1) := by decide +kernel
theorem dX1_cosineOf_1 : decode cX1_cosineOf 1 = .ok (.getfield 9, 3) := by decide +kernel
theorem dX1_cosineOf_4 : decode cX1_cosineOf 4 = .ok (.iload_n 1, 1) := by decide +kernel
theorem dX1_cosineOf_5 : decode cX1_cosineOf 5 = .ok (.sipush 360, 3) := by decide +kernel
theorem dX1_cosineOf_8 : decode cX1_cosineOf 8 = .ok (.invokestatic 16, 3) := by decide +kernel
theorem dX1_cosineOf_11 : decode cX1_cosineOf 11 = .ok (.bipush 90, 2) := by decide +kernel
theorem dX1_cosineOf_13 : decode cX1_cosineOf 13 = .ok (.iadd, 1) := by decide +kernel
theorem dX1_cosineOf_14 : decode cX1_cosineOf 14 = .ok (.iaload, 1) := by decide +kernel
theorem dX1_cosineOf_15 : decode cX1_cosineOf 15 = .ok (.ireturn, 1) := by decide +kernel
set_option maxRecDepth 20000 in
theorem ggX1_angleOf_X1_quarterOf : GoodIn wsX1_angleOf wsX1_quarterOf := goodIn_r _ [6] (by decide +kernel) (by decide +kernel)
set_option maxRecDepth 20000 in
theorem gX1_angleOf_X1_quarterOf : GoodIn wsX1_angleOf (va_wsS RX1 22 yX1_quarterOf wsX1_quarterOf) := goodIn_app (goodIn_of _ (by decide +kernel)) ggX1_angleOf_X1_quarterOf
theorem dX1_angleOf_0 : decode cX1_angleOf 0 = .ok (.lload_n 1, 1) := by decide +kernel
theorem dX1_angleOf_1 : decode cX1_angleOf 1 = .ok (.lload_n 3, 1) := by decide +kernel
theorem dX1_angleOf_2 : decode cX1_angleOf 2 = .ok (.invokestatic 22, 3) := by decide +kernel
theorem dX1_angleOf_5 : decode cX1_angleOf 5 = .ok (.bipush 90, 2) := by decide +kernel
theorem dX1_angleOf_7 : decode cX1_angleOf 7 = .ok (.imul, 1) := by decide +kernel
theorem dX1_angleOf_8 : decode cX1_angleOf 8 = .ok (.istore 5, 2) := by decide +kernel
theorem dX1_angleOf_10 : decode cX1_angleOf 10 = .ok (.iconst 0, 1) := by decide +kernel
theorem dX1_angleOf_11 : decode cX1_angleOf 11 = .ok (.istore 6, 2) := by decide +kernel
theorem dX1_angleOf_13 : decode cX1_angleOf 13 = .ok (.ldc2_w 26, 3) := by decide +kernel
theorem dX1_angleOf_16 : decode cX1_angleOf 16 = .ok (.lstore 7, 2) := by decide +kernel
theorem dX1_angleOf_18 : decode cX1_angleOf 18 = .ok (.iconst 0, 1) := by decide +kernel
theorem dX1_angleOf_19 : decode cX1_angleOf 19 = .ok (.istore 9, 2) := by decide +kernel
theorem dX1_angleOf_21 : decode cX1_angleOf 21 = .ok (.iload 9, 2) := by decide +kernel
theorem dX1_angleOf_23 : decode cX1_angleOf 23 = .ok (.bipush 90, 2) := by decide +kernel
theorem dX1_angleOf_25 : decode cX1_angleOf 25 = .ok (.if_icmp .gt 77, 3) := by decide +kernel
theorem dX1_angleOf_28 : decode cX1_angleOf 28 = .ok (.iload 5, 2) := by decide +kernel
theorem dX1_angleOf_30 : decode cX1_angleOf 30 = .ok (.iload 9, 2) := by decide +kernel
theorem dX1_angleOf_32 : decode cX1_angleOf 32 = .ok (.iadd, 1) := by decide +kernel
theorem dX1_angleOf_33 : decode cX1_angleOf 33 = .ok (.sipush 360, 3) := by decide +kernel
theorem dX1_angleOf_36 : decode cX1_angleOf 36 = .ok (.irem, 1) := by decide +kernel
theorem dX1_angleOf_37 : decode cX1_angleOf 37 = .ok (.istore 10, 2) := by decide +kernel
theorem dX1_angleOf_39 : decode cX1_angleOf 39 = .ok (.lload_n 1, 1) := by decide +kernel
theorem dX1_angleOf_40 : decode cX1_angleOf 40 = .ok (.aload_n 0, 1) := by decide +kernel
theorem dX1_angleOf_41 : decode cX1_angleOf 41 = .ok (.getfield 9, 3) := by decide +kernel
theorem dX1_angleOf_44 : decode cX1_angleOf 44 = .ok (.iload 10, 2) := by decide +kernel
theorem dX1_angleOf_46 : decode cX1_angleOf 46 = .ok (.bipush 90, 2) := by decide +kernel
theorem dX1_angleOf_48 : decode cX1_angleOf 48 = .ok (.iadd, 1) := by decide +kernel
theorem dX1_angleOf_49 : decode cX1_angleOf 49 = .ok (.iaload, 1) := by decide +kernel
theorem dX1_angleOf_50 : decode cX1_angleOf 50 = .ok (.i2l, 1) := by decide +kernel
theorem dX1_angleOf_51 : decode cX1_angleOf 51 = .ok (.lmul, 1) := by decide +kernel
theorem dX1_angleOf_52 : decode cX1_angleOf 52 = .ok (.lload_n 3, 1) := by decide +kernel
theorem dX1_angleOf_53 : decode cX1_angleOf 53 = .ok (.aload_n 0, 1) := by decide +kernel
theorem dX1_angleOf_54 : decode cX1_angleOf 54 = .ok (.getfield 9, 3) := by decide +kernel
theorem dX1_angleOf_57 : decode cX1_angleOf 57 = .ok (.iload 10, 2) := by decide +kernel
theorem dX1_angleOf_59 : decode cX1_angleOf 59 = .ok (.iaload, 1) := by decide +kernel
theorem dX1_angleOf_60 : decode cX1_angleOf 60 = .ok (.i2l, 1) := by decide +kernel
theorem dX1_angleOf_61 : decode cX1_angleOf 61 = .ok (.lmul, 1) := by decide +kernel
theorem dX1_angleOf_62 : decode cX1_angleOf 62 = .ok (.ladd, 1) := by decide +kernel
theorem dX1_angleOf_63 : decode cX1_angleOf 63 = .ok (.lstore 11, 2) := by decide +kernel
theorem dX1_angleOf_65 : decode cX1_angleOf 65 = .ok (.lload 11, 2) := by decide +kernel
theorem dX1_angleOf_67 : decode cX1_angleOf 67 = .ok (.lload 7, 2) := by decide +kernel
theorem dX1_angleOf_69 : decode cX1_angleOf 69 = .ok (.lcmp, 1) := by decide +kernel
theorem dX1_angleOf_70 : decode cX1_angleOf 70 = .ok (.ifCond .gt 18, 3) := by decide +kernel
theorem dX1_angleOf_73 : decode cX1_angleOf 73 = .ok (.lload 11, 2) := by decide +kernel
theorem dX1_angleOf_75 : decode cX1_angleOf 75 = .ok (.lload 7, 2) := by decide +kernel
theorem dX1_angleOf_77 : decode cX1_angleOf 77 = .ok (.lcmp, 1) := by decide +kernel
theorem dX1_angleOf_78 : decode cX1_angleOf 78 = .ok (.ifCond .ne 18, 3) := by decide +kernel
theorem dX1_angleOf_81 : decode cX1_angleOf 81 = .ok (.iload 10, 2) := by decide +kernel
theorem dX1_angleOf_83 : decode cX1_angleOf 83 = .ok (.iload 6, 2) := by decide +kernel
theorem dX1_angleOf_85 : decode cX1_angleOf 85 = .ok (.if_icmp .ge 11, 3) := by decide +kernel
theorem dX1_angleOf_88 : decode cX1_angleOf 88 = .ok (.lload 11, 2) := by decide +kernel
theorem dX1_angleOf_90 : decode cX1_angleOf 90 = .ok (.lstore 7, 2) := by decide +kernel
theorem dX1_angleOf_92 : decode cX1_angleOf 92 = .ok (.iload 10, 2) := by decide +kernel
theorem dX1_angleOf_94 : decode cX1_angleOf 94 = .ok (.istore 6, 2) := by decide +kernel
theorem dX1_angleOf_96 : decode cX1_angleOf 96 = .ok (.iinc 9 1, 3) := by decide +kernel
theorem dX1_angleOf_99 : decode cX1_angleOf 99 = .ok (.goto (-78), 3) := by decide +kernel
theorem dX1_angleOf_102 : decode cX1_angleOf 102 = .ok (.iload 6, 2) := by decide +kernel
theorem dX1_angleOf_104 : decode cX1_angleOf 104 = .ok (.ireturn, 1) := by decide +kernel
theorem dX1_quarterOf_0 : decode cX1_quarterOf 0 = .ok (.lload_n 2, 1) := by decide +kernel
theorem dX1_quarterOf_1 : decode cX1_quarterOf 1 = .ok (.lconst 0, 1) := by decide +kernel
theorem dX1_quarterOf_2 : decode cX1_quarterOf 2 = .ok (.lcmp, 1) := by decide +kernel
theorem dX1_quarterOf_3 : decode cX1_quarterOf 3 = .ok (.ifCond .lt 15, 3) := by decide +kernel
theorem dX1_quarterOf_6 : decode cX1_quarterOf 6 = .ok (.lload_n 0, 1) := by decide +kernel
theorem dX1_quarterOf_7 : decode cX1_quarterOf 7 = .ok (.lconst 0, 1) := by decide +kernel
theorem dX1_quarterOf_8 : decode cX1_quarterOf 8 = .ok (.lcmp, 1) := by decide +kernel
theorem dX1_quarterOf_9 : decode cX1_quarterOf 9 = .ok (.ifCond .lt 7, 3) := by decide +kernel
theorem dX1_quarterOf_12 : decode cX1_quarterOf 12 = .ok (.iconst 0, 1) := by decide +kernel
theorem dX1_quarterOf_13 : decode cX1_quarterOf 13 = .ok (.goto 4, 3) := by decide +kernel
theorem dX1_quarterOf_16 : decode cX1_quarterOf 16 = .ok (.iconst 1, 1) := by decide +kernel
theorem dX1_quarterOf_17 : decode cX1_quarterOf 17 = .ok (.ireturn, 1) := by decide +kernel
theorem dX1_quarterOf_18 : decode cX1_quarterOf 18 = .ok (.lload_n 0, 1) := by decide +kernel
theorem dX1_quarterOf_19 : decode cX1_quarterOf 19 = .ok (.lconst 0, 1) := by decide +kernel
theorem dX1_quarterOf_20 : decode cX1_quarterOf 20 = .ok (.lcmp, 1) := by decide +kernel
theorem dX1_quarterOf_21 : decode cX1_quarterOf 21 = .ok (.ifCond .ge 7, 3) := by decide +kernel
theorem dX1_quarterOf_24 : decode cX1_quarterOf 24 = .ok (.iconst 2, 1) := by decide +kernel
theorem dX1_quarterOf_25 : decode cX1_quarterOf 25 = .ok (.goto 4, 3) := by decide +kernel
theorem dX1_quarterOf_28 : decode cX1_quarterOf 28 = .ok (.iconst 3, 1) := by decide +kernel
theorem dX1_quarterOf_29 : decode cX1_quarterOf 29 = .ok (.ireturn, 1) := by decide +kernel
theorem dX2_init_0 : decode cX2_init 0 = .ok (.aload_n 0, 1) := by decide +kernel
theorem dX2_init_1 : decode cX2_init 1 = .ok (.invokespecial 3, 3) := by decide +kernel
theorem dX2_init_4 : decode cX2_init 4 = .ok (.return_, 1) := by decide +kernel
set_option maxRecDepth 20000 in
theorem ggX2_openAngle_X3_openAngleOf : GoodIn wsX2_openAngle wsX3_openAngleOf := goodIn_r _ [4, 5, 6, 7, 8] (by decide +kernel) (by decide +kernel)
set_option maxRecDepth 20000 in
theorem gX2_openAngle_X3_openAngleOf_n15 : GoodIn wsX2_openAngle (wsX3_openAngleOf) := ggX2_openAngle_X3_openAngleOf
theorem dX2_openAngle_0 : decode cX2_openAngle 0 = .ok (.aload_n 0, 1) := by decide +kernel
theorem dX2_openAngle_1 : decode cX2_openAngle 1 = .ok (.getfield 9, 3) := by decide +kernel
theorem dX2_openAngle_4 : decode cX2_openAngle 4 = .ok (.invokestatic 15, 3) := by decide +kernel
theorem dX2_openAngle_7 : decode cX2_openAngle 7 = .ok (.ireturn, 1) := by decide +kernel
theorem dX2_windSide_0 : decode cX2_windSide 0 = .ok (.aload_n 0, 1) := by decide +kernel
theorem dX2_windSide_1 : decode cX2_windSide 1 = .ok (.getfield 9, 3) := by decide +kernel
theorem dX2_windSide_4 : decode cX2_windSide 4 = .ok (.ifCond .eq 13, 3) := by decide +kernel
theorem dX2_windSide_7 : decode cX2_windSide 7 = .ok (.aload_n 0, 1) := by decide +kernel
theorem dX2_windSide_8 : decode cX2_windSide 8 = .ok (.getfield 9, 3) := by decide +kernel
theorem dX2_windSide_11 : decode cX2_windSide 11 = .ok (.sipush 180, 3) := by decide +kernel
theorem dX2_windSide_14 : decode cX2_windSide 14 = .ok (.if_icmp .ne 5, 3) := by decide +kernel
theorem dX2_windSide_17 : decode cX2_windSide 17 = .ok (.iconst 0, 1) := by decide +kernel
theorem dX2_windSide_18 : decode cX2_windSide 18 = .ok (.ireturn, 1) := by decide +kernel
theorem dX2_windSide_19 : decode cX2_windSide 19 = .ok (.aload_n 0, 1) := by decide +kernel
theorem dX2_windSide_20 : decode cX2_windSide 20 = .ok (.getfield 9, 3) := by decide +kernel
theorem dX2_windSide_23 : decode cX2_windSide 23 = .ok (.sipush 180, 3) := by decide +kernel
theorem dX2_windSide_26 : decode cX2_windSide 26 = .ok (.if_icmp .ge 7, 3) := by decide +kernel
theorem dX2_windSide_29 : decode cX2_windSide 29 = .ok (.iconst 1, 1) := by decide +kernel
theorem dX2_windSide_30 : decode cX2_windSide 30 = .ok (.goto 4, 3) := by decide +kernel
theorem dX2_windSide_33 : decode cX2_windSide 33 = .ok (.iconst 2, 1) := by decide +kernel
theorem dX2_windSide_34 : decode cX2_windSide 34 = .ok (.ireturn, 1) := by decide +kernel
set_option maxRecDepth 20000 in
theorem ggX2_row_X2_openAngle : GoodIn wsX2_row wsX2_openAngle := goodIn_r _ [5, 6, 7, 8, 9, 10, 11, 12, 13, 16, 17, 18, 19, 20, 21, 22, 23, 24] (by decide +kernel) (by decide +kernel)
set_option maxRecDepth 20000 in
theorem gX2_row_X2_openAngle : GoodIn wsX2_row (wsV RX2 19 RX2 yX2_openAngle wsX2_openAngle) := goodIn_app (goodIn_of _ (by decide +kernel)) ggX2_row_X2_openAngle
set_option maxRecDepth 20000 in
theorem ggX2_row_X3_rowOf : GoodIn wsX2_row wsX3_rowOf := goodIn_r _ [15] (by decide +kernel) (by decide +kernel)
set_option maxRecDepth 20000 in
theorem gX2_row_X3_rowOf_n23 : GoodIn wsX2_row (wsX3_rowOf) := ggX2_row_X3_rowOf
theorem dX2_row_0 : decode cX2_row 0 = .ok (.aload_n 0, 1) := by decide +kernel
theorem dX2_row_1 : decode cX2_row 1 = .ok (.invokevirtual 19, 3) := by decide +kernel
theorem dX2_row_4 : decode cX2_row 4 = .ok (.invokestatic 23, 3) := by decide +kernel
theorem dX2_row_7 : decode cX2_row 7 = .ok (.ireturn, 1) := by decide +kernel
theorem dX2_column_0 : decode cX2_column 0 = .ok (.aload_n 0, 1) := by decide +kernel
theorem dX2_column_1 : decode cX2_column 1 = .ok (.getfield 26, 3) := by decide +kernel
theorem dX2_column_4 : decode cX2_column 4 = .ok (.bipush 40, 2) := by decide +kernel
theorem dX2_column_6 : decode cX2_column 6 = .ok (.idiv, 1) := by decide +kernel
theorem dX2_column_7 : decode cX2_column 7 = .ok (.bipush 9, 2) := by decide +kernel
theorem dX2_column_9 : decode cX2_column 9 = .ok (.invokestatic 29, 3) := by decide +kernel
theorem dX2_column_12 : decode cX2_column 12 = .ok (.ireturn, 1) := by decide +kernel
theorem dJ9_floorDiv_7cf53_0 : decode cJ9_floorDiv_7cf53 0 = .ok (.iload_n 0, 1) := by decide +kernel
theorem dJ9_floorDiv_7cf53_1 : decode cJ9_floorDiv_7cf53 1 = .ok (.iload_n 1, 1) := by decide +kernel
theorem dJ9_floorDiv_7cf53_2 : decode cJ9_floorDiv_7cf53 2 = .ok (.idiv, 1) := by decide +kernel
theorem dJ9_floorDiv_7cf53_3 : decode cJ9_floorDiv_7cf53 3 = .ok (.istore_n 2, 1) := by decide +kernel
theorem dJ9_floorDiv_7cf53_4 : decode cJ9_floorDiv_7cf53 4 = .ok (.iload_n 0, 1) := by decide +kernel
theorem dJ9_floorDiv_7cf53_5 : decode cJ9_floorDiv_7cf53 5 = .ok (.iload_n 1, 1) := by decide +kernel
theorem dJ9_floorDiv_7cf53_6 : decode cJ9_floorDiv_7cf53 6 = .ok (.ixor, 1) := by decide +kernel
theorem dJ9_floorDiv_7cf53_7 : decode cJ9_floorDiv_7cf53 7 = .ok (.ifCond .ge 14, 3) := by decide +kernel
theorem dJ9_floorDiv_7cf53_10 : decode cJ9_floorDiv_7cf53 10 = .ok (.iload_n 2, 1) := by decide +kernel
theorem dJ9_floorDiv_7cf53_11 : decode cJ9_floorDiv_7cf53 11 = .ok (.iload_n 1, 1) := by decide +kernel
theorem dJ9_floorDiv_7cf53_12 : decode cJ9_floorDiv_7cf53 12 = .ok (.imul, 1) := by decide +kernel
theorem dJ9_floorDiv_7cf53_13 : decode cJ9_floorDiv_7cf53 13 = .ok (.iload_n 0, 1) := by decide +kernel
theorem dJ9_floorDiv_7cf53_14 : decode cJ9_floorDiv_7cf53 14 = .ok (.if_icmp .eq 7, 3) := by decide +kernel
theorem dJ9_floorDiv_7cf53_17 : decode cJ9_floorDiv_7cf53 17 = .ok (.iload_n 2, 1) := by decide +kernel
theorem dJ9_floorDiv_7cf53_18 : decode cJ9_floorDiv_7cf53 18 = .ok (.iconst 1, 1) := by decide +kernel
theorem dJ9_floorDiv_7cf53_19 : decode cJ9_floorDiv_7cf53 19 = .ok (.isub, 1) := by decide +kernel
theorem dJ9_floorDiv_7cf53_20 : decode cJ9_floorDiv_7cf53 20 = .ok (.ireturn, 1) := by decide +kernel
theorem dJ9_floorDiv_7cf53_21 : decode cJ9_floorDiv_7cf53 21 = .ok (.iload_n 2, 1) := by decide +kernel
theorem dJ9_floorDiv_7cf53_22 : decode cJ9_floorDiv_7cf53 22 = .ok (.ireturn, 1) := by decide +kernel
theorem dJ9_floorDiv_f86c9_0 : decode cJ9_floorDiv_f86c9 0 = .ok (.lload_n 0, 1) := by decide +kernel
theorem dJ9_floorDiv_f86c9_1 : decode cJ9_floorDiv_f86c9 1 = .ok (.lload_n 2, 1) := by decide +kernel
theorem dJ9_floorDiv_f86c9_2 : decode cJ9_floorDiv_f86c9 2 = .ok (.ldiv, 1) := by decide +kernel
theorem dJ9_floorDiv_f86c9_3 : decode cJ9_floorDiv_f86c9 3 = .ok (.lstore 4, 2) := by decide +kernel
theorem dJ9_floorDiv_f86c9_5 : decode cJ9_floorDiv_f86c9 5 = .ok (.lload_n 0, 1) := by decide +kernel
theorem dJ9_floorDiv_f86c9_6 : decode cJ9_floorDiv_f86c9 6 = .ok (.lload_n 2, 1) := by decide +kernel
theorem dJ9_floorDiv_f86c9_7 : decode cJ9_floorDiv_f86c9 7 = .ok (.lxor, 1) := by decide +kernel
theorem dJ9_floorDiv_f86c9_8 : decode cJ9_floorDiv_f86c9 8 = .ok (.lconst 0, 1) := by decide +kernel
theorem dJ9_floorDiv_f86c9_9 : decode cJ9_floorDiv_f86c9 9 = .ok (.lcmp, 1) := by decide +kernel
theorem dJ9_floorDiv_f86c9_10 : decode cJ9_floorDiv_f86c9 10 = .ok (.ifCond .ge 17, 3) := by decide +kernel
theorem dJ9_floorDiv_f86c9_13 : decode cJ9_floorDiv_f86c9 13 = .ok (.lload 4, 2) := by decide +kernel
theorem dJ9_floorDiv_f86c9_15 : decode cJ9_floorDiv_f86c9 15 = .ok (.lload_n 2, 1) := by decide +kernel
theorem dJ9_floorDiv_f86c9_16 : decode cJ9_floorDiv_f86c9 16 = .ok (.lmul, 1) := by decide +kernel
theorem dJ9_floorDiv_f86c9_17 : decode cJ9_floorDiv_f86c9 17 = .ok (.lload_n 0, 1) := by decide +kernel
theorem dJ9_floorDiv_f86c9_18 : decode cJ9_floorDiv_f86c9 18 = .ok (.lcmp, 1) := by decide +kernel
theorem dJ9_floorDiv_f86c9_19 : decode cJ9_floorDiv_f86c9 19 = .ok (.ifCond .eq 8, 3) := by decide +kernel
theorem dJ9_floorDiv_f86c9_22 : decode cJ9_floorDiv_f86c9 22 = .ok (.lload 4, 2) := by decide +kernel
theorem dJ9_floorDiv_f86c9_24 : decode cJ9_floorDiv_f86c9 24 = .ok (.lconst 1, 1) := by decide +kernel
theorem dJ9_floorDiv_f86c9_25 : decode cJ9_floorDiv_f86c9 25 = .ok (.lsub, 1) := by decide +kernel
theorem dJ9_floorDiv_f86c9_26 : decode cJ9_floorDiv_f86c9 26 = .ok (.lreturn, 1) := by decide +kernel
theorem dJ9_floorDiv_f86c9_27 : decode cJ9_floorDiv_f86c9 27 = .ok (.lload 4, 2) := by decide +kernel
theorem dJ9_floorDiv_f86c9_29 : decode cJ9_floorDiv_f86c9 29 = .ok (.lreturn, 1) := by decide +kernel
theorem dJ9_floorMod_7cf53_0 : decode cJ9_floorMod_7cf53 0 = .ok (.iload_n 0, 1) := by decide +kernel
theorem dJ9_floorMod_7cf53_1 : decode cJ9_floorMod_7cf53 1 = .ok (.iload_n 1, 1) := by decide +kernel
theorem dJ9_floorMod_7cf53_2 : decode cJ9_floorMod_7cf53 2 = .ok (.irem, 1) := by decide +kernel
theorem dJ9_floorMod_7cf53_3 : decode cJ9_floorMod_7cf53 3 = .ok (.istore_n 2, 1) := by decide +kernel
theorem dJ9_floorMod_7cf53_4 : decode cJ9_floorMod_7cf53 4 = .ok (.iload_n 0, 1) := by decide +kernel
theorem dJ9_floorMod_7cf53_5 : decode cJ9_floorMod_7cf53 5 = .ok (.iload_n 1, 1) := by decide +kernel
theorem dJ9_floorMod_7cf53_6 : decode cJ9_floorMod_7cf53 6 = .ok (.ixor, 1) := by decide +kernel
theorem dJ9_floorMod_7cf53_7 : decode cJ9_floorMod_7cf53 7 = .ok (.ifCond .ge 11, 3) := by decide +kernel
theorem dJ9_floorMod_7cf53_10 : decode cJ9_floorMod_7cf53 10 = .ok (.iload_n 2, 1) := by decide +kernel
theorem dJ9_floorMod_7cf53_11 : decode cJ9_floorMod_7cf53 11 = .ok (.ifCond .eq 7, 3) := by decide +kernel
theorem dJ9_floorMod_7cf53_14 : decode cJ9_floorMod_7cf53 14 = .ok (.iload_n 2, 1) := by decide +kernel
theorem dJ9_floorMod_7cf53_15 : decode cJ9_floorMod_7cf53 15 = .ok (.iload_n 1, 1) := by decide +kernel
theorem dJ9_floorMod_7cf53_16 : decode cJ9_floorMod_7cf53 16 = .ok (.iadd, 1) := by decide +kernel
theorem dJ9_floorMod_7cf53_17 : decode cJ9_floorMod_7cf53 17 = .ok (.ireturn, 1) := by decide +kernel
theorem dJ9_floorMod_7cf53_18 : decode cJ9_floorMod_7cf53 18 = .ok (.iload_n 2, 1) := by decide +kernel
theorem dJ9_floorMod_7cf53_19 : decode cJ9_floorMod_7cf53 19 = .ok (.ireturn, 1) := by decide +kernel
theorem dJ9_max_7cf53_0 : decode cJ9_max_7cf53 0 = .ok (.iload_n 0, 1) := by decide +kernel
theorem dJ9_max_7cf53_1 : decode cJ9_max_7cf53 1 = .ok (.iload_n 1, 1) := by decide +kernel
theorem dJ9_max_7cf53_2 : decode cJ9_max_7cf53 2 = .ok (.if_icmp .lt 7, 3) := by decide +kernel
theorem dJ9_max_7cf53_5 : decode cJ9_max_7cf53 5 = .ok (.iload_n 0, 1) := by decide +kernel
theorem dJ9_max_7cf53_6 : decode cJ9_max_7cf53 6 = .ok (.goto 4, 3) := by decide +kernel
theorem dJ9_max_7cf53_9 : decode cJ9_max_7cf53 9 = .ok (.iload_n 1, 1) := by decide +kernel
theorem dJ9_max_7cf53_10 : decode cJ9_max_7cf53 10 = .ok (.ireturn, 1) := by decide +kernel
theorem dJ9_min_7cf53_0 : decode cJ9_min_7cf53 0 = .ok (.iload_n 0, 1) := by decide +kernel
theorem dJ9_min_7cf53_1 : decode cJ9_min_7cf53 1 = .ok (.iload_n 1, 1) := by decide +kernel
theorem dJ9_min_7cf53_2 : decode cJ9_min_7cf53 2 = .ok (.if_icmp .gt 7, 3) := by decide +kernel
theorem dJ9_min_7cf53_5 : decode cJ9_min_7cf53 5 = .ok (.iload_n 0, 1) := by decide +kernel
theorem dJ9_min_7cf53_6 : decode cJ9_min_7cf53 6 = .ok (.goto 4, 3) := by decide +kernel
theorem dJ9_min_7cf53_9 : decode cJ9_min_7cf53 9 = .ok (.iload_n 1, 1) := by decide +kernel
theorem dJ9_min_7cf53_10 : decode cJ9_min_7cf53 10 = .ok (.ireturn, 1) := by decide +kernel
