set_option maxRecDepth 20000 in
theorem ggX3_init_X1_init : GoodIn wsX3_init wsX1_init := goodIn_r _ [22, 23, 2, 3, 16, 24, 25, 33] (by decide +kernel) (by decide +kernel)
set_option maxRecDepth 20000 in
theorem gX3_init_X1_init : GoodIn wsX3_init (wsX1_init) := ggX3_init_X1_init
set_option maxRecDepth 20000 in
theorem ggX3_init_X2_init : GoodIn wsX3_init wsX2_init := goodIn_r _ [27, 28, 2, 3] (by decide +kernel) (by decide +kernel)
set_option maxRecDepth 20000 in
theorem gX3_init_X2_init_n22 : GoodIn wsX3_init (wsX2_init) := ggX3_init_X2_init
set_option maxRecDepth 20000 in
theorem ggX3_init_X0_init : GoodIn wsX3_init wsX0_init := goodIn_r _ [30, 31, 2, 3, 16, 32, 52] (by decide +kernel) (by decide +kernel)
set_option maxRecDepth 20000 in
theorem gX3_init_X0_init_n25 : GoodIn wsX3_init (wsX0_init) := ggX3_init_X0_init
theorem dX3_init_0 : decode cX3_init 0 = .ok (.aload_n 0, 1) := by decide +kernel
theorem dX3_init_1 : decode cX3_init 1 = .ok (.invokespecial 3, 3) := by decide +kernel
theorem dX3_init_4 : decode cX3_init 4 = .ok (.aload_n 0, 1) := by decide +kernel
theorem dX3_init_5 : decode cX3_init 5 = .ok (.new 9, 3) := by decide +kernel
theorem dX3_init_8 : decode cX3_init 8 = .ok (.dup, 1) := by decide +kernel
theorem dX3_init_9 : decode cX3_init 9 = .ok (.invokespecial 11, 3) := by decide +kernel
theorem dX3_init_12 : decode cX3_init 12 = .ok (.putfield 12, 3) := by decide +kernel
theorem dX3_init_15 : decode cX3_init 15 = .ok (.aload_n 0, 1) := by decide +kernel
theorem dX3_init_16 : decode cX3_init 16 = .ok (.bipush 60, 2) := by decide +kernel
theorem dX3_init_18 : decode cX3_init 18 = .ok (.anewarray 16, 3) := by decide +kernel
theorem dX3_init_21 : decode cX3_init 21 = .ok (.putfield 18, 3) := by decide +kernel
theorem dX3_init_24 : decode cX3_init 24 = .ok (.iconst 0, 1) := by decide +kernel
theorem dX3_init_25 : decode cX3_init 25 = .ok (.istore_n 1, 1) := by decide +kernel
theorem dX3_init_26 : decode cX3_init 26 = .ok (.iload_n 1, 1) := by decide +kernel
theorem dX3_init_27 : decode cX3_init 27 = .ok (.bipush 60, 2) := by decide +kernel
theorem dX3_init_29 : decode cX3_init 29 = .ok (.if_icmp .ge 22, 3) := by decide +kernel
theorem dX3_init_32 : decode cX3_init 32 = .ok (.aload_n 0, 1) := by decide +kernel
theorem dX3_init_33 : decode cX3_init 33 = .ok (.getfield 18, 3) := by decide +kernel
theorem dX3_init_36 : decode cX3_init 36 = .ok (.iload_n 1, 1) := by decide +kernel
theorem dX3_init_37 : decode cX3_init 37 = .ok (.new 16, 3) := by decide +kernel
theorem dX3_init_40 : decode cX3_init 40 = .ok (.dup, 1) := by decide +kernel
theorem dX3_init_41 : decode cX3_init 41 = .ok (.invokespecial 22, 3) := by decide +kernel
theorem dX3_init_44 : decode cX3_init 44 = .ok (.aastore, 1) := by decide +kernel
theorem dX3_init_45 : decode cX3_init 45 = .ok (.iinc 1 1, 3) := by decide +kernel
theorem dX3_init_48 : decode cX3_init 48 = .ok (.goto (-22), 3) := by decide +kernel
theorem dX3_init_51 : decode cX3_init 51 = .ok (.aload_n 0, 1) := by decide +kernel
theorem dX3_init_52 : decode cX3_init 52 = .ok (.new 23, 3) := by decide +kernel
theorem dX3_init_55 : decode cX3_init 55 = .ok (.dup, 1) := by decide +kernel
theorem dX3_init_56 : decode cX3_init 56 = .ok (.invokespecial 25, 3) := by decide +kernel
theorem dX3_init_59 : decode cX3_init 59 = .ok (.putfield 26, 3) := by decide +kernel
theorem dX3_init_62 : decode cX3_init 62 = .ok (.aload_n 0, 1) := by decide +kernel
theorem dX3_init_63 : decode cX3_init 63 = .ok (.bipush 24, 2) := by decide +kernel
theorem dX3_init_65 : decode cX3_init 65 = .ok (.newarray .int, 2) := by decide +kernel
theorem dX3_init_67 : decode cX3_init 67 = .ok (.putfield 30, 3) := by decide +kernel
theorem dX3_init_70 : decode cX3_init 70 = .ok (.aload_n 0, 1) := by decide +kernel
theorem dX3_init_71 : decode cX3_init 71 = .ok (.bipush 24, 2) := by decide +kernel
theorem dX3_init_73 : decode cX3_init 73 = .ok (.newarray .int, 2) := by decide +kernel
theorem dX3_init_75 : decode cX3_init 75 = .ok (.putfield 34, 3) := by decide +kernel
theorem dX3_init_78 : decode cX3_init 78 = .ok (.aload_n 0, 1) := by decide +kernel
theorem dX3_init_79 : decode cX3_init 79 = .ok (.sipush 1000, 3) := by decide +kernel
theorem dX3_init_82 : decode cX3_init 82 = .ok (.putfield 37, 3) := by decide +kernel
theorem dX3_init_85 : decode cX3_init 85 = .ok (.return_, 1) := by decide +kernel
set_option maxRecDepth 20000 in
theorem ggX3_log_X3_isWithin : GoodIn wsX3_log wsX3_isWithin := goodIn_r _ [14] (by decide +kernel) (by decide +kernel)
set_option maxRecDepth 20000 in
theorem gX3_log_X3_isWithin : GoodIn wsX3_log (va_wsS RX3 41 yX3_isWithin wsX3_isWithin) := goodIn_app (goodIn_of _ (by decide +kernel)) ggX3_log_X3_isWithin
set_option maxRecDepth 20000 in
theorem ggX3_log_X3_checkArgument : GoodIn wsX3_log wsX3_checkArgument := goodIn_ca (goodIn_r _ [17, 18, 19] (by decide +kernel) (by decide +kernel)) (goodIn_sub (fun _ h => List.mem_cons_of_mem _ (List.mem_append_right _ h)) (by decide +kernel))
set_option maxRecDepth 20000 in
theorem gX3_log_X3_checkArgument : GoodIn wsX3_log (va_wsS RX3 45 yX3_checkArgument wsX3_checkArgument) := goodIn_app (goodIn_of _ (by decide +kernel)) ggX3_log_X3_checkArgument
set_option maxRecDepth 20000 in
theorem ggX3_log_X3_isDirection : GoodIn wsX3_log wsX3_isDirection := goodIn_r _ [22, 11, 12, 13, 14] (by decide +kernel) (by decide +kernel)
set_option maxRecDepth 20000 in
theorem gX3_log_X3_isDirection : GoodIn wsX3_log (va_wsS RX3 49 yX3_isDirection wsX3_isDirection) := goodIn_app (goodIn_of _ (by decide +kernel)) ggX3_log_X3_isDirection
set_option maxRecDepth 20000 in
theorem ggX3_log_X3_reckon : GoodIn wsX3_log wsX3_reckon := goodIn_r _ [26, 6, 27, 28, 7, 29, 30, 9, 31, 8, 32, 33, 34, 35, 36, 37, 13, 38, 39, 40, 41, 42, 43, 44, 45, 46, 47, 48, 49, 50, 51, 52, 53, 54, 55, 56, 57, 58, 59, 60, 61, 62, 63, 64, 108, 109, 110, 111, 112, 113, 114, 115, 116, 99, 100, 101, 102, 103, 104, 105, 106, 107, 117] (by decide +kernel) (by decide +kernel)
set_option maxRecDepth 20000 in
theorem gX3_log_X3_reckon : GoodIn wsX3_log (wsV RX3 80 RX3 yX3_reckon wsX3_reckon) := goodIn_app (goodIn_of _ (by decide +kernel)) ggX3_log_X3_reckon
set_option maxRecDepth 20000 in
theorem ggX3_log_X0_learn : GoodIn wsX3_log wsX0_learn := goodIn_r _ [69, 70, 71, 72, 73, 74, 75, 76, 77, 78, 79, 80, 81, 82, 83, 84, 85, 86, 13, 87, 88, 89, 90, 91, 92, 93, 94, 95, 96, 97, 98, 118, 108, 109, 110, 111, 112, 113, 114, 115, 116] (by decide +kernel) (by decide +kernel)
set_option maxRecDepth 20000 in
theorem gX3_log_X0_learn : GoodIn wsX3_log (wsV RX3 84 RX0 yX0_learn wsX0_learn) := goodIn_app (goodIn_of _ (by decide +kernel)) ggX3_log_X0_learn
theorem dX3_log_0 : decode cX3_log 0 = .ok (.iload_n 1, 1) := by decide +kernel
theorem dX3_log_1 : decode cX3_log 1 = .ok (.iconst 0, 1) := by decide +kernel
theorem dX3_log_2 : decode cX3_log 2 = .ok (.sipush 1439, 3) := by decide +kernel
theorem dX3_log_5 : decode cX3_log 5 = .ok (.invokestatic 41, 3) := by decide +kernel
theorem dX3_log_8 : decode cX3_log 8 = .ok (.invokestatic 45, 3) := by decide +kernel
theorem dX3_log_11 : decode cX3_log 11 = .ok (.iload_n 2, 1) := by decide +kernel
theorem dX3_log_12 : decode cX3_log 12 = .ok (.iconst 0, 1) := by decide +kernel
theorem dX3_log_13 : decode cX3_log 13 = .ok (.sipush 300, 3) := by decide +kernel
theorem dX3_log_16 : decode cX3_log 16 = .ok (.invokestatic 41, 3) := by decide +kernel
theorem dX3_log_19 : decode cX3_log 19 = .ok (.invokestatic 45, 3) := by decide +kernel
theorem dX3_log_22 : decode cX3_log 22 = .ok (.iload_n 3, 1) := by decide +kernel
theorem dX3_log_23 : decode cX3_log 23 = .ok (.invokestatic 49, 3) := by decide +kernel
theorem dX3_log_26 : decode cX3_log 26 = .ok (.invokestatic 45, 3) := by decide +kernel
theorem dX3_log_29 : decode cX3_log 29 = .ok (.iload 4, 2) := by decide +kernel
theorem dX3_log_31 : decode cX3_log 31 = .ok (.iconst 0, 1) := by decide +kernel
theorem dX3_log_32 : decode cX3_log 32 = .ok (.sipush 600, 3) := by decide +kernel
theorem dX3_log_35 : decode cX3_log 35 = .ok (.invokestatic 41, 3) := by decide +kernel
theorem dX3_log_38 : decode cX3_log 38 = .ok (.invokestatic 45, 3) := by decide +kernel
theorem dX3_log_41 : decode cX3_log 41 = .ok (.iload 5, 2) := by decide +kernel
theorem dX3_log_43 : decode cX3_log 43 = .ok (.invokestatic 49, 3) := by decide +kernel
theorem dX3_log_46 : decode cX3_log 46 = .ok (.invokestatic 45, 3) := by decide +kernel
theorem dX3_log_49 : decode cX3_log 49 = .ok (.aload_n 0, 1) := by decide +kernel
theorem dX3_log_50 : decode cX3_log 50 = .ok (.getfield 53, 3) := by decide +kernel
theorem dX3_log_53 : decode cX3_log 53 = .ok (.bipush 60, 2) := by decide +kernel
theorem dX3_log_55 : decode cX3_log 55 = .ok (.if_icmp .lt 13, 3) := by decide +kernel
theorem dX3_log_58 : decode cX3_log 58 = .ok (.new 56, 3) := by decide +kernel
theorem dX3_log_61 : decode cX3_log 61 = .ok (.dup, 1) := by decide +kernel
theorem dX3_log_62 : decode cX3_log 62 = .ok (.ldc 58, 2) := by decide +kernel
theorem dX3_log_64 : decode cX3_log 64 = .ok (.invokespecial 60, 3) := by decide +kernel
theorem dX3_log_67 : decode cX3_log 67 = .ok (.athrow, 1) := by decide +kernel
theorem dX3_log_68 : decode cX3_log 68 = .ok (.aload_n 0, 1) := by decide +kernel
theorem dX3_log_69 : decode cX3_log 69 = .ok (.getfield 53, 3) := by decide +kernel
theorem dX3_log_72 : decode cX3_log 72 = .ok (.ifCond .le 31, 3) := by decide +kernel
theorem dX3_log_75 : decode cX3_log 75 = .ok (.iload_n 1, 1) := by decide +kernel
theorem dX3_log_76 : decode cX3_log 76 = .ok (.aload_n 0, 1) := by decide +kernel
theorem dX3_log_77 : decode cX3_log 77 = .ok (.getfield 18, 3) := by decide +kernel
theorem dX3_log_80 : decode cX3_log 80 = .ok (.aload_n 0, 1) := by decide +kernel
theorem dX3_log_81 : decode cX3_log 81 = .ok (.getfield 53, 3) := by decide +kernel
theorem dX3_log_84 : decode cX3_log 84 = .ok (.iconst 1, 1) := by decide +kernel
theorem dX3_log_85 : decode cX3_log 85 = .ok (.isub, 1) := by decide +kernel
theorem dX3_log_86 : decode cX3_log 86 = .ok (.aaload, 1) := by decide +kernel
theorem dX3_log_87 : decode cX3_log 87 = .ok (.getfield 63, 3) := by decide +kernel
theorem dX3_log_90 : decode cX3_log 90 = .ok (.if_icmp .gt 13, 3) := by decide +kernel
theorem dX3_log_93 : decode cX3_log 93 = .ok (.new 56, 3) := by decide +kernel
theorem dX3_log_96 : decode cX3_log 96 = .ok (.dup, 1) := by decide +kernel
theorem dX3_log_97 : decode cX3_log 97 = .ok (.ldc 66, 2) := by decide +kernel
theorem dX3_log_99 : decode cX3_log 99 = .ok (.invokespecial 60, 3) := by decide +kernel
theorem dX3_log_102 : decode cX3_log 102 = .ok (.athrow, 1) := by decide +kernel
theorem dX3_log_103 : decode cX3_log 103 = .ok (.aload_n 0, 1) := by decide +kernel
theorem dX3_log_104 : decode cX3_log 104 = .ok (.getfield 18, 3) := by decide +kernel
theorem dX3_log_107 : decode cX3_log 107 = .ok (.aload_n 0, 1) := by decide +kernel
theorem dX3_log_108 : decode cX3_log 108 = .ok (.getfield 53, 3) := by decide +kernel
theorem dX3_log_111 : decode cX3_log 111 = .ok (.aaload, 1) := by decide +kernel
theorem dX3_log_112 : decode cX3_log 112 = .ok (.astore 6, 2) := by decide +kernel
theorem dX3_log_114 : decode cX3_log 114 = .ok (.aload 6, 2) := by decide +kernel
theorem dX3_log_116 : decode cX3_log 116 = .ok (.iload_n 1, 1) := by decide +kernel
theorem dX3_log_117 : decode cX3_log 117 = .ok (.putfield 63, 3) := by decide +kernel
theorem dX3_log_120 : decode cX3_log 120 = .ok (.aload 6, 2) := by decide +kernel
theorem dX3_log_122 : decode cX3_log 122 = .ok (.iload_n 2, 1) := by decide +kernel
theorem dX3_log_123 : decode cX3_log 123 = .ok (.putfield 68, 3) := by decide +kernel
theorem dX3_log_126 : decode cX3_log 126 = .ok (.aload 6, 2) := by decide +kernel
theorem dX3_log_128 : decode cX3_log 128 = .ok (.iload_n 3, 1) := by decide +kernel
theorem dX3_log_129 : decode cX3_log 129 = .ok (.putfield 71, 3) := by decide +kernel
theorem dX3_log_132 : decode cX3_log 132 = .ok (.aload 6, 2) := by decide +kernel
theorem dX3_log_134 : decode cX3_log 134 = .ok (.iload 4, 2) := by decide +kernel
theorem dX3_log_136 : decode cX3_log 136 = .ok (.putfield 74, 3) := by decide +kernel
theorem dX3_log_139 : decode cX3_log 139 = .ok (.aload 6, 2) := by decide +kernel
theorem dX3_log_141 : decode cX3_log 141 = .ok (.iload 5, 2) := by decide +kernel
theorem dX3_log_143 : decode cX3_log 143 = .ok (.putfield 77, 3) := by decide +kernel
theorem dX3_log_146 : decode cX3_log 146 = .ok (.aload_n 0, 1) := by decide +kernel
theorem dX3_log_147 : decode cX3_log 147 = .ok (.aload 6, 2) := by decide +kernel
theorem dX3_log_149 : decode cX3_log 149 = .ok (.invokevirtual 80, 3) := by decide +kernel
theorem dX3_log_152 : decode cX3_log 152 = .ok (.aload_n 0, 1) := by decide +kernel
theorem dX3_log_153 : decode cX3_log 153 = .ok (.getfield 26, 3) := by decide +kernel
theorem dX3_log_156 : decode cX3_log 156 = .ok (.aload 6, 2) := by decide +kernel
theorem dX3_log_158 : decode cX3_log 158 = .ok (.invokevirtual 84, 3) := by decide +kernel
theorem dX3_log_161 : decode cX3_log 161 = .ok (.aload_n 0, 1) := by decide +kernel
theorem dX3_log_162 : decode cX3_log 162 = .ok (.dup, 1) := by decide +kernel
theorem dX3_log_163 : decode cX3_log 163 = .ok (.getfield 53, 3) := by decide +kernel
theorem dX3_log_166 : decode cX3_log 166 = .ok (.iconst 1, 1) := by decide +kernel
theorem dX3_log_167 : decode cX3_log 167 = .ok (.iadd, 1) := by decide +kernel
theorem dX3_log_168 : decode cX3_log 168 = .ok (.putfield 53, 3) := by decide +kernel
theorem dX3_log_171 : decode cX3_log 171 = .ok (.aload_n 0, 1) := by decide +kernel
theorem dX3_log_172 : decode cX3_log 172 = .ok (.getfield 53, 3) := by decide +kernel
theorem dX3_log_175 : decode cX3_log 175 = .ok (.iconst 1, 1) := by decide +kernel
theorem dX3_log_176 : decode cX3_log 176 = .ok (.isub, 1) := by decide +kernel
theorem dX3_log_177 : decode cX3_log 177 = .ok (.ireturn, 1) := by decide +kernel
set_option maxRecDepth 20000 in
theorem ggX3_setFaults_X3_isWithin : GoodIn wsX3_setFaults wsX3_isWithin := goodIn_r _ [7] (by decide +kernel) (by decide +kernel)
set_option maxRecDepth 20000 in
theorem gX3_setFaults_X3_isWithin : GoodIn wsX3_setFaults (va_wsS RX3 41 yX3_isWithin wsX3_isWithin) := goodIn_app (goodIn_of _ (by decide +kernel)) ggX3_setFaults_X3_isWithin
set_option maxRecDepth 20000 in
theorem ggX3_setFaults_X3_checkArgument : GoodIn wsX3_setFaults wsX3_checkArgument := goodIn_ca (goodIn_r _ [10, 11, 12] (by decide +kernel) (by decide +kernel)) (goodIn_sub (fun _ h => List.mem_cons_of_mem _ (List.mem_append_right _ h)) (by decide +kernel))
set_option maxRecDepth 20000 in
theorem gX3_setFaults_X3_checkArgument : GoodIn wsX3_setFaults (va_wsS RX3 45 yX3_checkArgument wsX3_checkArgument) := goodIn_app (goodIn_of _ (by decide +kernel)) ggX3_setFaults_X3_checkArgument
set_option maxRecDepth 20000 in
theorem ggX3_setFaults_X3_reckonAll : GoodIn wsX3_setFaults wsX3_reckonAll := goodIn_r _ [16, 17, 18, 19, 20, 21, 22, 23, 24, 25, 26, 27, 28, 6, 29, 30, 1, 31, 32, 2, 33, 34, 3, 35, 36, 37, 38, 39, 40, 41, 42, 43, 44, 45, 46, 47, 48, 49, 50, 51, 52, 53, 54, 55, 56, 57, 58, 59, 60, 61, 62, 63, 64, 65, 66, 67, 68, 69, 70, 71, 72, 73, 74, 75, 76, 77, 78, 79, 80, 81, 82, 83, 84, 85, 86, 87, 88, 89, 90, 91, 92, 93, 94, 95, 96, 97, 98, 99, 100, 101, 102, 103, 104, 105, 106, 107, 108, 109, 110, 111, 112, 113, 114, 115, 116, 117, 118, 119, 120] (by decide +kernel) (by decide +kernel)
set_option maxRecDepth 20000 in
theorem gX3_setFaults_X3_reckonAll : GoodIn wsX3_setFaults (wsV RX3 93 RX3 yX3_reckonAll wsX3_reckonAll) := goodIn_app (goodIn_of _ (by decide +kernel)) ggX3_setFaults_X3_reckonAll
theorem dX3_setFaults_0 : decode cX3_setFaults 0 = .ok (.iload_n 1, 1) := by decide +kernel
theorem dX3_setFaults_1 : decode cX3_setFaults 1 = .ok (.sipush 500, 3) := by decide +kernel
theorem dX3_setFaults_4 : decode cX3_setFaults 4 = .ok (.sipush 1500, 3) := by decide +kernel
theorem dX3_setFaults_7 : decode cX3_setFaults 7 = .ok (.invokestatic 41, 3) := by decide +kernel
theorem dX3_setFaults_10 : decode cX3_setFaults 10 = .ok (.invokestatic 45, 3) := by decide +kernel
theorem dX3_setFaults_13 : decode cX3_setFaults 13 = .ok (.iload_n 2, 1) := by decide +kernel
theorem dX3_setFaults_14 : decode cX3_setFaults 14 = .ok (.bipush (-20), 2) := by decide +kernel
theorem dX3_setFaults_16 : decode cX3_setFaults 16 = .ok (.bipush 20, 2) := by decide +kernel
theorem dX3_setFaults_18 : decode cX3_setFaults 18 = .ok (.invokestatic 41, 3) := by decide +kernel
theorem dX3_setFaults_21 : decode cX3_setFaults 21 = .ok (.invokestatic 45, 3) := by decide +kernel
theorem dX3_setFaults_24 : decode cX3_setFaults 24 = .ok (.iload_n 3, 1) := by decide +kernel
theorem dX3_setFaults_25 : decode cX3_setFaults 25 = .ok (.bipush (-20), 2) := by decide +kernel
theorem dX3_setFaults_27 : decode cX3_setFaults 27 = .ok (.bipush 20, 2) := by decide +kernel
theorem dX3_setFaults_29 : decode cX3_setFaults 29 = .ok (.invokestatic 41, 3) := by decide +kernel
theorem dX3_setFaults_32 : decode cX3_setFaults 32 = .ok (.invokestatic 45, 3) := by decide +kernel
theorem dX3_setFaults_35 : decode cX3_setFaults 35 = .ok (.aload_n 0, 1) := by decide +kernel
theorem dX3_setFaults_36 : decode cX3_setFaults 36 = .ok (.getfield 37, 3) := by decide +kernel
theorem dX3_setFaults_39 : decode cX3_setFaults 39 = .ok (.istore 4, 2) := by decide +kernel
theorem dX3_setFaults_41 : decode cX3_setFaults 41 = .ok (.aload_n 0, 1) := by decide +kernel
theorem dX3_setFaults_42 : decode cX3_setFaults 42 = .ok (.iload_n 1, 1) := by decide +kernel
theorem dX3_setFaults_43 : decode cX3_setFaults 43 = .ok (.putfield 37, 3) := by decide +kernel
theorem dX3_setFaults_46 : decode cX3_setFaults 46 = .ok (.aload_n 0, 1) := by decide +kernel
theorem dX3_setFaults_47 : decode cX3_setFaults 47 = .ok (.iload_n 2, 1) := by decide +kernel
theorem dX3_setFaults_48 : decode cX3_setFaults 48 = .ok (.putfield 87, 3) := by decide +kernel
theorem dX3_setFaults_51 : decode cX3_setFaults 51 = .ok (.aload_n 0, 1) := by decide +kernel
theorem dX3_setFaults_52 : decode cX3_setFaults 52 = .ok (.iload_n 3, 1) := by decide +kernel
theorem dX3_setFaults_53 : decode cX3_setFaults 53 = .ok (.putfield 90, 3) := by decide +kernel
theorem dX3_setFaults_56 : decode cX3_setFaults 56 = .ok (.aload_n 0, 1) := by decide +kernel
theorem dX3_setFaults_57 : decode cX3_setFaults 57 = .ok (.invokevirtual 93, 3) := by decide +kernel
theorem dX3_setFaults_60 : decode cX3_setFaults 60 = .ok (.iload 4, 2) := by decide +kernel
theorem dX3_setFaults_62 : decode cX3_setFaults 62 = .ok (.ireturn, 1) := by decide +kernel
set_option maxRecDepth 20000 in
theorem ggX3_setTide_X3_isWithin : GoodIn wsX3_setTide wsX3_isWithin := goodIn_r _ [8] (by decide +kernel) (by decide +kernel)
set_option maxRecDepth 20000 in
theorem gX3_setTide_X3_isWithin : GoodIn wsX3_setTide (va_wsS RX3 41 yX3_isWithin wsX3_isWithin) := goodIn_app (goodIn_of _ (by decide +kernel)) ggX3_setTide_X3_isWithin
set_option maxRecDepth 20000 in
theorem ggX3_setTide_X3_isDirection : GoodIn wsX3_setTide wsX3_isDirection := goodIn_r _ [11, 5, 6, 7, 8] (by decide +kernel) (by decide +kernel)
set_option maxRecDepth 20000 in
theorem gX3_setTide_X3_isDirection : GoodIn wsX3_setTide (va_wsS RX3 49 yX3_isDirection wsX3_isDirection) := goodIn_app (goodIn_of _ (by decide +kernel)) ggX3_setTide_X3_isDirection
set_option maxRecDepth 20000 in
theorem ggX3_setTide_X3_checkArgument : GoodIn wsX3_setTide wsX3_checkArgument := goodIn_ca (goodIn_r _ [14, 15, 16] (by decide +kernel) (by decide +kernel)) (goodIn_sub (fun _ h => List.mem_cons_of_mem _ (List.mem_append_right _ h)) (by decide +kernel))
set_option maxRecDepth 20000 in
theorem gX3_setTide_X3_checkArgument : GoodIn wsX3_setTide (va_wsS RX3 45 yX3_checkArgument wsX3_checkArgument) := goodIn_app (goodIn_of _ (by decide +kernel)) ggX3_setTide_X3_checkArgument
theorem dX3_setTide_0 : decode cX3_setTide 0 = .ok (.iload_n 1, 1) := by decide +kernel
theorem dX3_setTide_1 : decode cX3_setTide 1 = .ok (.iconst 0, 1) := by decide +kernel
theorem dX3_setTide_2 : decode cX3_setTide 2 = .ok (.bipush 23, 2) := by decide +kernel
theorem dX3_setTide_4 : decode cX3_setTide 4 = .ok (.invokestatic 41, 3) := by decide +kernel
theorem dX3_setTide_7 : decode cX3_setTide 7 = .ok (.ifCond .ne 13, 3) := by decide +kernel
theorem dX3_setTide_10 : decode cX3_setTide 10 = .ok (.new 96, 3) := by decide +kernel
theorem dX3_setTide_13 : decode cX3_setTide 13 = .ok (.dup, 1) := by decide +kernel
theorem dX3_setTide_14 : decode cX3_setTide 14 = .ok (.ldc 98, 2) := by decide +kernel
theorem dX3_setTide_16 : decode cX3_setTide 16 = .ok (.invokespecial 100, 3) := by decide +kernel
theorem dX3_setTide_19 : decode cX3_setTide 19 = .ok (.athrow, 1) := by decide +kernel
theorem dX3_setTide_20 : decode cX3_setTide 20 = .ok (.iload_n 2, 1) := by decide +kernel
theorem dX3_setTide_21 : decode cX3_setTide 21 = .ok (.invokestatic 49, 3) := by decide +kernel
theorem dX3_setTide_24 : decode cX3_setTide 24 = .ok (.invokestatic 45, 3) := by decide +kernel
theorem dX3_setTide_27 : decode cX3_setTide 27 = .ok (.iload_n 3, 1) := by decide +kernel
theorem dX3_setTide_28 : decode cX3_setTide 28 = .ok (.iconst 0, 1) := by decide +kernel
theorem dX3_setTide_29 : decode cX3_setTide 29 = .ok (.bipush 100, 2) := by decide +kernel
theorem dX3_setTide_31 : decode cX3_setTide 31 = .ok (.invokestatic 41, 3) := by decide +kernel
theorem dX3_setTide_34 : decode cX3_setTide 34 = .ok (.invokestatic 45, 3) := by decide +kernel
theorem dX3_setTide_37 : decode cX3_setTide 37 = .ok (.aload_n 0, 1) := by decide +kernel
theorem dX3_setTide_38 : decode cX3_setTide 38 = .ok (.getfield 34, 3) := by decide +kernel
theorem dX3_setTide_41 : decode cX3_setTide 41 = .ok (.iload_n 1, 1) := by decide +kernel
theorem dX3_setTide_42 : decode cX3_setTide 42 = .ok (.iaload, 1) := by decide +kernel
theorem dX3_setTide_43 : decode cX3_setTide 43 = .ok (.istore 4, 2) := by decide +kernel
theorem dX3_setTide_45 : decode cX3_setTide 45 = .ok (.aload_n 0, 1) := by decide +kernel
theorem dX3_setTide_46 : decode cX3_setTide 46 = .ok (.getfield 30, 3) := by decide +kernel
theorem dX3_setTide_49 : decode cX3_setTide 49 = .ok (.iload_n 1, 1) := by decide +kernel
theorem dX3_setTide_50 : decode cX3_setTide 50 = .ok (.iload_n 2, 1) := by decide +kernel
theorem dX3_setTide_51 : decode cX3_setTide 51 = .ok (.iastore, 1) := by decide +kernel
theorem dX3_setTide_52 : decode cX3_setTide 52 = .ok (.aload_n 0, 1) := by decide +kernel
theorem dX3_setTide_53 : decode cX3_setTide 53 = .ok (.getfield 34, 3) := by decide +kernel
theorem dX3_setTide_56 : decode cX3_setTide 56 = .ok (.iload_n 1, 1) := by decide +kernel
theorem dX3_setTide_57 : decode cX3_setTide 57 = .ok (.iload_n 3, 1) := by decide +kernel
theorem dX3_setTide_58 : decode cX3_setTide 58 = .ok (.iastore, 1) := by decide +kernel
theorem dX3_setTide_59 : decode cX3_setTide 59 = .ok (.iload 4, 2) := by decide +kernel
theorem dX3_setTide_61 : decode cX3_setTide 61 = .ok (.ireturn, 1) := by decide +kernel
theorem dX3_entries_0 : decode cX3_entries 0 = .ok (.aload_n 0, 1) := by decide +kernel
theorem dX3_entries_1 : decode cX3_entries 1 = .ok (.getfield 53, 3) := by decide +kernel
theorem dX3_entries_4 : decode cX3_entries 4 = .ok (.ireturn, 1) := by decide +kernel
set_option maxRecDepth 20000 in
theorem ggX3_sine_X1_sineOf : GoodIn wsX3_sine wsX1_sineOf := goodIn_r _ [6, 7, 8, 9, 10, 11, 21] (by decide +kernel) (by decide +kernel)
set_option maxRecDepth 20000 in
theorem gX3_sine_X1_sineOf : GoodIn wsX3_sine (wsV RX3 101 RX1 yX1_sineOf wsX1_sineOf) := goodIn_app (goodIn_of _ (by decide +kernel)) ggX3_sine_X1_sineOf
theorem dX3_sine_0 : decode cX3_sine 0 = .ok (.aload_n 0, 1) := by decide +kernel
theorem dX3_sine_1 : decode cX3_sine 1 = .ok (.getfield 12, 3) := by decide +kernel
theorem dX3_sine_4 : decode cX3_sine 4 = .ok (.iload_n 1, 1) := by decide +kernel
theorem dX3_sine_5 : decode cX3_sine 5 = .ok (.invokevirtual 101, 3) := by decide +kernel
theorem dX3_sine_8 : decode cX3_sine 8 = .ok (.ireturn, 1) := by decide +kernel
set_option maxRecDepth 20000 in
theorem ggX3_speed_X3_checkEntry : GoodIn wsX3_speed wsX3_checkEntry := goodIn_ca (goodIn_r _ [7, 8, 9, 10, 11, 12, 6, 13, 14, 15, 16, 17, 18, 19, 20, 21, 22] (by decide +kernel) (by decide +kernel)) (goodIn_sub (fun _ h => List.mem_cons_of_mem _ (List.mem_append_right _ h)) (by decide +kernel))
set_option maxRecDepth 20000 in
theorem gX3_speed_X3_checkEntry : GoodIn wsX3_speed (wsV RX3 105 RX3 yX3_checkEntry wsX3_checkEntry) := goodIn_app (goodIn_of _ (by decide +kernel)) ggX3_speed_X3_checkEntry
theorem dX3_speed_0 : decode cX3_speed 0 = .ok (.aload_n 0, 1) := by decide +kernel
theorem dX3_speed_1 : decode cX3_speed 1 = .ok (.iload_n 1, 1) := by decide +kernel
theorem dX3_speed_2 : decode cX3_speed 2 = .ok (.invokevirtual 105, 3) := by decide +kernel
theorem dX3_speed_5 : decode cX3_speed 5 = .ok (.aload_n 0, 1) := by decide +kernel
theorem dX3_speed_6 : decode cX3_speed 6 = .ok (.getfield 18, 3) := by decide +kernel
theorem dX3_speed_9 : decode cX3_speed 9 = .ok (.iload_n 1, 1) := by decide +kernel
theorem dX3_speed_10 : decode cX3_speed 10 = .ok (.aaload, 1) := by decide +kernel
theorem dX3_speed_11 : decode cX3_speed 11 = .ok (.getfield 109, 3) := by decide +kernel
theorem dX3_speed_14 : decode cX3_speed 14 = .ok (.ireturn, 1) := by decide +kernel
set_option maxRecDepth 20000 in
theorem ggX3_strength_X3_checkEntry : GoodIn wsX3_strength wsX3_checkEntry := goodIn_ca (goodIn_r _ [7, 8, 9, 10, 11, 12, 6, 13, 14, 15, 16, 17, 18, 19, 20, 21, 22] (by decide +kernel) (by decide +kernel)) (goodIn_sub (fun _ h => List.mem_cons_of_mem _ (List.mem_append_right _ h)) (by decide +kernel))
set_option maxRecDepth 20000 in
theorem gX3_strength_X3_checkEntry : GoodIn wsX3_strength (wsV RX3 105 RX3 yX3_checkEntry wsX3_checkEntry) := goodIn_app (goodIn_of _ (by decide +kernel)) ggX3_strength_X3_checkEntry
theorem dX3_strength_0 : decode cX3_strength 0 = .ok (.aload_n 0, 1) := by decide +kernel
theorem dX3_strength_1 : decode cX3_strength 1 = .ok (.iload_n 1, 1) := by decide +kernel
theorem dX3_strength_2 : decode cX3_strength 2 = .ok (.invokevirtual 105, 3) := by decide +kernel
theorem dX3_strength_5 : decode cX3_strength 5 = .ok (.aload_n 0, 1) := by decide +kernel
theorem dX3_strength_6 : decode cX3_strength 6 = .ok (.getfield 18, 3) := by decide +kernel
theorem dX3_strength_9 : decode cX3_strength 9 = .ok (.iload_n 1, 1) := by decide +kernel
theorem dX3_strength_10 : decode cX3_strength 10 = .ok (.aaload, 1) := by decide +kernel
theorem dX3_strength_11 : decode cX3_strength 11 = .ok (.getfield 112, 3) := by decide +kernel
theorem dX3_strength_14 : decode cX3_strength 14 = .ok (.ireturn, 1) := by decide +kernel
set_option maxRecDepth 20000 in
theorem ggX3_angle_X3_checkEntry : GoodIn wsX3_angle wsX3_checkEntry := goodIn_ca (goodIn_r _ [7, 8, 9, 10, 11, 12, 6, 13, 14, 15, 16, 17, 18, 19, 20, 21, 22] (by decide +kernel) (by decide +kernel)) (goodIn_sub (fun _ h => List.mem_cons_of_mem _ (List.mem_append_right _ h)) (by decide +kernel))
set_option maxRecDepth 20000 in
theorem gX3_angle_X3_checkEntry : GoodIn wsX3_angle (wsV RX3 105 RX3 yX3_checkEntry wsX3_checkEntry) := goodIn_app (goodIn_of _ (by decide +kernel)) ggX3_angle_X3_checkEntry
theorem dX3_angle_0 : decode cX3_angle 0 = .ok (.aload_n 0, 1) := by decide +kernel
theorem dX3_angle_1 : decode cX3_angle 1 = .ok (.iload_n 1, 1) := by decide +kernel
theorem dX3_angle_2 : decode cX3_angle 2 = .ok (.invokevirtual 105, 3) := by decide +kernel
theorem dX3_angle_5 : decode cX3_angle 5 = .ok (.aload_n 0, 1) := by decide +kernel
theorem dX3_angle_6 : decode cX3_angle 6 = .ok (.getfield 18, 3) := by decide +kernel
theorem dX3_angle_9 : decode cX3_angle 9 = .ok (.iload_n 1, 1) := by decide +kernel
theorem dX3_angle_10 : decode cX3_angle 10 = .ok (.aaload, 1) := by decide +kernel
theorem dX3_angle_11 : decode cX3_angle 11 = .ok (.getfield 115, 3) := by decide +kernel
theorem dX3_angle_14 : decode cX3_angle 14 = .ok (.ireturn, 1) := by decide +kernel
set_option maxRecDepth 20000 in
theorem ggX3_from_X3_checkEntry : GoodIn wsX3_from wsX3_checkEntry := goodIn_ca (goodIn_r _ [8, 9, 10, 11, 12, 13, 7, 14, 22, 23, 24, 25, 26, 27, 28, 29, 30] (by decide +kernel) (by decide +kernel)) (goodIn_sub (fun _ h => List.mem_cons_of_mem _ (List.mem_append_right _ h)) (by decide +kernel))
set_option maxRecDepth 20000 in
theorem gX3_from_X3_checkEntry : GoodIn wsX3_from (wsV RX3 105 RX3 yX3_checkEntry wsX3_checkEntry) := goodIn_app (goodIn_of _ (by decide +kernel)) ggX3_from_X3_checkEntry
set_option maxRecDepth 20000 in
theorem ggX3_from_X3_turned : GoodIn wsX3_from wsX3_turned := goodIn_r _ [17, 18, 19, 20, 21] (by decide +kernel) (by decide +kernel)
set_option maxRecDepth 20000 in
theorem gX3_from_X3_turned : GoodIn wsX3_from (va_wsS RX3 121 yX3_turned wsX3_turned) := goodIn_app (goodIn_of _ (by decide +kernel)) ggX3_from_X3_turned
theorem dX3_from_0 : decode cX3_from 0 = .ok (.aload_n 0, 1) := by decide +kernel
theorem dX3_from_1 : decode cX3_from 1 = .ok (.iload_n 1, 1) := by decide +kernel
theorem dX3_from_2 : decode cX3_from 2 = .ok (.invokevirtual 105, 3) := by decide +kernel
theorem dX3_from_5 : decode cX3_from 5 = .ok (.aload_n 0, 1) := by decide +kernel
theorem dX3_from_6 : decode cX3_from 6 = .ok (.getfield 18, 3) := by decide +kernel
theorem dX3_from_9 : decode cX3_from 9 = .ok (.iload_n 1, 1) := by decide +kernel
theorem dX3_from_10 : decode cX3_from 10 = .ok (.aaload, 1) := by decide +kernel
theorem dX3_from_11 : decode cX3_from 11 = .ok (.getfield 118, 3) := by decide +kernel
theorem dX3_from_14 : decode cX3_from 14 = .ok (.aload_n 0, 1) := by decide +kernel
theorem dX3_from_15 : decode cX3_from 15 = .ok (.getfield 18, 3) := by decide +kernel
theorem dX3_from_18 : decode cX3_from 18 = .ok (.iload_n 1, 1) := by decide +kernel
theorem dX3_from_19 : decode cX3_from 19 = .ok (.aaload, 1) := by decide +kernel
theorem dX3_from_20 : decode cX3_from 20 = .ok (.getfield 115, 3) := by decide +kernel
theorem dX3_from_23 : decode cX3_from 23 = .ok (.invokestatic 121, 3) := by decide +kernel
theorem dX3_from_26 : decode cX3_from 26 = .ok (.ireturn, 1) := by decide +kernel
set_option maxRecDepth 20000 in
theorem ggX3_side_X3_checkEntry : GoodIn wsX3_side wsX3_checkEntry := goodIn_ca (goodIn_r _ [6, 7, 8, 9, 10, 11, 5, 12, 19, 20, 21, 22, 23, 24, 25, 26, 27] (by decide +kernel) (by decide +kernel)) (goodIn_sub (fun _ h => List.mem_cons_of_mem _ (List.mem_append_right _ h)) (by decide +kernel))
set_option maxRecDepth 20000 in
theorem gX3_side_X3_checkEntry : GoodIn wsX3_side (wsV RX3 105 RX3 yX3_checkEntry wsX3_checkEntry) := goodIn_app (goodIn_of _ (by decide +kernel)) ggX3_side_X3_checkEntry
set_option maxRecDepth 20000 in
theorem ggX3_side_X2_windSide : GoodIn wsX3_side wsX2_windSide := goodIn_r _ [17, 18, 28, 29, 30, 31, 32, 33, 34, 35, 36] (by decide +kernel) (by decide +kernel)
set_option maxRecDepth 20000 in
theorem gX3_side_X2_windSide : GoodIn wsX3_side (wsV RX3 125 RX2 yX2_windSide wsX2_windSide) := goodIn_app (goodIn_of _ (by decide +kernel)) ggX3_side_X2_windSide
theorem dX3_side_0 : decode cX3_side 0 = .ok (.aload_n 0, 1) := by decide +kernel
theorem dX3_side_1 : decode cX3_side 1 = .ok (.iload_n 1, 1) := by decide +kernel
theorem dX3_side_2 : decode cX3_side 2 = .ok (.invokevirtual 105, 3) := by decide +kernel
theorem dX3_side_5 : decode cX3_side 5 = .ok (.aload_n 0, 1) := by decide +kernel
theorem dX3_side_6 : decode cX3_side 6 = .ok (.getfield 18, 3) := by decide +kernel
theorem dX3_side_9 : decode cX3_side 9 = .ok (.iload_n 1, 1) := by decide +kernel
theorem dX3_side_10 : decode cX3_side 10 = .ok (.aaload, 1) := by decide +kernel
theorem dX3_side_11 : decode cX3_side 11 = .ok (.invokevirtual 125, 3) := by decide +kernel
theorem dX3_side_14 : decode cX3_side 14 = .ok (.ireturn, 1) := by decide +kernel
set_option maxRecDepth 20000 in
theorem ggX3_best_X3_checkField : GoodIn wsX3_best wsX3_checkField := goodIn_ca (goodIn_r _ [5, 6, 7, 8, 9, 4, 10, 11, 12, 13] (by decide +kernel) (by decide +kernel)) (goodIn_sub (fun _ h => List.mem_cons_of_mem _ (List.mem_append_right _ h)) (by decide +kernel))
set_option maxRecDepth 20000 in
theorem gX3_best_X3_checkField : GoodIn wsX3_best (va_wsS RX3 129 yX3_checkField wsX3_checkField) := goodIn_app (goodIn_of _ (by decide +kernel)) ggX3_best_X3_checkField
set_option maxRecDepth 20000 in
theorem ggX3_best_X0_kept : GoodIn wsX3_best wsX0_kept := goodIn_r _ [18, 19, 29] (by decide +kernel) (by decide +kernel)
set_option maxRecDepth 20000 in
theorem gX3_best_X0_kept : GoodIn wsX3_best (wsV RX3 133 RX0 yX0_kept wsX0_kept) := goodIn_app (goodIn_of _ (by decide +kernel)) ggX3_best_X0_kept
theorem dX3_best_0 : decode cX3_best 0 = .ok (.iload_n 1, 1) := by decide +kernel
theorem dX3_best_1 : decode cX3_best 1 = .ok (.iload_n 2, 1) := by decide +kernel
theorem dX3_best_2 : decode cX3_best 2 = .ok (.invokestatic 129, 3) := by decide +kernel
theorem dX3_best_5 : decode cX3_best 5 = .ok (.aload_n 0, 1) := by decide +kernel
theorem dX3_best_6 : decode cX3_best 6 = .ok (.getfield 26, 3) := by decide +kernel
theorem dX3_best_9 : decode cX3_best 9 = .ok (.iload_n 1, 1) := by decide +kernel
theorem dX3_best_10 : decode cX3_best 10 = .ok (.iload_n 2, 1) := by decide +kernel
theorem dX3_best_11 : decode cX3_best 11 = .ok (.invokevirtual 133, 3) := by decide +kernel
theorem dX3_best_14 : decode cX3_best 14 = .ok (.ireturn, 1) := by decide +kernel
set_option maxRecDepth 20000 in
theorem ggX3_bestByLog_X3_checkField : GoodIn wsX3_bestByLog wsX3_checkField := goodIn_ca (goodIn_r _ [11, 12, 13, 14, 15, 10, 16, 17, 18, 19] (by decide +kernel) (by decide +kernel)) (goodIn_sub (fun _ h => List.mem_cons_of_mem _ (List.mem_append_right _ h)) (by decide +kernel))
set_option maxRecDepth 20000 in
theorem gX3_bestByLog_X3_checkField : GoodIn wsX3_bestByLog (va_wsS RX3 129 yX3_checkField wsX3_checkField) := goodIn_app (goodIn_of _ (by decide +kernel)) ggX3_bestByLog_X3_checkField
set_option maxRecDepth 20000 in
theorem ggX3_bestByLog_X2_row : GoodIn wsX3_bestByLog wsX2_row := goodIn_r _ [24, 25, 26, 27, 23, 28, 29, 30, 10, 31, 32, 33, 6, 34, 35, 36, 52, 53, 54, 55, 56, 57, 58, 59, 60] (by decide +kernel) (by decide +kernel)
set_option maxRecDepth 20000 in
theorem gX3_bestByLog_X2_row : GoodIn wsX3_bestByLog (wsV RX3 136 RX2 yX2_row wsX2_row) := goodIn_app (goodIn_of _ (by decide +kernel)) ggX3_bestByLog_X2_row
set_option maxRecDepth 20000 in
theorem ggX3_bestByLog_X2_column : GoodIn wsX3_bestByLog wsX2_column := goodIn_r _ [40, 41, 42, 33, 6, 34, 52, 53, 54, 55, 56, 57, 58, 59, 60] (by decide +kernel) (by decide +kernel)
set_option maxRecDepth 20000 in
theorem gX3_bestByLog_X2_column : GoodIn wsX3_bestByLog (wsV RX3 139 RX2 yX2_column wsX2_column) := goodIn_app (goodIn_of _ (by decide +kernel)) ggX3_bestByLog_X2_column
theorem dX3_bestByLog_0 : decode cX3_bestByLog 0 = .ok (.iload_n 1, 1) := by decide +kernel
theorem dX3_bestByLog_1 : decode cX3_bestByLog 1 = .ok (.iload_n 2, 1) := by decide +kernel
theorem dX3_bestByLog_2 : decode cX3_bestByLog 2 = .ok (.invokestatic 129, 3) := by decide +kernel
theorem dX3_bestByLog_5 : decode cX3_bestByLog 5 = .ok (.iconst 0, 1) := by decide +kernel
theorem dX3_bestByLog_6 : decode cX3_bestByLog 6 = .ok (.istore_n 3, 1) := by decide +kernel
theorem dX3_bestByLog_7 : decode cX3_bestByLog 7 = .ok (.iconst 0, 1) := by decide +kernel
theorem dX3_bestByLog_8 : decode cX3_bestByLog 8 = .ok (.istore 4, 2) := by decide +kernel
theorem dX3_bestByLog_10 : decode cX3_bestByLog 10 = .ok (.iload 4, 2) := by decide +kernel
theorem dX3_bestByLog_12 : decode cX3_bestByLog 12 = .ok (.aload_n 0, 1) := by decide +kernel
theorem dX3_bestByLog_13 : decode cX3_bestByLog 13 = .ok (.getfield 53, 3) := by decide +kernel
theorem dX3_bestByLog_16 : decode cX3_bestByLog 16 = .ok (.if_icmp .ge 46, 3) := by decide +kernel
theorem dX3_bestByLog_19 : decode cX3_bestByLog 19 = .ok (.aload_n 0, 1) := by decide +kernel
theorem dX3_bestByLog_20 : decode cX3_bestByLog 20 = .ok (.getfield 18, 3) := by decide +kernel
theorem dX3_bestByLog_23 : decode cX3_bestByLog 23 = .ok (.iload 4, 2) := by decide +kernel
theorem dX3_bestByLog_25 : decode cX3_bestByLog 25 = .ok (.aaload, 1) := by decide +kernel
theorem dX3_bestByLog_26 : decode cX3_bestByLog 26 = .ok (.astore 5, 2) := by decide +kernel
theorem dX3_bestByLog_28 : decode cX3_bestByLog 28 = .ok (.aload 5, 2) := by decide +kernel
theorem dX3_bestByLog_30 : decode cX3_bestByLog 30 = .ok (.invokevirtual 136, 3) := by decide +kernel
theorem dX3_bestByLog_33 : decode cX3_bestByLog 33 = .ok (.iload_n 1, 1) := by decide +kernel
theorem dX3_bestByLog_34 : decode cX3_bestByLog 34 = .ok (.if_icmp .ne 22, 3) := by decide +kernel
theorem dX3_bestByLog_37 : decode cX3_bestByLog 37 = .ok (.aload 5, 2) := by decide +kernel
theorem dX3_bestByLog_39 : decode cX3_bestByLog 39 = .ok (.invokevirtual 139, 3) := by decide +kernel
theorem dX3_bestByLog_42 : decode cX3_bestByLog 42 = .ok (.iload_n 2, 1) := by decide +kernel
theorem dX3_bestByLog_43 : decode cX3_bestByLog 43 = .ok (.if_icmp .ne 13, 3) := by decide +kernel
theorem dX3_bestByLog_46 : decode cX3_bestByLog 46 = .ok (.iload_n 3, 1) := by decide +kernel
theorem dX3_bestByLog_47 : decode cX3_bestByLog 47 = .ok (.aload 5, 2) := by decide +kernel
theorem dX3_bestByLog_49 : decode cX3_bestByLog 49 = .ok (.getfield 109, 3) := by decide +kernel
theorem dX3_bestByLog_52 : decode cX3_bestByLog 52 = .ok (.invokestatic 142, 3) := by decide +kernel
theorem dX3_bestByLog_55 : decode cX3_bestByLog 55 = .ok (.istore_n 3, 1) := by decide +kernel
theorem dX3_bestByLog_56 : decode cX3_bestByLog 56 = .ok (.iinc 4 1, 3) := by decide +kernel
theorem dX3_bestByLog_59 : decode cX3_bestByLog 59 = .ok (.goto (-49), 3) := by decide +kernel
theorem dX3_bestByLog_62 : decode cX3_bestByLog 62 = .ok (.iload_n 3, 1) := by decide +kernel
theorem dX3_bestByLog_63 : decode cX3_bestByLog 63 = .ok (.ireturn, 1) := by decide +kernel
set_option maxRecDepth 20000 in
theorem ggX3_bestUp_X3_checkColumn : GoodIn wsX3_bestUp wsX3_checkColumn := goodIn_ca (goodIn_r _ [4, 5, 6, 7, 8, 3, 9] (by decide +kernel) (by decide +kernel)) (goodIn_sub (fun _ h => List.mem_cons_of_mem _ (List.mem_append_right _ h)) (by decide +kernel))
set_option maxRecDepth 20000 in
theorem gX3_bestUp_X3_checkColumn : GoodIn wsX3_bestUp (va_wsS RX3 147 yX3_checkColumn wsX3_checkColumn) := goodIn_app (goodIn_of _ (by decide +kernel)) ggX3_bestUp_X3_checkColumn
set_option maxRecDepth 20000 in
theorem ggX3_bestUp_X3_bestRow : GoodIn wsX3_bestUp wsX3_bestRow := goodIn_r _ [13, 14, 15, 16, 17, 18, 19, 20, 21, 22, 23, 3, 24, 25, 26, 27, 28, 29, 30, 31, 32, 33, 34, 35, 36, 37, 38, 39, 40, 41, 42, 43, 44, 45, 46, 47, 48, 49] (by decide +kernel) (by decide +kernel)
set_option maxRecDepth 20000 in
theorem gX3_bestUp_X3_bestRow : GoodIn wsX3_bestUp (wsV RX3 150 RX3 yX3_bestRow wsX3_bestRow) := goodIn_app (goodIn_of _ (by decide +kernel)) ggX3_bestUp_X3_bestRow
theorem dX3_bestUp_0 : decode cX3_bestUp 0 = .ok (.iload_n 1, 1) := by decide +kernel
theorem dX3_bestUp_1 : decode cX3_bestUp 1 = .ok (.invokestatic 147, 3) := by decide +kernel
theorem dX3_bestUp_4 : decode cX3_bestUp 4 = .ok (.aload_n 0, 1) := by decide +kernel
theorem dX3_bestUp_5 : decode cX3_bestUp 5 = .ok (.iload_n 1, 1) := by decide +kernel
theorem dX3_bestUp_6 : decode cX3_bestUp 6 = .ok (.iconst 0, 1) := by decide +kernel
theorem dX3_bestUp_7 : decode cX3_bestUp 7 = .ok (.bipush 8, 2) := by decide +kernel
theorem dX3_bestUp_9 : decode cX3_bestUp 9 = .ok (.iconst 1, 1) := by decide +kernel
theorem dX3_bestUp_10 : decode cX3_bestUp 10 = .ok (.invokevirtual 150, 3) := by decide +kernel
theorem dX3_bestUp_13 : decode cX3_bestUp 13 = .ok (.ireturn, 1) := by decide +kernel
set_option maxRecDepth 20000 in
theorem ggX3_bestDown_X3_checkColumn : GoodIn wsX3_bestDown wsX3_checkColumn := goodIn_ca (goodIn_r _ [4, 5, 6, 7, 8, 3, 9] (by decide +kernel) (by decide +kernel)) (goodIn_sub (fun _ h => List.mem_cons_of_mem _ (List.mem_append_right _ h)) (by decide +kernel))
set_option maxRecDepth 20000 in
theorem gX3_bestDown_X3_checkColumn : GoodIn wsX3_bestDown (va_wsS RX3 147 yX3_checkColumn wsX3_checkColumn) := goodIn_app (goodIn_of _ (by decide +kernel)) ggX3_bestDown_X3_checkColumn
set_option maxRecDepth 20000 in
theorem ggX3_bestDown_X3_bestRow : GoodIn wsX3_bestDown wsX3_bestRow := goodIn_r _ [13, 14, 15, 16, 17, 18, 19, 20, 21, 22, 23, 3, 24, 25, 26, 27, 28, 29, 30, 31, 32, 33, 34, 35, 36, 37, 38, 39, 40, 41, 42, 43, 44, 45, 46, 47, 48, 49] (by decide +kernel) (by decide +kernel)
set_option maxRecDepth 20000 in
theorem gX3_bestDown_X3_bestRow : GoodIn wsX3_bestDown (wsV RX3 150 RX3 yX3_bestRow wsX3_bestRow) := goodIn_app (goodIn_of _ (by decide +kernel)) ggX3_bestDown_X3_bestRow
theorem dX3_bestDown_0 : decode cX3_bestDown 0 = .ok (.iload_n 1, 1) := by decide +kernel
theorem dX3_bestDown_1 : decode cX3_bestDown 1 = .ok (.invokestatic 147, 3) := by decide +kernel
theorem dX3_bestDown_4 : decode cX3_bestDown 4 = .ok (.aload_n 0, 1) := by decide +kernel
theorem dX3_bestDown_5 : decode cX3_bestDown 5 = .ok (.iload_n 1, 1) := by decide +kernel
theorem dX3_bestDown_6 : decode cX3_bestDown 6 = .ok (.bipush 9, 2) := by decide +kernel
theorem dX3_bestDown_8 : decode cX3_bestDown 8 = .ok (.bipush 18, 2) := by decide +kernel
theorem dX3_bestDown_10 : decode cX3_bestDown 10 = .ok (.iconst (-1), 1) := by decide +kernel
theorem dX3_bestDown_11 : decode cX3_bestDown 11 = .ok (.invokevirtual 150, 3) := by decide +kernel
theorem dX3_bestDown_14 : decode cX3_bestDown 14 = .ok (.ireturn, 1) := by decide +kernel
set_option maxRecDepth 20000 in
theorem ggX3_bestCourse_X3_checkColumn : GoodIn wsX3_bestCourse wsX3_checkColumn := goodIn_ca (goodIn_r _ [6, 7, 8, 9, 10, 5, 11] (by decide +kernel) (by decide +kernel)) (goodIn_sub (fun _ h => List.mem_cons_of_mem _ (List.mem_append_left _ (List.mem_append_right _ h))) (by decide +kernel))
set_option maxRecDepth 20000 in
theorem gX3_bestCourse_X3_checkColumn : GoodIn wsX3_bestCourse (va_wsS RX3 147 yX3_checkColumn wsX3_checkColumn) := goodIn_app (goodIn_of _ (by decide +kernel)) ggX3_bestCourse_X3_checkColumn
set_option maxRecDepth 20000 in
theorem ggX3_bestCourse_X3_isDirection : GoodIn wsX3_bestCourse wsX3_isDirection := goodIn_r _ [14, 9, 10, 5, 11] (by decide +kernel) (by decide +kernel)
set_option maxRecDepth 20000 in
theorem gX3_bestCourse_X3_isDirection : GoodIn wsX3_bestCourse (va_wsS RX3 49 yX3_isDirection wsX3_isDirection) := goodIn_app (goodIn_of _ (by decide +kernel)) ggX3_bestCourse_X3_isDirection
set_option maxRecDepth 20000 in
theorem ggX3_bestCourse_X3_checkArgument : GoodIn wsX3_bestCourse wsX3_checkArgument := goodIn_ca (goodIn_r _ [17, 18, 19] (by decide +kernel) (by decide +kernel)) (goodIn_sub (fun _ h => List.mem_cons_of_mem _ (List.mem_append_right _ h)) (by decide +kernel))
set_option maxRecDepth 20000 in
theorem gX3_bestCourse_X3_checkArgument : GoodIn wsX3_bestCourse (va_wsS RX3 45 yX3_checkArgument wsX3_checkArgument) := goodIn_app (goodIn_of _ (by decide +kernel)) ggX3_bestCourse_X3_checkArgument
set_option maxRecDepth 20000 in
theorem ggX3_bestCourse_X3_turned : GoodIn wsX3_bestCourse wsX3_turned := goodIn_r _ [22, 23, 24, 25, 26] (by decide +kernel) (by decide +kernel)
set_option maxRecDepth 20000 in
theorem gX3_bestCourse_X3_turned : GoodIn wsX3_bestCourse (va_wsS RX3 121 yX3_turned wsX3_turned) := goodIn_app (goodIn_of _ (by decide +kernel)) ggX3_bestCourse_X3_turned
set_option maxRecDepth 20000 in
theorem ggX3_bestCourse_X3_openAngleOf : GoodIn wsX3_bestCourse wsX3_openAngleOf := goodIn_r _ [29, 30, 31, 32, 33] (by decide +kernel) (by decide +kernel)
set_option maxRecDepth 20000 in
theorem gX3_bestCourse_X3_openAngleOf : GoodIn wsX3_bestCourse (va_wsS RX3 154 yX3_openAngleOf wsX3_openAngleOf) := goodIn_app (goodIn_of _ (by decide +kernel)) ggX3_bestCourse_X3_openAngleOf
set_option maxRecDepth 20000 in
theorem ggX3_bestCourse_X3_rowOf : GoodIn wsX3_bestCourse wsX3_rowOf := goodIn_r _ [36] (by decide +kernel) (by decide +kernel)
set_option maxRecDepth 20000 in
theorem gX3_bestCourse_X3_rowOf : GoodIn wsX3_bestCourse (va_wsS RX3 157 yX3_rowOf wsX3_rowOf) := goodIn_app (goodIn_of _ (by decide +kernel)) ggX3_bestCourse_X3_rowOf
set_option maxRecDepth 20000 in
theorem ggX3_bestCourse_X0_kept : GoodIn wsX3_bestCourse wsX0_kept := goodIn_r _ [41, 42, 59] (by decide +kernel) (by decide +kernel)
set_option maxRecDepth 20000 in
theorem gX3_bestCourse_X0_kept : GoodIn wsX3_bestCourse (wsV RX3 133 RX0 yX0_kept wsX0_kept) := goodIn_app (goodIn_of _ (by decide +kernel)) ggX3_bestCourse_X0_kept
set_option maxRecDepth 20000 in
theorem ggX3_bestCourse_X1_cosineOf : GoodIn wsX3_bestCourse wsX1_cosineOf := goodIn_r _ [47, 48, 49, 24, 25, 26, 60] (by decide +kernel) (by decide +kernel)
set_option maxRecDepth 20000 in
theorem gX3_bestCourse_X1_cosineOf : GoodIn wsX3_bestCourse (wsV RX3 160 RX1 yX1_cosineOf wsX1_cosineOf) := goodIn_app (goodIn_of _ (by decide +kernel)) ggX3_bestCourse_X1_cosineOf
theorem dX3_bestCourse_0 : decode cX3_bestCourse 0 = .ok (.iload_n 1, 1) := by decide +kernel
theorem dX3_bestCourse_1 : decode cX3_bestCourse 1 = .ok (.invokestatic 147, 3) := by decide +kernel
theorem dX3_bestCourse_4 : decode cX3_bestCourse 4 = .ok (.iload_n 2, 1) := by decide +kernel
theorem dX3_bestCourse_5 : decode cX3_bestCourse 5 = .ok (.invokestatic 49, 3) := by decide +kernel
theorem dX3_bestCourse_8 : decode cX3_bestCourse 8 = .ok (.invokestatic 45, 3) := by decide +kernel
theorem dX3_bestCourse_11 : decode cX3_bestCourse 11 = .ok (.iload_n 3, 1) := by decide +kernel
theorem dX3_bestCourse_12 : decode cX3_bestCourse 12 = .ok (.invokestatic 49, 3) := by decide +kernel
theorem dX3_bestCourse_15 : decode cX3_bestCourse 15 = .ok (.invokestatic 45, 3) := by decide +kernel
theorem dX3_bestCourse_18 : decode cX3_bestCourse 18 = .ok (.iconst (-1), 1) := by decide +kernel
theorem dX3_bestCourse_19 : decode cX3_bestCourse 19 = .ok (.istore 4, 2) := by decide +kernel
theorem dX3_bestCourse_21 : decode cX3_bestCourse 21 = .ok (.iconst 0, 1) := by decide +kernel
theorem dX3_bestCourse_22 : decode cX3_bestCourse 22 = .ok (.istore 5, 2) := by decide +kernel
theorem dX3_bestCourse_24 : decode cX3_bestCourse 24 = .ok (.iconst 0, 1) := by decide +kernel
theorem dX3_bestCourse_25 : decode cX3_bestCourse 25 = .ok (.istore 6, 2) := by decide +kernel
theorem dX3_bestCourse_27 : decode cX3_bestCourse 27 = .ok (.iload 6, 2) := by decide +kernel
theorem dX3_bestCourse_29 : decode cX3_bestCourse 29 = .ok (.sipush 360, 3) := by decide +kernel
theorem dX3_bestCourse_32 : decode cX3_bestCourse 32 = .ok (.if_icmp .ge 63, 3) := by decide +kernel
theorem dX3_bestCourse_35 : decode cX3_bestCourse 35 = .ok (.iload_n 2, 1) := by decide +kernel
theorem dX3_bestCourse_36 : decode cX3_bestCourse 36 = .ok (.iload 6, 2) := by decide +kernel
theorem dX3_bestCourse_38 : decode cX3_bestCourse 38 = .ok (.ineg, 1) := by decide +kernel
theorem dX3_bestCourse_39 : decode cX3_bestCourse 39 = .ok (.invokestatic 121, 3) := by decide +kernel
theorem dX3_bestCourse_42 : decode cX3_bestCourse 42 = .ok (.invokestatic 154, 3) := by decide +kernel
theorem dX3_bestCourse_45 : decode cX3_bestCourse 45 = .ok (.invokestatic 157, 3) := by decide +kernel
theorem dX3_bestCourse_48 : decode cX3_bestCourse 48 = .ok (.istore 7, 2) := by decide +kernel
theorem dX3_bestCourse_50 : decode cX3_bestCourse 50 = .ok (.aload_n 0, 1) := by decide +kernel
theorem dX3_bestCourse_51 : decode cX3_bestCourse 51 = .ok (.getfield 26, 3) := by decide +kernel
theorem dX3_bestCourse_54 : decode cX3_bestCourse 54 = .ok (.iload 7, 2) := by decide +kernel
theorem dX3_bestCourse_56 : decode cX3_bestCourse 56 = .ok (.iload_n 1, 1) := by decide +kernel
theorem dX3_bestCourse_57 : decode cX3_bestCourse 57 = .ok (.invokevirtual 133, 3) := by decide +kernel
theorem dX3_bestCourse_60 : decode cX3_bestCourse 60 = .ok (.aload_n 0, 1) := by decide +kernel
theorem dX3_bestCourse_61 : decode cX3_bestCourse 61 = .ok (.getfield 12, 3) := by decide +kernel
theorem dX3_bestCourse_64 : decode cX3_bestCourse 64 = .ok (.iload 6, 2) := by decide +kernel
theorem dX3_bestCourse_66 : decode cX3_bestCourse 66 = .ok (.iload_n 3, 1) := by decide +kernel
theorem dX3_bestCourse_67 : decode cX3_bestCourse 67 = .ok (.isub, 1) := by decide +kernel
theorem dX3_bestCourse_68 : decode cX3_bestCourse 68 = .ok (.invokevirtual 160, 3) := by decide +kernel
theorem dX3_bestCourse_71 : decode cX3_bestCourse 71 = .ok (.imul, 1) := by decide +kernel
theorem dX3_bestCourse_72 : decode cX3_bestCourse 72 = .ok (.istore 8, 2) := by decide +kernel
theorem dX3_bestCourse_74 : decode cX3_bestCourse 74 = .ok (.iload 8, 2) := by decide +kernel
theorem dX3_bestCourse_76 : decode cX3_bestCourse 76 = .ok (.iload 5, 2) := by decide +kernel
theorem dX3_bestCourse_78 : decode cX3_bestCourse 78 = .ok (.if_icmp .le 11, 3) := by decide +kernel
theorem dX3_bestCourse_81 : decode cX3_bestCourse 81 = .ok (.iload 8, 2) := by decide +kernel
theorem dX3_bestCourse_83 : decode cX3_bestCourse 83 = .ok (.istore 5, 2) := by decide +kernel
theorem dX3_bestCourse_85 : decode cX3_bestCourse 85 = .ok (.iload 6, 2) := by decide +kernel
theorem dX3_bestCourse_87 : decode cX3_bestCourse 87 = .ok (.istore 4, 2) := by decide +kernel
theorem dX3_bestCourse_89 : decode cX3_bestCourse 89 = .ok (.iinc 6 1, 3) := by decide +kernel
theorem dX3_bestCourse_92 : decode cX3_bestCourse 92 = .ok (.goto (-65), 3) := by decide +kernel
theorem dX3_bestCourse_95 : decode cX3_bestCourse 95 = .ok (.iload 4, 2) := by decide +kernel
theorem dX3_bestCourse_97 : decode cX3_bestCourse 97 = .ok (.ireturn, 1) := by decide +kernel
set_option maxRecDepth 20000 in
theorem ggX3_turn_X3_checkEntry : GoodIn wsX3_turn wsX3_checkEntry := goodIn_ca (goodIn_r _ [5, 6, 7, 8, 9, 10, 4, 11, 33, 34, 35, 36, 37, 38, 39, 40, 41] (by decide +kernel) (by decide +kernel)) (goodIn_sub (fun _ h => List.mem_cons_of_mem _ (List.mem_append_right _ h)) (by decide +kernel))
set_option maxRecDepth 20000 in
theorem gX3_turn_X3_checkEntry : GoodIn wsX3_turn (wsV RX3 105 RX3 yX3_checkEntry wsX3_checkEntry) := goodIn_app (goodIn_of _ (by decide +kernel)) ggX3_turn_X3_checkEntry
set_option maxRecDepth 20000 in
theorem ggX3_turn_X3_kindOf : GoodIn wsX3_turn wsX3_kindOf := goodIn_r _ [15, 16, 17, 18, 19, 20, 21, 22, 23, 24, 25, 26, 27, 4, 28, 29, 30, 31, 32, 33, 34, 35, 36, 37, 38, 39, 40, 41, 42, 43, 44, 45, 46, 47, 48, 49, 50] (by decide +kernel) (by decide +kernel)
set_option maxRecDepth 20000 in
theorem gX3_turn_X3_kindOf : GoodIn wsX3_turn (wsV RX3 163 RX3 yX3_kindOf wsX3_kindOf) := goodIn_app (goodIn_of _ (by decide +kernel)) ggX3_turn_X3_kindOf
theorem dX3_turn_0 : decode cX3_turn 0 = .ok (.aload_n 0, 1) := by decide +kernel
theorem dX3_turn_1 : decode cX3_turn 1 = .ok (.iload_n 1, 1) := by decide +kernel
theorem dX3_turn_2 : decode cX3_turn 2 = .ok (.invokevirtual 105, 3) := by decide +kernel
theorem dX3_turn_5 : decode cX3_turn 5 = .ok (.aload_n 0, 1) := by decide +kernel
theorem dX3_turn_6 : decode cX3_turn 6 = .ok (.iload_n 1, 1) := by decide +kernel
theorem dX3_turn_7 : decode cX3_turn 7 = .ok (.invokevirtual 163, 3) := by decide +kernel
theorem dX3_turn_10 : decode cX3_turn 10 = .ok (.ireturn, 1) := by decide +kernel
set_option maxRecDepth 20000 in
theorem ggX3_cost_X3_checkEntry : GoodIn wsX3_cost wsX3_checkEntry := goodIn_ca (goodIn_r _ [5, 6, 7, 8, 9, 10, 4, 11, 42, 43, 44, 45, 46, 47, 48, 49, 50] (by decide +kernel) (by decide +kernel)) (goodIn_sub (fun _ h => List.mem_cons_of_mem _ (List.mem_append_right _ h)) (by decide +kernel))
set_option maxRecDepth 20000 in
theorem gX3_cost_X3_checkEntry : GoodIn wsX3_cost (wsV RX3 105 RX3 yX3_checkEntry wsX3_checkEntry) := goodIn_app (goodIn_of _ (by decide +kernel)) ggX3_cost_X3_checkEntry
set_option maxRecDepth 20000 in
theorem ggX3_cost_X3_lossOf : GoodIn wsX3_cost wsX3_lossOf := goodIn_r _ [15, 16, 17, 8, 18, 19, 20, 21, 22, 23, 24, 25, 26, 27, 28, 4, 29, 30, 31, 32, 33, 34, 35, 36, 37, 38, 39, 40, 41, 42, 43, 44, 45, 46, 47, 48, 49, 50, 51, 52, 53, 54, 55, 56, 57, 58, 59] (by decide +kernel) (by decide +kernel)
set_option maxRecDepth 20000 in
theorem gX3_cost_X3_lossOf : GoodIn wsX3_cost (wsV RX3 166 RX3 yX3_lossOf wsX3_lossOf) := goodIn_app (goodIn_of _ (by decide +kernel)) ggX3_cost_X3_lossOf
theorem dX3_cost_0 : decode cX3_cost 0 = .ok (.aload_n 0, 1) := by decide +kernel
theorem dX3_cost_1 : decode cX3_cost 1 = .ok (.iload_n 1, 1) := by decide +kernel
theorem dX3_cost_2 : decode cX3_cost 2 = .ok (.invokevirtual 105, 3) := by decide +kernel
theorem dX3_cost_5 : decode cX3_cost 5 = .ok (.aload_n 0, 1) := by decide +kernel
theorem dX3_cost_6 : decode cX3_cost 6 = .ok (.iload_n 1, 1) := by decide +kernel
theorem dX3_cost_7 : decode cX3_cost 7 = .ok (.invokevirtual 166, 3) := by decide +kernel
theorem dX3_cost_10 : decode cX3_cost 10 = .ok (.ireturn, 1) := by decide +kernel
set_option maxRecDepth 20000 in
theorem ggX3_costs_X3_checkArgument : GoodIn wsX3_costs wsX3_checkArgument := goodIn_ca (goodIn_r _ [5, 6, 7] (by decide +kernel) (by decide +kernel)) (goodIn_sub (fun _ h => List.mem_cons_of_mem _ (List.mem_append_right _ h)) (by decide +kernel))
set_option maxRecDepth 20000 in
theorem gX3_costs_X3_checkArgument : GoodIn wsX3_costs (va_wsS RX3 45 yX3_checkArgument wsX3_checkArgument) := goodIn_app (goodIn_of _ (by decide +kernel)) ggX3_costs_X3_checkArgument
set_option maxRecDepth 20000 in
theorem ggX3_costs_X3_kindOf : GoodIn wsX3_costs wsX3_kindOf := goodIn_r _ [11, 12, 13, 14, 15, 16, 17, 18, 19, 20, 21, 22, 23, 4, 24, 25, 26, 27, 28, 38, 39, 40, 41, 42, 43, 44, 45, 46, 47, 48, 49, 50, 51, 52, 53, 54, 55] (by decide +kernel) (by decide +kernel)
set_option maxRecDepth 20000 in
theorem gX3_costs_X3_kindOf : GoodIn wsX3_costs (wsV RX3 163 RX3 yX3_kindOf wsX3_kindOf) := goodIn_app (goodIn_of _ (by decide +kernel)) ggX3_costs_X3_kindOf
set_option maxRecDepth 20000 in
theorem ggX3_costs_X3_lossOf : GoodIn wsX3_costs wsX3_lossOf := goodIn_r _ [32, 12, 33, 1, 25, 26, 27, 28, 34, 35, 36, 37, 8, 9, 10, 4, 11, 13, 14, 15, 16, 17, 18, 19, 20, 21, 22, 23, 24, 38, 39, 40, 41, 42, 43, 44, 45, 46, 47, 48, 49, 50, 51, 52, 53, 54, 55] (by decide +kernel) (by decide +kernel)
set_option maxRecDepth 20000 in
theorem gX3_costs_X3_lossOf : GoodIn wsX3_costs (wsV RX3 166 RX3 yX3_lossOf wsX3_lossOf) := goodIn_app (goodIn_of _ (by decide +kernel)) ggX3_costs_X3_lossOf
theorem dX3_costs_0 : decode cX3_costs 0 = .ok (.iload_n 1, 1) := by decide +kernel
theorem dX3_costs_1 : decode cX3_costs 1 = .ok (.iconst 1, 1) := by decide +kernel
theorem dX3_costs_2 : decode cX3_costs 2 = .ok (.if_icmp .eq 8, 3) := by decide +kernel
theorem dX3_costs_5 : decode cX3_costs 5 = .ok (.iload_n 1, 1) := by decide +kernel
theorem dX3_costs_6 : decode cX3_costs 6 = .ok (.iconst 2, 1) := by decide +kernel
theorem dX3_costs_7 : decode cX3_costs 7 = .ok (.if_icmp .ne 7, 3) := by decide +kernel
theorem dX3_costs_10 : decode cX3_costs 10 = .ok (.iconst 1, 1) := by decide +kernel
theorem dX3_costs_11 : decode cX3_costs 11 = .ok (.goto 4, 3) := by decide +kernel
theorem dX3_costs_14 : decode cX3_costs 14 = .ok (.iconst 0, 1) := by decide +kernel
theorem dX3_costs_15 : decode cX3_costs 15 = .ok (.invokestatic 45, 3) := by decide +kernel
theorem dX3_costs_18 : decode cX3_costs 18 = .ok (.iconst 0, 1) := by decide +kernel
theorem dX3_costs_19 : decode cX3_costs 19 = .ok (.istore_n 2, 1) := by decide +kernel
theorem dX3_costs_20 : decode cX3_costs 20 = .ok (.iconst 0, 1) := by decide +kernel
theorem dX3_costs_21 : decode cX3_costs 21 = .ok (.istore_n 3, 1) := by decide +kernel
theorem dX3_costs_22 : decode cX3_costs 22 = .ok (.iload_n 3, 1) := by decide +kernel
theorem dX3_costs_23 : decode cX3_costs 23 = .ok (.aload_n 0, 1) := by decide +kernel
theorem dX3_costs_24 : decode cX3_costs 24 = .ok (.getfield 53, 3) := by decide +kernel
theorem dX3_costs_27 : decode cX3_costs 27 = .ok (.if_icmp .ge 26, 3) := by decide +kernel
theorem dX3_costs_30 : decode cX3_costs 30 = .ok (.aload_n 0, 1) := by decide +kernel
theorem dX3_costs_31 : decode cX3_costs 31 = .ok (.iload_n 3, 1) := by decide +kernel
theorem dX3_costs_32 : decode cX3_costs 32 = .ok (.invokevirtual 163, 3) := by decide +kernel
theorem dX3_costs_35 : decode cX3_costs 35 = .ok (.iload_n 1, 1) := by decide +kernel
theorem dX3_costs_36 : decode cX3_costs 36 = .ok (.if_icmp .ne 11, 3) := by decide +kernel
theorem dX3_costs_39 : decode cX3_costs 39 = .ok (.iload_n 2, 1) := by decide +kernel
theorem dX3_costs_40 : decode cX3_costs 40 = .ok (.aload_n 0, 1) := by decide +kernel
theorem dX3_costs_41 : decode cX3_costs 41 = .ok (.iload_n 3, 1) := by decide +kernel
theorem dX3_costs_42 : decode cX3_costs 42 = .ok (.invokevirtual 166, 3) := by decide +kernel
theorem dX3_costs_45 : decode cX3_costs 45 = .ok (.iadd, 1) := by decide +kernel
theorem dX3_costs_46 : decode cX3_costs 46 = .ok (.istore_n 2, 1) := by decide +kernel
theorem dX3_costs_47 : decode cX3_costs 47 = .ok (.iinc 3 1, 3) := by decide +kernel
theorem dX3_costs_50 : decode cX3_costs 50 = .ok (.goto (-28), 3) := by decide +kernel
theorem dX3_costs_53 : decode cX3_costs 53 = .ok (.iload_n 2, 1) := by decide +kernel
theorem dX3_costs_54 : decode cX3_costs 54 = .ok (.ireturn, 1) := by decide +kernel
set_option maxRecDepth 20000 in
theorem ggX3_east_X3_checkEntry : GoodIn wsX3_east wsX3_checkEntry := goodIn_ca (goodIn_r _ [5, 6, 7, 8, 9, 10, 4, 11, 37, 38, 39, 40, 41, 42, 43, 44, 45] (by decide +kernel) (by decide +kernel)) (goodIn_sub (fun _ h => List.mem_cons_of_mem _ (List.mem_append_right _ h)) (by decide +kernel))
set_option maxRecDepth 20000 in
theorem gX3_east_X3_checkEntry : GoodIn wsX3_east (wsV RX3 105 RX3 yX3_checkEntry wsX3_checkEntry) := goodIn_app (goodIn_of _ (by decide +kernel)) ggX3_east_X3_checkEntry
set_option maxRecDepth 20000 in
theorem ggX3_east_X3_distance : GoodIn wsX3_east wsX3_distance := goodIn_r _ [15, 16, 17, 18, 19, 20, 21, 22, 23, 24, 25, 26, 27, 28, 29, 30, 31, 32, 33, 34, 35, 36, 37, 38, 39, 40, 41, 42, 43, 44, 45, 46, 47, 48, 49, 50, 51, 52, 53, 54, 55] (by decide +kernel) (by decide +kernel)
set_option maxRecDepth 20000 in
theorem gX3_east_X3_distance : GoodIn wsX3_east (wsV RX3 169 RX3 yX3_distance wsX3_distance) := goodIn_app (goodIn_of _ (by decide +kernel)) ggX3_east_X3_distance
theorem dX3_east_0 : decode cX3_east 0 = .ok (.aload_n 0, 1) := by decide +kernel
theorem dX3_east_1 : decode cX3_east 1 = .ok (.iload_n 1, 1) := by decide +kernel
theorem dX3_east_2 : decode cX3_east 2 = .ok (.invokevirtual 105, 3) := by decide +kernel
theorem dX3_east_5 : decode cX3_east 5 = .ok (.aload_n 0, 1) := by decide +kernel
theorem dX3_east_6 : decode cX3_east 6 = .ok (.iload_n 1, 1) := by decide +kernel
theorem dX3_east_7 : decode cX3_east 7 = .ok (.iconst 0, 1) := by decide +kernel
theorem dX3_east_8 : decode cX3_east 8 = .ok (.invokevirtual 169, 3) := by decide +kernel
theorem dX3_east_11 : decode cX3_east 11 = .ok (.ireturn, 1) := by decide +kernel
set_option maxRecDepth 20000 in
theorem ggX3_north_X3_checkEntry : GoodIn wsX3_north wsX3_checkEntry := goodIn_ca (goodIn_r _ [5, 6, 7, 8, 9, 10, 4, 11, 37, 38, 39, 40, 41, 42, 43, 44, 45] (by decide +kernel) (by decide +kernel)) (goodIn_sub (fun _ h => List.mem_cons_of_mem _ (List.mem_append_right _ h)) (by decide +kernel))
set_option maxRecDepth 20000 in
theorem gX3_north_X3_checkEntry : GoodIn wsX3_north (wsV RX3 105 RX3 yX3_checkEntry wsX3_checkEntry) := goodIn_app (goodIn_of _ (by decide +kernel)) ggX3_north_X3_checkEntry
set_option maxRecDepth 20000 in
theorem ggX3_north_X3_distance : GoodIn wsX3_north wsX3_distance := goodIn_r _ [15, 16, 17, 18, 19, 20, 21, 22, 23, 24, 25, 26, 27, 28, 29, 30, 31, 32, 33, 34, 35, 36, 37, 38, 39, 40, 41, 42, 43, 44, 45, 46, 47, 48, 49, 50, 51, 52, 53, 54, 55] (by decide +kernel) (by decide +kernel)
set_option maxRecDepth 20000 in
theorem gX3_north_X3_distance : GoodIn wsX3_north (wsV RX3 169 RX3 yX3_distance wsX3_distance) := goodIn_app (goodIn_of _ (by decide +kernel)) ggX3_north_X3_distance
theorem dX3_north_0 : decode cX3_north 0 = .ok (.aload_n 0, 1) := by decide +kernel
theorem dX3_north_1 : decode cX3_north 1 = .ok (.iload_n 1, 1) := by decide +kernel
theorem dX3_north_2 : decode cX3_north 2 = .ok (.invokevirtual 105, 3) := by decide +kernel
theorem dX3_north_5 : decode cX3_north 5 = .ok (.aload_n 0, 1) := by decide +kernel
theorem dX3_north_6 : decode cX3_north 6 = .ok (.iload_n 1, 1) := by decide +kernel
theorem dX3_north_7 : decode cX3_north 7 = .ok (.bipush 90, 2) := by decide +kernel
