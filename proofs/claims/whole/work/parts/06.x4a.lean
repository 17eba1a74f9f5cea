theorem dX4_init_0 : decode cX4_init 0 = .ok (.aload_n 0, 1) := by decide +kernel
theorem dX4_init_1 : decode cX4_init 1 = .ok (.invokespecial 1, 3) := by decide +kernel
theorem dX4_init_4 : decode cX4_init 4 = .ok (.aload_n 0, 1) := by decide +kernel
theorem dX4_init_5 : decode cX4_init 5 = .ok (.bipush 60, 2) := by decide +kernel
theorem dX4_init_7 : decode cX4_init 7 = .ok (.newarray .int, 2) := by decide +kernel
theorem dX4_init_9 : decode cX4_init 9 = .ok (.putfield 7, 3) := by decide +kernel
theorem dX4_init_12 : decode cX4_init 12 = .ok (.aload_n 0, 1) := by decide +kernel
theorem dX4_init_13 : decode cX4_init 13 = .ok (.bipush 60, 2) := by decide +kernel
theorem dX4_init_15 : decode cX4_init 15 = .ok (.newarray .int, 2) := by decide +kernel
theorem dX4_init_17 : decode cX4_init 17 = .ok (.putfield 13, 3) := by decide +kernel
theorem dX4_init_20 : decode cX4_init 20 = .ok (.aload_n 0, 1) := by decide +kernel
theorem dX4_init_21 : decode cX4_init 21 = .ok (.bipush 60, 2) := by decide +kernel
theorem dX4_init_23 : decode cX4_init 23 = .ok (.newarray .int, 2) := by decide +kernel
theorem dX4_init_25 : decode cX4_init 25 = .ok (.putfield 16, 3) := by decide +kernel
theorem dX4_init_28 : decode cX4_init 28 = .ok (.aload_n 0, 1) := by decide +kernel
theorem dX4_init_29 : decode cX4_init 29 = .ok (.bipush 60, 2) := by decide +kernel
theorem dX4_init_31 : decode cX4_init 31 = .ok (.newarray .int, 2) := by decide +kernel
theorem dX4_init_33 : decode cX4_init 33 = .ok (.putfield 19, 3) := by decide +kernel
theorem dX4_init_36 : decode cX4_init 36 = .ok (.aload_n 0, 1) := by decide +kernel
theorem dX4_init_37 : decode cX4_init 37 = .ok (.bipush 60, 2) := by decide +kernel
theorem dX4_init_39 : decode cX4_init 39 = .ok (.newarray .int, 2) := by decide +kernel
theorem dX4_init_41 : decode cX4_init 41 = .ok (.putfield 22, 3) := by decide +kernel
theorem dX4_init_44 : decode cX4_init 44 = .ok (.aload_n 0, 1) := by decide +kernel
theorem dX4_init_45 : decode cX4_init 45 = .ok (.sipush 1000, 3) := by decide +kernel
theorem dX4_init_48 : decode cX4_init 48 = .ok (.putfield 25, 3) := by decide +kernel
theorem dX4_init_51 : decode cX4_init 51 = .ok (.aload_n 0, 1) := by decide +kernel
theorem dX4_init_52 : decode cX4_init 52 = .ok (.bipush 24, 2) := by decide +kernel
theorem dX4_init_54 : decode cX4_init 54 = .ok (.newarray .int, 2) := by decide +kernel
theorem dX4_init_56 : decode cX4_init 56 = .ok (.putfield 29, 3) := by decide +kernel
theorem dX4_init_59 : decode cX4_init 59 = .ok (.aload_n 0, 1) := by decide +kernel
theorem dX4_init_60 : decode cX4_init 60 = .ok (.bipush 24, 2) := by decide +kernel
theorem dX4_init_62 : decode cX4_init 62 = .ok (.newarray .int, 2) := by decide +kernel
theorem dX4_init_64 : decode cX4_init 64 = .ok (.putfield 32, 3) := by decide +kernel
theorem dX4_init_67 : decode cX4_init 67 = .ok (.return_, 1) := by decide +kernel
theorem dX4_thrown_0 : decode cX4_thrown 0 = .ok (.aload_n 0, 1) := by decide +kernel
theorem dX4_thrown_1 : decode cX4_thrown 1 = .ok (.getfield 35, 3) := by decide +kernel
theorem dX4_thrown_4 : decode cX4_thrown 4 = .ok (.ireturn, 1) := by decide +kernel
theorem dX4_refused_0 : decode cX4_refused 0 = .ok (.aload_n 0, 1) := by decide +kernel
theorem dX4_refused_1 : decode cX4_refused 1 = .ok (.iload_n 1, 1) := by decide +kernel
theorem dX4_refused_2 : decode cX4_refused 2 = .ok (.putfield 35, 3) := by decide +kernel
theorem dX4_refused_5 : decode cX4_refused 5 = .ok (.iload_n 1, 1) := by decide +kernel
theorem dX4_refused_6 : decode cX4_refused 6 = .ok (.ifCond .eq 7, 3) := by decide +kernel
theorem dX4_refused_9 : decode cX4_refused 9 = .ok (.iconst 1, 1) := by decide +kernel
theorem dX4_refused_10 : decode cX4_refused 10 = .ok (.goto 4, 3) := by decide +kernel
theorem dX4_refused_13 : decode cX4_refused 13 = .ok (.iconst 0, 1) := by decide +kernel
theorem dX4_refused_14 : decode cX4_refused 14 = .ok (.ireturn, 1) := by decide +kernel
theorem dX4_in_0 : decode cX4_in 0 = .ok (.iload_n 0, 1) := by decide +kernel
theorem dX4_in_1 : decode cX4_in 1 = .ok (.iload_n 1, 1) := by decide +kernel
theorem dX4_in_2 : decode cX4_in 2 = .ok (.if_icmp .lt 12, 3) := by decide +kernel
theorem dX4_in_5 : decode cX4_in 5 = .ok (.iload_n 0, 1) := by decide +kernel
theorem dX4_in_6 : decode cX4_in 6 = .ok (.iload_n 2, 1) := by decide +kernel
theorem dX4_in_7 : decode cX4_in 7 = .ok (.if_icmp .gt 7, 3) := by decide +kernel
theorem dX4_in_10 : decode cX4_in 10 = .ok (.iconst 1, 1) := by decide +kernel
theorem dX4_in_11 : decode cX4_in 11 = .ok (.goto 4, 3) := by decide +kernel
theorem dX4_in_14 : decode cX4_in 14 = .ok (.iconst 0, 1) := by decide +kernel
theorem dX4_in_15 : decode cX4_in 15 = .ok (.ireturn, 1) := by decide +kernel
set_option maxRecDepth 20000 in
theorem ggX4_log_X4_in : GoodIn wsX4_log wsX4_in := goodIn_r _ [10] (by decide +kernel) (by decide +kernel)
set_option maxRecDepth 20000 in
theorem gX4_log_X4_in : GoodIn wsX4_log (va_wsS RX4 38 yX4_in wsX4_in) := goodIn_app (goodIn_of _ (by decide +kernel)) ggX4_log_X4_in
set_option maxRecDepth 20000 in
theorem ggX4_log_X4_refused : GoodIn wsX4_log wsX4_refused := goodIn_r _ [14, 15, 16, 17, 18, 19, 20, 21, 22, 23, 24, 25, 26, 27] (by decide +kernel) (by decide +kernel)
set_option maxRecDepth 20000 in
theorem gX4_log_X4_refused : GoodIn wsX4_log (wsV RX4 45 RX4 yX4_refused wsX4_refused) := goodIn_app (goodIn_of _ (by decide +kernel)) ggX4_log_X4_refused
theorem dX4_log_0 : decode cX4_log 0 = .ok (.iload_n 1, 1) := by decide +kernel
theorem dX4_log_1 : decode cX4_log 1 = .ok (.iconst 0, 1) := by decide +kernel
theorem dX4_log_2 : decode cX4_log 2 = .ok (.sipush 1439, 3) := by decide +kernel
theorem dX4_log_5 : decode cX4_log 5 = .ok (.invokestatic 38, 3) := by decide +kernel
theorem dX4_log_8 : decode cX4_log 8 = .ok (.ifCond .eq 53, 3) := by decide +kernel
theorem dX4_log_11 : decode cX4_log 11 = .ok (.iload_n 2, 1) := by decide +kernel
theorem dX4_log_12 : decode cX4_log 12 = .ok (.iconst 0, 1) := by decide +kernel
theorem dX4_log_13 : decode cX4_log 13 = .ok (.sipush 300, 3) := by decide +kernel
theorem dX4_log_16 : decode cX4_log 16 = .ok (.invokestatic 38, 3) := by decide +kernel
theorem dX4_log_19 : decode cX4_log 19 = .ok (.ifCond .eq 42, 3) := by decide +kernel
theorem dX4_log_22 : decode cX4_log 22 = .ok (.iload_n 3, 1) := by decide +kernel
theorem dX4_log_23 : decode cX4_log 23 = .ok (.iconst 0, 1) := by decide +kernel
theorem dX4_log_24 : decode cX4_log 24 = .ok (.sipush 359, 3) := by decide +kernel
theorem dX4_log_27 : decode cX4_log 27 = .ok (.invokestatic 38, 3) := by decide +kernel
theorem dX4_log_30 : decode cX4_log 30 = .ok (.ifCond .eq 31, 3) := by decide +kernel
theorem dX4_log_33 : decode cX4_log 33 = .ok (.iload 4, 2) := by decide +kernel
theorem dX4_log_35 : decode cX4_log 35 = .ok (.iconst 0, 1) := by decide +kernel
theorem dX4_log_36 : decode cX4_log 36 = .ok (.sipush 600, 3) := by decide +kernel
theorem dX4_log_39 : decode cX4_log 39 = .ok (.invokestatic 38, 3) := by decide +kernel
theorem dX4_log_42 : decode cX4_log 42 = .ok (.ifCond .eq 19, 3) := by decide +kernel
theorem dX4_log_45 : decode cX4_log 45 = .ok (.iload 5, 2) := by decide +kernel
theorem dX4_log_47 : decode cX4_log 47 = .ok (.iconst 0, 1) := by decide +kernel
theorem dX4_log_48 : decode cX4_log 48 = .ok (.sipush 359, 3) := by decide +kernel
theorem dX4_log_51 : decode cX4_log 51 = .ok (.invokestatic 38, 3) := by decide +kernel
theorem dX4_log_54 : decode cX4_log 54 = .ok (.ifCond .eq 7, 3) := by decide +kernel
theorem dX4_log_57 : decode cX4_log 57 = .ok (.iconst 1, 1) := by decide +kernel
theorem dX4_log_58 : decode cX4_log 58 = .ok (.goto 4, 3) := by decide +kernel
theorem dX4_log_61 : decode cX4_log 61 = .ok (.iconst 0, 1) := by decide +kernel
theorem dX4_log_62 : decode cX4_log 62 = .ok (.istore 6, 2) := by decide +kernel
theorem dX4_log_64 : decode cX4_log 64 = .ok (.aload_n 0, 1) := by decide +kernel
theorem dX4_log_65 : decode cX4_log 65 = .ok (.getfield 42, 3) := by decide +kernel
theorem dX4_log_68 : decode cX4_log 68 = .ok (.bipush 60, 2) := by decide +kernel
theorem dX4_log_70 : decode cX4_log 70 = .ok (.if_icmp .ge 29, 3) := by decide +kernel
theorem dX4_log_73 : decode cX4_log 73 = .ok (.aload_n 0, 1) := by decide +kernel
theorem dX4_log_74 : decode cX4_log 74 = .ok (.getfield 42, 3) := by decide +kernel
theorem dX4_log_77 : decode cX4_log 77 = .ok (.ifCond .eq 18, 3) := by decide +kernel
theorem dX4_log_80 : decode cX4_log 80 = .ok (.iload_n 1, 1) := by decide +kernel
theorem dX4_log_81 : decode cX4_log 81 = .ok (.aload_n 0, 1) := by decide +kernel
theorem dX4_log_82 : decode cX4_log 82 = .ok (.getfield 7, 3) := by decide +kernel
theorem dX4_log_85 : decode cX4_log 85 = .ok (.aload_n 0, 1) := by decide +kernel
theorem dX4_log_86 : decode cX4_log 86 = .ok (.getfield 42, 3) := by decide +kernel
theorem dX4_log_89 : decode cX4_log 89 = .ok (.iconst 1, 1) := by decide +kernel
theorem dX4_log_90 : decode cX4_log 90 = .ok (.isub, 1) := by decide +kernel
theorem dX4_log_91 : decode cX4_log 91 = .ok (.iaload, 1) := by decide +kernel
theorem dX4_log_92 : decode cX4_log 92 = .ok (.if_icmp .le 7, 3) := by decide +kernel
theorem dX4_log_95 : decode cX4_log 95 = .ok (.iconst 1, 1) := by decide +kernel
theorem dX4_log_96 : decode cX4_log 96 = .ok (.goto 4, 3) := by decide +kernel
theorem dX4_log_99 : decode cX4_log 99 = .ok (.iconst 0, 1) := by decide +kernel
theorem dX4_log_100 : decode cX4_log 100 = .ok (.istore 7, 2) := by decide +kernel
theorem dX4_log_102 : decode cX4_log 102 = .ok (.aload_n 0, 1) := by decide +kernel
theorem dX4_log_103 : decode cX4_log 103 = .ok (.iload 6, 2) := by decide +kernel
theorem dX4_log_105 : decode cX4_log 105 = .ok (.ifCond .ne 7, 3) := by decide +kernel
theorem dX4_log_108 : decode cX4_log 108 = .ok (.iconst 1, 1) := by decide +kernel
theorem dX4_log_109 : decode cX4_log 109 = .ok (.goto 13, 3) := by decide +kernel
theorem dX4_log_112 : decode cX4_log 112 = .ok (.iload 7, 2) := by decide +kernel
theorem dX4_log_114 : decode cX4_log 114 = .ok (.ifCond .eq 7, 3) := by decide +kernel
theorem dX4_log_117 : decode cX4_log 117 = .ok (.iconst 0, 1) := by decide +kernel
theorem dX4_log_118 : decode cX4_log 118 = .ok (.goto 4, 3) := by decide +kernel
theorem dX4_log_121 : decode cX4_log 121 = .ok (.iconst 2, 1) := by decide +kernel
theorem dX4_log_122 : decode cX4_log 122 = .ok (.invokevirtual 45, 3) := by decide +kernel
theorem dX4_log_125 : decode cX4_log 125 = .ok (.ifCond .eq 5, 3) := by decide +kernel
theorem dX4_log_128 : decode cX4_log 128 = .ok (.iconst 0, 1) := by decide +kernel
theorem dX4_log_129 : decode cX4_log 129 = .ok (.ireturn, 1) := by decide +kernel
theorem dX4_log_130 : decode cX4_log 130 = .ok (.aload_n 0, 1) := by decide +kernel
theorem dX4_log_131 : decode cX4_log 131 = .ok (.getfield 7, 3) := by decide +kernel
theorem dX4_log_134 : decode cX4_log 134 = .ok (.aload_n 0, 1) := by decide +kernel
theorem dX4_log_135 : decode cX4_log 135 = .ok (.getfield 42, 3) := by decide +kernel
theorem dX4_log_138 : decode cX4_log 138 = .ok (.iload_n 1, 1) := by decide +kernel
theorem dX4_log_139 : decode cX4_log 139 = .ok (.iastore, 1) := by decide +kernel
theorem dX4_log_140 : decode cX4_log 140 = .ok (.aload_n 0, 1) := by decide +kernel
theorem dX4_log_141 : decode cX4_log 141 = .ok (.getfield 13, 3) := by decide +kernel
theorem dX4_log_144 : decode cX4_log 144 = .ok (.aload_n 0, 1) := by decide +kernel
theorem dX4_log_145 : decode cX4_log 145 = .ok (.getfield 42, 3) := by decide +kernel
theorem dX4_log_148 : decode cX4_log 148 = .ok (.iload_n 2, 1) := by decide +kernel
theorem dX4_log_149 : decode cX4_log 149 = .ok (.iastore, 1) := by decide +kernel
theorem dX4_log_150 : decode cX4_log 150 = .ok (.aload_n 0, 1) := by decide +kernel
theorem dX4_log_151 : decode cX4_log 151 = .ok (.getfield 16, 3) := by decide +kernel
theorem dX4_log_154 : decode cX4_log 154 = .ok (.aload_n 0, 1) := by decide +kernel
theorem dX4_log_155 : decode cX4_log 155 = .ok (.getfield 42, 3) := by decide +kernel
theorem dX4_log_158 : decode cX4_log 158 = .ok (.iload_n 3, 1) := by decide +kernel
theorem dX4_log_159 : decode cX4_log 159 = .ok (.iastore, 1) := by decide +kernel
theorem dX4_log_160 : decode cX4_log 160 = .ok (.aload_n 0, 1) := by decide +kernel
theorem dX4_log_161 : decode cX4_log 161 = .ok (.getfield 19, 3) := by decide +kernel
theorem dX4_log_164 : decode cX4_log 164 = .ok (.aload_n 0, 1) := by decide +kernel
theorem dX4_log_165 : decode cX4_log 165 = .ok (.getfield 42, 3) := by decide +kernel
theorem dX4_log_168 : decode cX4_log 168 = .ok (.iload 4, 2) := by decide +kernel
theorem dX4_log_170 : decode cX4_log 170 = .ok (.iastore, 1) := by decide +kernel
theorem dX4_log_171 : decode cX4_log 171 = .ok (.aload_n 0, 1) := by decide +kernel
theorem dX4_log_172 : decode cX4_log 172 = .ok (.getfield 22, 3) := by decide +kernel
theorem dX4_log_175 : decode cX4_log 175 = .ok (.aload_n 0, 1) := by decide +kernel
theorem dX4_log_176 : decode cX4_log 176 = .ok (.getfield 42, 3) := by decide +kernel
theorem dX4_log_179 : decode cX4_log 179 = .ok (.iload 5, 2) := by decide +kernel
theorem dX4_log_181 : decode cX4_log 181 = .ok (.iastore, 1) := by decide +kernel
theorem dX4_log_182 : decode cX4_log 182 = .ok (.aload_n 0, 1) := by decide +kernel
theorem dX4_log_183 : decode cX4_log 183 = .ok (.dup, 1) := by decide +kernel
theorem dX4_log_184 : decode cX4_log 184 = .ok (.getfield 42, 3) := by decide +kernel
theorem dX4_log_187 : decode cX4_log 187 = .ok (.iconst 1, 1) := by decide +kernel
theorem dX4_log_188 : decode cX4_log 188 = .ok (.iadd, 1) := by decide +kernel
theorem dX4_log_189 : decode cX4_log 189 = .ok (.putfield 42, 3) := by decide +kernel
theorem dX4_log_192 : decode cX4_log 192 = .ok (.aload_n 0, 1) := by decide +kernel
theorem dX4_log_193 : decode cX4_log 193 = .ok (.getfield 42, 3) := by decide +kernel
theorem dX4_log_196 : decode cX4_log 196 = .ok (.iconst 1, 1) := by decide +kernel
theorem dX4_log_197 : decode cX4_log 197 = .ok (.isub, 1) := by decide +kernel
theorem dX4_log_198 : decode cX4_log 198 = .ok (.ireturn, 1) := by decide +kernel
set_option maxRecDepth 20000 in
theorem ggX4_setFaults_X4_in : GoodIn wsX4_setFaults wsX4_in := goodIn_r _ [7] (by decide +kernel) (by decide +kernel)
set_option maxRecDepth 20000 in
theorem gX4_setFaults_X4_in : GoodIn wsX4_setFaults (va_wsS RX4 38 yX4_in wsX4_in) := goodIn_app (goodIn_of _ (by decide +kernel)) ggX4_setFaults_X4_in
set_option maxRecDepth 20000 in
theorem ggX4_setFaults_X4_refused : GoodIn wsX4_setFaults wsX4_refused := goodIn_r _ [11, 12, 13, 14, 15, 16, 17, 18, 19, 20, 21, 22, 23, 24] (by decide +kernel) (by decide +kernel)
set_option maxRecDepth 20000 in
theorem gX4_setFaults_X4_refused : GoodIn wsX4_setFaults (wsV RX4 45 RX4 yX4_refused wsX4_refused) := goodIn_app (goodIn_of _ (by decide +kernel)) ggX4_setFaults_X4_refused
theorem dX4_setFaults_0 : decode cX4_setFaults 0 = .ok (.aload_n 0, 1) := by decide +kernel
theorem dX4_setFaults_1 : decode cX4_setFaults 1 = .ok (.iload_n 1, 1) := by decide +kernel
theorem dX4_setFaults_2 : decode cX4_setFaults 2 = .ok (.sipush 500, 3) := by decide +kernel
theorem dX4_setFaults_5 : decode cX4_setFaults 5 = .ok (.sipush 1500, 3) := by decide +kernel
theorem dX4_setFaults_8 : decode cX4_setFaults 8 = .ok (.invokestatic 38, 3) := by decide +kernel
theorem dX4_setFaults_11 : decode cX4_setFaults 11 = .ok (.ifCond .eq 29, 3) := by decide +kernel
theorem dX4_setFaults_14 : decode cX4_setFaults 14 = .ok (.iload_n 2, 1) := by decide +kernel
theorem dX4_setFaults_15 : decode cX4_setFaults 15 = .ok (.bipush (-20), 2) := by decide +kernel
theorem dX4_setFaults_17 : decode cX4_setFaults 17 = .ok (.bipush 20, 2) := by decide +kernel
theorem dX4_setFaults_19 : decode cX4_setFaults 19 = .ok (.invokestatic 38, 3) := by decide +kernel
theorem dX4_setFaults_22 : decode cX4_setFaults 22 = .ok (.ifCond .eq 18, 3) := by decide +kernel
theorem dX4_setFaults_25 : decode cX4_setFaults 25 = .ok (.iload_n 3, 1) := by decide +kernel
theorem dX4_setFaults_26 : decode cX4_setFaults 26 = .ok (.bipush (-20), 2) := by decide +kernel
theorem dX4_setFaults_28 : decode cX4_setFaults 28 = .ok (.bipush 20, 2) := by decide +kernel
theorem dX4_setFaults_30 : decode cX4_setFaults 30 = .ok (.invokestatic 38, 3) := by decide +kernel
theorem dX4_setFaults_33 : decode cX4_setFaults 33 = .ok (.ifCond .eq 7, 3) := by decide +kernel
theorem dX4_setFaults_36 : decode cX4_setFaults 36 = .ok (.iconst 0, 1) := by decide +kernel
theorem dX4_setFaults_37 : decode cX4_setFaults 37 = .ok (.goto 4, 3) := by decide +kernel
theorem dX4_setFaults_40 : decode cX4_setFaults 40 = .ok (.iconst 1, 1) := by decide +kernel
theorem dX4_setFaults_41 : decode cX4_setFaults 41 = .ok (.invokevirtual 45, 3) := by decide +kernel
theorem dX4_setFaults_44 : decode cX4_setFaults 44 = .ok (.ifCond .eq 5, 3) := by decide +kernel
theorem dX4_setFaults_47 : decode cX4_setFaults 47 = .ok (.iconst 0, 1) := by decide +kernel
theorem dX4_setFaults_48 : decode cX4_setFaults 48 = .ok (.ireturn, 1) := by decide +kernel
theorem dX4_setFaults_49 : decode cX4_setFaults 49 = .ok (.aload_n 0, 1) := by decide +kernel
theorem dX4_setFaults_50 : decode cX4_setFaults 50 = .ok (.getfield 25, 3) := by decide +kernel
theorem dX4_setFaults_53 : decode cX4_setFaults 53 = .ok (.istore 4, 2) := by decide +kernel
theorem dX4_setFaults_55 : decode cX4_setFaults 55 = .ok (.aload_n 0, 1) := by decide +kernel
theorem dX4_setFaults_56 : decode cX4_setFaults 56 = .ok (.iload_n 1, 1) := by decide +kernel
theorem dX4_setFaults_57 : decode cX4_setFaults 57 = .ok (.putfield 25, 3) := by decide +kernel
theorem dX4_setFaults_60 : decode cX4_setFaults 60 = .ok (.aload_n 0, 1) := by decide +kernel
theorem dX4_setFaults_61 : decode cX4_setFaults 61 = .ok (.iload_n 2, 1) := by decide +kernel
theorem dX4_setFaults_62 : decode cX4_setFaults 62 = .ok (.putfield 49, 3) := by decide +kernel
theorem dX4_setFaults_65 : decode cX4_setFaults 65 = .ok (.aload_n 0, 1) := by decide +kernel
theorem dX4_setFaults_66 : decode cX4_setFaults 66 = .ok (.iload_n 3, 1) := by decide +kernel
theorem dX4_setFaults_67 : decode cX4_setFaults 67 = .ok (.putfield 52, 3) := by decide +kernel
theorem dX4_setFaults_70 : decode cX4_setFaults 70 = .ok (.iload 4, 2) := by decide +kernel
theorem dX4_setFaults_72 : decode cX4_setFaults 72 = .ok (.ireturn, 1) := by decide +kernel
set_option maxRecDepth 20000 in
theorem ggX4_setTide_X4_in : GoodIn wsX4_setTide wsX4_in := goodIn_r _ [6] (by decide +kernel) (by decide +kernel)
set_option maxRecDepth 20000 in
theorem gX4_setTide_X4_in : GoodIn wsX4_setTide (va_wsS RX4 38 yX4_in wsX4_in) := goodIn_app (goodIn_of _ (by decide +kernel)) ggX4_setTide_X4_in
set_option maxRecDepth 20000 in
theorem ggX4_setTide_X4_refused : GoodIn wsX4_setTide wsX4_refused := goodIn_r _ [10, 11, 12, 13, 14, 15, 16, 17, 18, 19, 20, 21, 22, 23] (by decide +kernel) (by decide +kernel)
set_option maxRecDepth 20000 in
theorem gX4_setTide_X4_refused : GoodIn wsX4_setTide (wsV RX4 45 RX4 yX4_refused wsX4_refused) := goodIn_app (goodIn_of _ (by decide +kernel)) ggX4_setTide_X4_refused
theorem dX4_setTide_0 : decode cX4_setTide 0 = .ok (.aload_n 0, 1) := by decide +kernel
theorem dX4_setTide_1 : decode cX4_setTide 1 = .ok (.iload_n 1, 1) := by decide +kernel
theorem dX4_setTide_2 : decode cX4_setTide 2 = .ok (.iconst 0, 1) := by decide +kernel
theorem dX4_setTide_3 : decode cX4_setTide 3 = .ok (.bipush 23, 2) := by decide +kernel
theorem dX4_setTide_5 : decode cX4_setTide 5 = .ok (.invokestatic 38, 3) := by decide +kernel
theorem dX4_setTide_8 : decode cX4_setTide 8 = .ok (.ifCond .ne 7, 3) := by decide +kernel
theorem dX4_setTide_11 : decode cX4_setTide 11 = .ok (.iconst 1, 1) := by decide +kernel
theorem dX4_setTide_12 : decode cX4_setTide 12 = .ok (.goto 29, 3) := by decide +kernel
theorem dX4_setTide_15 : decode cX4_setTide 15 = .ok (.iload_n 2, 1) := by decide +kernel
theorem dX4_setTide_16 : decode cX4_setTide 16 = .ok (.iconst 0, 1) := by decide +kernel
theorem dX4_setTide_17 : decode cX4_setTide 17 = .ok (.sipush 359, 3) := by decide +kernel
theorem dX4_setTide_20 : decode cX4_setTide 20 = .ok (.invokestatic 38, 3) := by decide +kernel
theorem dX4_setTide_23 : decode cX4_setTide 23 = .ok (.ifCond .eq 17, 3) := by decide +kernel
theorem dX4_setTide_26 : decode cX4_setTide 26 = .ok (.iload_n 3, 1) := by decide +kernel
theorem dX4_setTide_27 : decode cX4_setTide 27 = .ok (.iconst 0, 1) := by decide +kernel
theorem dX4_setTide_28 : decode cX4_setTide 28 = .ok (.bipush 100, 2) := by decide +kernel
theorem dX4_setTide_30 : decode cX4_setTide 30 = .ok (.invokestatic 38, 3) := by decide +kernel
theorem dX4_setTide_33 : decode cX4_setTide 33 = .ok (.ifCond .eq 7, 3) := by decide +kernel
theorem dX4_setTide_36 : decode cX4_setTide 36 = .ok (.iconst 0, 1) := by decide +kernel
theorem dX4_setTide_37 : decode cX4_setTide 37 = .ok (.goto 4, 3) := by decide +kernel
theorem dX4_setTide_40 : decode cX4_setTide 40 = .ok (.iconst 2, 1) := by decide +kernel
theorem dX4_setTide_41 : decode cX4_setTide 41 = .ok (.invokevirtual 45, 3) := by decide +kernel
theorem dX4_setTide_44 : decode cX4_setTide 44 = .ok (.ifCond .eq 5, 3) := by decide +kernel
theorem dX4_setTide_47 : decode cX4_setTide 47 = .ok (.iconst 0, 1) := by decide +kernel
theorem dX4_setTide_48 : decode cX4_setTide 48 = .ok (.ireturn, 1) := by decide +kernel
theorem dX4_setTide_49 : decode cX4_setTide 49 = .ok (.aload_n 0, 1) := by decide +kernel
theorem dX4_setTide_50 : decode cX4_setTide 50 = .ok (.getfield 32, 3) := by decide +kernel
theorem dX4_setTide_53 : decode cX4_setTide 53 = .ok (.iload_n 1, 1) := by decide +kernel
theorem dX4_setTide_54 : decode cX4_setTide 54 = .ok (.iaload, 1) := by decide +kernel
theorem dX4_setTide_55 : decode cX4_setTide 55 = .ok (.istore 4, 2) := by decide +kernel
theorem dX4_setTide_57 : decode cX4_setTide 57 = .ok (.aload_n 0, 1) := by decide +kernel
theorem dX4_setTide_58 : decode cX4_setTide 58 = .ok (.getfield 29, 3) := by decide +kernel
theorem dX4_setTide_61 : decode cX4_setTide 61 = .ok (.iload_n 1, 1) := by decide +kernel
theorem dX4_setTide_62 : decode cX4_setTide 62 = .ok (.iload_n 2, 1) := by decide +kernel
theorem dX4_setTide_63 : decode cX4_setTide 63 = .ok (.iastore, 1) := by decide +kernel
theorem dX4_setTide_64 : decode cX4_setTide 64 = .ok (.aload_n 0, 1) := by decide +kernel
theorem dX4_setTide_65 : decode cX4_setTide 65 = .ok (.getfield 32, 3) := by decide +kernel
theorem dX4_setTide_68 : decode cX4_setTide 68 = .ok (.iload_n 1, 1) := by decide +kernel
theorem dX4_setTide_69 : decode cX4_setTide 69 = .ok (.iload_n 3, 1) := by decide +kernel
theorem dX4_setTide_70 : decode cX4_setTide 70 = .ok (.iastore, 1) := by decide +kernel
theorem dX4_setTide_71 : decode cX4_setTide 71 = .ok (.iload 4, 2) := by decide +kernel
theorem dX4_setTide_73 : decode cX4_setTide 73 = .ok (.ireturn, 1) := by decide +kernel
theorem dX4_entries_0 : decode cX4_entries 0 = .ok (.aload_n 0, 1) := by decide +kernel
theorem dX4_entries_1 : decode cX4_entries 1 = .ok (.iconst 0, 1) := by decide +kernel
theorem dX4_entries_2 : decode cX4_entries 2 = .ok (.putfield 35, 3) := by decide +kernel
theorem dX4_entries_5 : decode cX4_entries 5 = .ok (.aload_n 0, 1) := by decide +kernel
theorem dX4_entries_6 : decode cX4_entries 6 = .ok (.getfield 42, 3) := by decide +kernel
theorem dX4_entries_9 : decode cX4_entries 9 = .ok (.ireturn, 1) := by decide +kernel
theorem dX4_turned_0 : decode cX4_turned 0 = .ok (.iload_n 0, 1) := by decide +kernel
theorem dX4_turned_1 : decode cX4_turned 1 = .ok (.sipush 360, 3) := by decide +kernel
theorem dX4_turned_4 : decode cX4_turned 4 = .ok (.irem, 1) := by decide +kernel
theorem dX4_turned_5 : decode cX4_turned 5 = .ok (.istore_n 1, 1) := by decide +kernel
theorem dX4_turned_6 : decode cX4_turned 6 = .ok (.iload_n 1, 1) := by decide +kernel
theorem dX4_turned_7 : decode cX4_turned 7 = .ok (.ifCond .ge 11, 3) := by decide +kernel
theorem dX4_turned_10 : decode cX4_turned 10 = .ok (.iload_n 1, 1) := by decide +kernel
theorem dX4_turned_11 : decode cX4_turned 11 = .ok (.sipush 360, 3) := by decide +kernel
theorem dX4_turned_14 : decode cX4_turned 14 = .ok (.iadd, 1) := by decide +kernel
theorem dX4_turned_15 : decode cX4_turned 15 = .ok (.goto 4, 3) := by decide +kernel
theorem dX4_turned_18 : decode cX4_turned 18 = .ok (.iload_n 1, 1) := by decide +kernel
theorem dX4_turned_19 : decode cX4_turned 19 = .ok (.ireturn, 1) := by decide +kernel
set_option maxRecDepth 20000 in
theorem ggX4_sin_X4_turned : GoodIn wsX4_sin wsX4_turned := goodIn_r _ [5] (by decide +kernel) (by decide +kernel)
set_option maxRecDepth 20000 in
theorem gX4_sin_X4_turned : GoodIn wsX4_sin (va_wsS RX4 55 yX4_turned wsX4_turned) := goodIn_app (goodIn_of _ (by decide +kernel)) ggX4_sin_X4_turned
theorem dX4_sin_0 : decode cX4_sin 0 = .ok (.iload_n 0, 1) := by decide +kernel
theorem dX4_sin_1 : decode cX4_sin 1 = .ok (.invokestatic 55, 3) := by decide +kernel
theorem dX4_sin_4 : decode cX4_sin 4 = .ok (.istore_n 1, 1) := by decide +kernel
theorem dX4_sin_5 : decode cX4_sin 5 = .ok (.iload_n 1, 1) := by decide +kernel
theorem dX4_sin_6 : decode cX4_sin 6 = .ok (.sipush 180, 3) := by decide +kernel
theorem dX4_sin_9 : decode cX4_sin 9 = .ok (.irem, 1) := by decide +kernel
theorem dX4_sin_10 : decode cX4_sin 10 = .ok (.istore_n 2, 1) := by decide +kernel
theorem dX4_sin_11 : decode cX4_sin 11 = .ok (.iload_n 2, 1) := by decide +kernel
theorem dX4_sin_12 : decode cX4_sin 12 = .ok (.sipush 180, 3) := by decide +kernel
theorem dX4_sin_15 : decode cX4_sin 15 = .ok (.iload_n 2, 1) := by decide +kernel
theorem dX4_sin_16 : decode cX4_sin 16 = .ok (.isub, 1) := by decide +kernel
theorem dX4_sin_17 : decode cX4_sin 17 = .ok (.imul, 1) := by decide +kernel
theorem dX4_sin_18 : decode cX4_sin 18 = .ok (.istore_n 3, 1) := by decide +kernel
theorem dX4_sin_19 : decode cX4_sin 19 = .ok (.sipush 4000, 3) := by decide +kernel
theorem dX4_sin_22 : decode cX4_sin 22 = .ok (.iload_n 3, 1) := by decide +kernel
theorem dX4_sin_23 : decode cX4_sin 23 = .ok (.imul, 1) := by decide +kernel
theorem dX4_sin_24 : decode cX4_sin 24 = .ok (.ldc 59, 2) := by decide +kernel
theorem dX4_sin_26 : decode cX4_sin 26 = .ok (.iload_n 3, 1) := by decide +kernel
theorem dX4_sin_27 : decode cX4_sin 27 = .ok (.isub, 1) := by decide +kernel
theorem dX4_sin_28 : decode cX4_sin 28 = .ok (.idiv, 1) := by decide +kernel
theorem dX4_sin_29 : decode cX4_sin 29 = .ok (.istore 4, 2) := by decide +kernel
theorem dX4_sin_31 : decode cX4_sin 31 = .ok (.iload_n 1, 1) := by decide +kernel
theorem dX4_sin_32 : decode cX4_sin 32 = .ok (.sipush 180, 3) := by decide +kernel
theorem dX4_sin_35 : decode cX4_sin 35 = .ok (.if_icmp .ge 8, 3) := by decide +kernel
theorem dX4_sin_38 : decode cX4_sin 38 = .ok (.iload 4, 2) := by decide +kernel
theorem dX4_sin_40 : decode cX4_sin 40 = .ok (.goto 6, 3) := by decide +kernel
theorem dX4_sin_43 : decode cX4_sin 43 = .ok (.iload 4, 2) := by decide +kernel
theorem dX4_sin_45 : decode cX4_sin 45 = .ok (.ineg, 1) := by decide +kernel
theorem dX4_sin_46 : decode cX4_sin 46 = .ok (.ireturn, 1) := by decide +kernel
set_option maxRecDepth 20000 in
theorem ggX4_cos_X4_turned : GoodIn wsX4_cos wsX4_turned := goodIn_r _ [4] (by decide +kernel) (by decide +kernel)
set_option maxRecDepth 20000 in
theorem gX4_cos_X4_turned : GoodIn wsX4_cos (va_wsS RX4 55 yX4_turned wsX4_turned) := goodIn_app (goodIn_of _ (by decide +kernel)) ggX4_cos_X4_turned
set_option maxRecDepth 20000 in
theorem ggX4_cos_X4_sin : GoodIn wsX4_cos wsX4_sin := goodIn_r _ [7, 8, 1, 2, 3, 4] (by decide +kernel) (by decide +kernel)
set_option maxRecDepth 20000 in
theorem gX4_cos_X4_sin : GoodIn wsX4_cos (va_wsS RX4 60 yX4_sin wsX4_sin) := goodIn_app (goodIn_of _ (by decide +kernel)) ggX4_cos_X4_sin
theorem dX4_cos_0 : decode cX4_cos 0 = .ok (.iload_n 0, 1) := by decide +kernel
theorem dX4_cos_1 : decode cX4_cos 1 = .ok (.invokestatic 55, 3) := by decide +kernel
theorem dX4_cos_4 : decode cX4_cos 4 = .ok (.bipush 90, 2) := by decide +kernel
theorem dX4_cos_6 : decode cX4_cos 6 = .ok (.iadd, 1) := by decide +kernel
theorem dX4_cos_7 : decode cX4_cos 7 = .ok (.invokestatic 60, 3) := by decide +kernel
theorem dX4_cos_10 : decode cX4_cos 10 = .ok (.ireturn, 1) := by decide +kernel
set_option maxRecDepth 20000 in
theorem ggX4_sine_X4_sin : GoodIn wsX4_sine wsX4_sin := goodIn_r _ [5, 6, 7, 8, 4, 9] (by decide +kernel) (by decide +kernel)
set_option maxRecDepth 20000 in
theorem gX4_sine_X4_sin : GoodIn wsX4_sine (va_wsS RX4 60 yX4_sin wsX4_sin) := goodIn_app (goodIn_of _ (by decide +kernel)) ggX4_sine_X4_sin
theorem dX4_sine_0 : decode cX4_sine 0 = .ok (.aload_n 0, 1) := by decide +kernel
theorem dX4_sine_1 : decode cX4_sine 1 = .ok (.iconst 0, 1) := by decide +kernel
theorem dX4_sine_2 : decode cX4_sine 2 = .ok (.putfield 35, 3) := by decide +kernel
theorem dX4_sine_5 : decode cX4_sine 5 = .ok (.iload_n 1, 1) := by decide +kernel
theorem dX4_sine_6 : decode cX4_sine 6 = .ok (.invokestatic 60, 3) := by decide +kernel
theorem dX4_sine_9 : decode cX4_sine 9 = .ok (.ireturn, 1) := by decide +kernel
theorem dX4_trueSpeed_0 : decode cX4_trueSpeed 0 = .ok (.aload_n 0, 1) := by decide +kernel
theorem dX4_trueSpeed_1 : decode cX4_trueSpeed 1 = .ok (.getfield 13, 3) := by decide +kernel
theorem dX4_trueSpeed_4 : decode cX4_trueSpeed 4 = .ok (.iload_n 1, 1) := by decide +kernel
theorem dX4_trueSpeed_5 : decode cX4_trueSpeed 5 = .ok (.iaload, 1) := by decide +kernel
theorem dX4_trueSpeed_6 : decode cX4_trueSpeed 6 = .ok (.aload_n 0, 1) := by decide +kernel
theorem dX4_trueSpeed_7 : decode cX4_trueSpeed 7 = .ok (.getfield 25, 3) := by decide +kernel
theorem dX4_trueSpeed_10 : decode cX4_trueSpeed 10 = .ok (.imul, 1) := by decide +kernel
theorem dX4_trueSpeed_11 : decode cX4_trueSpeed 11 = .ok (.sipush 1000, 3) := by decide +kernel
theorem dX4_trueSpeed_14 : decode cX4_trueSpeed 14 = .ok (.idiv, 1) := by decide +kernel
theorem dX4_trueSpeed_15 : decode cX4_trueSpeed 15 = .ok (.ireturn, 1) := by decide +kernel
set_option maxRecDepth 20000 in
theorem ggX4_trueHeading_X4_turned : GoodIn wsX4_trueHeading wsX4_turned := goodIn_r _ [6] (by decide +kernel) (by decide +kernel)
set_option maxRecDepth 20000 in
theorem gX4_trueHeading_X4_turned : GoodIn wsX4_trueHeading (va_wsS RX4 55 yX4_turned wsX4_turned) := goodIn_app (goodIn_of _ (by decide +kernel)) ggX4_trueHeading_X4_turned
theorem dX4_trueHeading_0 : decode cX4_trueHeading 0 = .ok (.aload_n 0, 1) := by decide +kernel
theorem dX4_trueHeading_1 : decode cX4_trueHeading 1 = .ok (.getfield 16, 3) := by decide +kernel
theorem dX4_trueHeading_4 : decode cX4_trueHeading 4 = .ok (.iload_n 1, 1) := by decide +kernel
theorem dX4_trueHeading_5 : decode cX4_trueHeading 5 = .ok (.iaload, 1) := by decide +kernel
theorem dX4_trueHeading_6 : decode cX4_trueHeading 6 = .ok (.aload_n 0, 1) := by decide +kernel
theorem dX4_trueHeading_7 : decode cX4_trueHeading 7 = .ok (.getfield 49, 3) := by decide +kernel
theorem dX4_trueHeading_10 : decode cX4_trueHeading 10 = .ok (.iadd, 1) := by decide +kernel
theorem dX4_trueHeading_11 : decode cX4_trueHeading 11 = .ok (.invokestatic 55, 3) := by decide +kernel
theorem dX4_trueHeading_14 : decode cX4_trueHeading 14 = .ok (.ireturn, 1) := by decide +kernel
set_option maxRecDepth 20000 in
theorem ggX4_ahead_X4_cos : GoodIn wsX4_ahead wsX4_cos := goodIn_r _ [8, 9, 10, 7, 11, 12, 13, 14, 15] (by decide +kernel) (by decide +kernel)
set_option maxRecDepth 20000 in
theorem gX4_ahead_X4_cos : GoodIn wsX4_ahead (va_wsS RX4 63 yX4_cos wsX4_cos) := goodIn_app (goodIn_of _ (by decide +kernel)) ggX4_ahead_X4_cos
set_option maxRecDepth 20000 in
theorem ggX4_ahead_X4_trueSpeed : GoodIn wsX4_ahead wsX4_trueSpeed := goodIn_r _ [19, 20, 21, 22, 23, 24, 25, 26, 27, 28, 29, 30, 31, 32, 33] (by decide +kernel) (by decide +kernel)
set_option maxRecDepth 20000 in
theorem gX4_ahead_X4_trueSpeed : GoodIn wsX4_ahead (wsV RX4 68 RX4 yX4_trueSpeed wsX4_trueSpeed) := goodIn_app (goodIn_of _ (by decide +kernel)) ggX4_ahead_X4_trueSpeed
theorem dX4_ahead_0 : decode cX4_ahead 0 = .ok (.aload_n 0, 1) := by decide +kernel
theorem dX4_ahead_1 : decode cX4_ahead 1 = .ok (.getfield 19, 3) := by decide +kernel
theorem dX4_ahead_4 : decode cX4_ahead 4 = .ok (.iload_n 1, 1) := by decide +kernel
theorem dX4_ahead_5 : decode cX4_ahead 5 = .ok (.iaload, 1) := by decide +kernel
theorem dX4_ahead_6 : decode cX4_ahead 6 = .ok (.i2l, 1) := by decide +kernel
theorem dX4_ahead_7 : decode cX4_ahead 7 = .ok (.aload_n 0, 1) := by decide +kernel
theorem dX4_ahead_8 : decode cX4_ahead 8 = .ok (.getfield 22, 3) := by decide +kernel
theorem dX4_ahead_11 : decode cX4_ahead 11 = .ok (.iload_n 1, 1) := by decide +kernel
theorem dX4_ahead_12 : decode cX4_ahead 12 = .ok (.iaload, 1) := by decide +kernel
theorem dX4_ahead_13 : decode cX4_ahead 13 = .ok (.aload_n 0, 1) := by decide +kernel
theorem dX4_ahead_14 : decode cX4_ahead 14 = .ok (.getfield 52, 3) := by decide +kernel
theorem dX4_ahead_17 : decode cX4_ahead 17 = .ok (.iadd, 1) := by decide +kernel
theorem dX4_ahead_18 : decode cX4_ahead 18 = .ok (.invokestatic 63, 3) := by decide +kernel
theorem dX4_ahead_21 : decode cX4_ahead 21 = .ok (.i2l, 1) := by decide +kernel
theorem dX4_ahead_22 : decode cX4_ahead 22 = .ok (.lmul, 1) := by decide +kernel
theorem dX4_ahead_23 : decode cX4_ahead 23 = .ok (.ldc2_w 66, 3) := by decide +kernel
theorem dX4_ahead_26 : decode cX4_ahead 26 = .ok (.aload_n 0, 1) := by decide +kernel
theorem dX4_ahead_27 : decode cX4_ahead 27 = .ok (.iload_n 1, 1) := by decide +kernel
theorem dX4_ahead_28 : decode cX4_ahead 28 = .ok (.invokevirtual 68, 3) := by decide +kernel
theorem dX4_ahead_31 : decode cX4_ahead 31 = .ok (.i2l, 1) := by decide +kernel
theorem dX4_ahead_32 : decode cX4_ahead 32 = .ok (.lmul, 1) := by decide +kernel
theorem dX4_ahead_33 : decode cX4_ahead 33 = .ok (.lsub, 1) := by decide +kernel
theorem dX4_ahead_34 : decode cX4_ahead 34 = .ok (.lreturn, 1) := by decide +kernel
set_option maxRecDepth 20000 in
theorem ggX4_across_X4_sin : GoodIn wsX4_across wsX4_sin := goodIn_r _ [7, 8, 9, 10, 6, 11] (by decide +kernel) (by decide +kernel)
set_option maxRecDepth 20000 in
theorem gX4_across_X4_sin : GoodIn wsX4_across (va_wsS RX4 60 yX4_sin wsX4_sin) := goodIn_app (goodIn_of _ (by decide +kernel)) ggX4_across_X4_sin
theorem dX4_across_0 : decode cX4_across 0 = .ok (.aload_n 0, 1) := by decide +kernel
theorem dX4_across_1 : decode cX4_across 1 = .ok (.getfield 19, 3) := by decide +kernel
theorem dX4_across_4 : decode cX4_across 4 = .ok (.iload_n 1, 1) := by decide +kernel
theorem dX4_across_5 : decode cX4_across 5 = .ok (.iaload, 1) := by decide +kernel
theorem dX4_across_6 : decode cX4_across 6 = .ok (.i2l, 1) := by decide +kernel
theorem dX4_across_7 : decode cX4_across 7 = .ok (.aload_n 0, 1) := by decide +kernel
theorem dX4_across_8 : decode cX4_across 8 = .ok (.getfield 22, 3) := by decide +kernel
theorem dX4_across_11 : decode cX4_across 11 = .ok (.iload_n 1, 1) := by decide +kernel
theorem dX4_across_12 : decode cX4_across 12 = .ok (.iaload, 1) := by decide +kernel
theorem dX4_across_13 : decode cX4_across 13 = .ok (.aload_n 0, 1) := by decide +kernel
theorem dX4_across_14 : decode cX4_across 14 = .ok (.getfield 52, 3) := by decide +kernel
theorem dX4_across_17 : decode cX4_across 17 = .ok (.iadd, 1) := by decide +kernel
theorem dX4_across_18 : decode cX4_across 18 = .ok (.invokestatic 60, 3) := by decide +kernel
theorem dX4_across_21 : decode cX4_across 21 = .ok (.i2l, 1) := by decide +kernel
theorem dX4_across_22 : decode cX4_across 22 = .ok (.lmul, 1) := by decide +kernel
theorem dX4_across_23 : decode cX4_across 23 = .ok (.lreturn, 1) := by decide +kernel
theorem dX4_root_0 : decode cX4_root 0 = .ok (.lconst 0, 1) := by decide +kernel
theorem dX4_root_1 : decode cX4_root 1 = .ok (.lstore_n 2, 1) := by decide +kernel
theorem dX4_root_2 : decode cX4_root 2 = .ok (.ldc2_w 71, 3) := by decide +kernel
theorem dX4_root_5 : decode cX4_root 5 = .ok (.lstore 4, 2) := by decide +kernel
theorem dX4_root_7 : decode cX4_root 7 = .ok (.lload_n 2, 1) := by decide +kernel
theorem dX4_root_8 : decode cX4_root 8 = .ok (.lload 4, 2) := by decide +kernel
theorem dX4_root_10 : decode cX4_root 10 = .ok (.lcmp, 1) := by decide +kernel
theorem dX4_root_11 : decode cX4_root 11 = .ok (.ifCond .ge 40, 3) := by decide +kernel
theorem dX4_root_14 : decode cX4_root 14 = .ok (.lload_n 2, 1) := by decide +kernel
theorem dX4_root_15 : decode cX4_root 15 = .ok (.lload 4, 2) := by decide +kernel
theorem dX4_root_17 : decode cX4_root 17 = .ok (.ladd, 1) := by decide +kernel
theorem dX4_root_18 : decode cX4_root 18 = .ok (.lconst 1, 1) := by decide +kernel
theorem dX4_root_19 : decode cX4_root 19 = .ok (.ladd, 1) := by decide +kernel
theorem dX4_root_20 : decode cX4_root 20 = .ok (.ldc2_w 73, 3) := by decide +kernel
theorem dX4_root_23 : decode cX4_root 23 = .ok (.ldiv, 1) := by decide +kernel
theorem dX4_root_24 : decode cX4_root 24 = .ok (.lstore 6, 2) := by decide +kernel
theorem dX4_root_26 : decode cX4_root 26 = .ok (.lload 6, 2) := by decide +kernel
theorem dX4_root_28 : decode cX4_root 28 = .ok (.lload 6, 2) := by decide +kernel
theorem dX4_root_30 : decode cX4_root 30 = .ok (.lmul, 1) := by decide +kernel
theorem dX4_root_31 : decode cX4_root 31 = .ok (.lload_n 0, 1) := by decide +kernel
theorem dX4_root_32 : decode cX4_root 32 = .ok (.lcmp, 1) := by decide +kernel
theorem dX4_root_33 : decode cX4_root 33 = .ok (.ifCond .gt 9, 3) := by decide +kernel
theorem dX4_root_36 : decode cX4_root 36 = .ok (.lload 6, 2) := by decide +kernel
theorem dX4_root_38 : decode cX4_root 38 = .ok (.lstore_n 2, 1) := by decide +kernel
theorem dX4_root_39 : decode cX4_root 39 = .ok (.goto 9, 3) := by decide +kernel
theorem dX4_root_42 : decode cX4_root 42 = .ok (.lload 6, 2) := by decide +kernel
theorem dX4_root_44 : decode cX4_root 44 = .ok (.lconst 1, 1) := by decide +kernel
theorem dX4_root_45 : decode cX4_root 45 = .ok (.lsub, 1) := by decide +kernel
theorem dX4_root_46 : decode cX4_root 46 = .ok (.lstore 4, 2) := by decide +kernel
theorem dX4_root_48 : decode cX4_root 48 = .ok (.goto (-41), 3) := by decide +kernel
theorem dX4_root_51 : decode cX4_root 51 = .ok (.lload_n 2, 1) := by decide +kernel
theorem dX4_root_52 : decode cX4_root 52 = .ok (.lreturn, 1) := by decide +kernel
set_option maxRecDepth 20000 in
theorem ggX4_strengthOf_X4_ahead : GoodIn wsX4_strengthOf wsX4_ahead := goodIn_r _ [6, 7, 8, 9, 1, 10, 11, 5, 12, 13, 14, 15, 16, 17, 18, 19, 20, 21, 22, 23, 24, 25, 35, 36, 37, 38, 39, 40, 41, 42, 43, 44, 45, 46] (by decide +kernel) (by decide +kernel)
set_option maxRecDepth 20000 in
theorem gX4_strengthOf_X4_ahead : GoodIn wsX4_strengthOf (wsV RX4 75 RX4 yX4_ahead wsX4_ahead) := goodIn_app (goodIn_of _ (by decide +kernel)) ggX4_strengthOf_X4_ahead
set_option maxRecDepth 20000 in
theorem ggX4_strengthOf_X4_across : GoodIn wsX4_strengthOf wsX4_across := goodIn_r _ [29, 7, 8, 9, 16, 17, 5, 18, 19, 13, 14, 15, 35, 36, 37, 38, 39, 40, 41, 42, 43, 44, 45, 46] (by decide +kernel) (by decide +kernel)
set_option maxRecDepth 20000 in
theorem gX4_strengthOf_X4_across : GoodIn wsX4_strengthOf (wsV RX4 79 RX4 yX4_across wsX4_across) := goodIn_app (goodIn_of _ (by decide +kernel)) ggX4_strengthOf_X4_across
set_option maxRecDepth 20000 in
theorem ggX4_strengthOf_X4_root : GoodIn wsX4_strengthOf wsX4_root := goodIn_r _ [32, 33, 34] (by decide +kernel) (by decide +kernel)
set_option maxRecDepth 20000 in
theorem gX4_strengthOf_X4_root : GoodIn wsX4_strengthOf (va_wsS RX4 82 yX4_root wsX4_root) := goodIn_app (goodIn_of _ (by decide +kernel)) ggX4_strengthOf_X4_root
theorem dX4_strengthOf_0 : decode cX4_strengthOf 0 = .ok (.aload_n 0, 1) := by decide +kernel
theorem dX4_strengthOf_1 : decode cX4_strengthOf 1 = .ok (.iload_n 1, 1) := by decide +kernel
theorem dX4_strengthOf_2 : decode cX4_strengthOf 2 = .ok (.invokevirtual 75, 3) := by decide +kernel
theorem dX4_strengthOf_5 : decode cX4_strengthOf 5 = .ok (.lstore_n 2, 1) := by decide +kernel
theorem dX4_strengthOf_6 : decode cX4_strengthOf 6 = .ok (.aload_n 0, 1) := by decide +kernel
theorem dX4_strengthOf_7 : decode cX4_strengthOf 7 = .ok (.iload_n 1, 1) := by decide +kernel
theorem dX4_strengthOf_8 : decode cX4_strengthOf 8 = .ok (.invokevirtual 79, 3) := by decide +kernel
theorem dX4_strengthOf_11 : decode cX4_strengthOf 11 = .ok (.lstore 4, 2) := by decide +kernel
theorem dX4_strengthOf_13 : decode cX4_strengthOf 13 = .ok (.lload_n 2, 1) := by decide +kernel
theorem dX4_strengthOf_14 : decode cX4_strengthOf 14 = .ok (.lload_n 2, 1) := by decide +kernel
theorem dX4_strengthOf_15 : decode cX4_strengthOf 15 = .ok (.lmul, 1) := by decide +kernel
theorem dX4_strengthOf_16 : decode cX4_strengthOf 16 = .ok (.lload 4, 2) := by decide +kernel
theorem dX4_strengthOf_18 : decode cX4_strengthOf 18 = .ok (.lload 4, 2) := by decide +kernel
theorem dX4_strengthOf_20 : decode cX4_strengthOf 20 = .ok (.lmul, 1) := by decide +kernel
theorem dX4_strengthOf_21 : decode cX4_strengthOf 21 = .ok (.ladd, 1) := by decide +kernel
theorem dX4_strengthOf_22 : decode cX4_strengthOf 22 = .ok (.invokestatic 82, 3) := by decide +kernel
theorem dX4_strengthOf_25 : decode cX4_strengthOf 25 = .ok (.ldc2_w 66, 3) := by decide +kernel
theorem dX4_strengthOf_28 : decode cX4_strengthOf 28 = .ok (.ldiv, 1) := by decide +kernel
theorem dX4_strengthOf_29 : decode cX4_strengthOf 29 = .ok (.l2i, 1) := by decide +kernel
theorem dX4_strengthOf_30 : decode cX4_strengthOf 30 = .ok (.ireturn, 1) := by decide +kernel
set_option maxRecDepth 20000 in
theorem ggX4_angleOf_X4_ahead : GoodIn wsX4_angleOf wsX4_ahead := goodIn_r _ [5, 6, 7, 8, 9, 10, 11, 4, 12, 13, 14, 15, 16, 17, 18, 19, 20, 21, 22, 23, 24, 25, 30, 31, 32, 33, 34, 35, 36, 37, 38, 39, 40, 41] (by decide +kernel) (by decide +kernel)
set_option maxRecDepth 20000 in
theorem gX4_angleOf_X4_ahead : GoodIn wsX4_angleOf (wsV RX4 75 RX4 yX4_ahead wsX4_ahead) := goodIn_app (goodIn_of _ (by decide +kernel)) ggX4_angleOf_X4_ahead
set_option maxRecDepth 20000 in
theorem ggX4_angleOf_X4_across : GoodIn wsX4_angleOf wsX4_across := goodIn_r _ [29, 6, 7, 8, 16, 17, 4, 18, 19, 13, 14, 15, 30, 31, 32, 33, 34, 35, 36, 37, 38, 39, 40, 41] (by decide +kernel) (by decide +kernel)
set_option maxRecDepth 20000 in
theorem gX4_angleOf_X4_across : GoodIn wsX4_angleOf (wsV RX4 79 RX4 yX4_across wsX4_across) := goodIn_app (goodIn_of _ (by decide +kernel)) ggX4_angleOf_X4_across
set_option maxRecDepth 20000 in
theorem ggX4_angleOf_X4_cos : GoodIn wsX4_angleOf wsX4_cos := goodIn_r _ [12, 13, 14, 4, 15, 16, 17, 18, 19] (by decide +kernel) (by decide +kernel)
set_option maxRecDepth 20000 in
theorem gX4_angleOf_X4_cos : GoodIn wsX4_angleOf (va_wsS RX4 63 yX4_cos wsX4_cos) := goodIn_app (goodIn_of _ (by decide +kernel)) ggX4_angleOf_X4_cos
set_option maxRecDepth 20000 in
theorem ggX4_angleOf_X4_sin : GoodIn wsX4_angleOf wsX4_sin := goodIn_r _ [18, 19, 13, 14, 4, 15] (by decide +kernel) (by decide +kernel)
set_option maxRecDepth 20000 in
theorem gX4_angleOf_X4_sin : GoodIn wsX4_angleOf (va_wsS RX4 60 yX4_sin wsX4_sin) := goodIn_app (goodIn_of _ (by decide +kernel)) ggX4_angleOf_X4_sin
theorem dX4_angleOf_0 : decode cX4_angleOf 0 = .ok (.aload_n 0, 1) := by decide +kernel
theorem dX4_angleOf_1 : decode cX4_angleOf 1 = .ok (.iload_n 1, 1) := by decide +kernel
theorem dX4_angleOf_2 : decode cX4_angleOf 2 = .ok (.invokevirtual 75, 3) := by decide +kernel
theorem dX4_angleOf_5 : decode cX4_angleOf 5 = .ok (.lstore_n 2, 1) := by decide +kernel
theorem dX4_angleOf_6 : decode cX4_angleOf 6 = .ok (.aload_n 0, 1) := by decide +kernel
theorem dX4_angleOf_7 : decode cX4_angleOf 7 = .ok (.iload_n 1, 1) := by decide +kernel
theorem dX4_angleOf_8 : decode cX4_angleOf 8 = .ok (.invokevirtual 79, 3) := by decide +kernel
theorem dX4_angleOf_11 : decode cX4_angleOf 11 = .ok (.lstore 4, 2) := by decide +kernel
theorem dX4_angleOf_13 : decode cX4_angleOf 13 = .ok (.iconst 0, 1) := by decide +kernel
theorem dX4_angleOf_14 : decode cX4_angleOf 14 = .ok (.istore 6, 2) := by decide +kernel
theorem dX4_angleOf_16 : decode cX4_angleOf 16 = .ok (.lload_n 2, 1) := by decide +kernel
theorem dX4_angleOf_17 : decode cX4_angleOf 17 = .ok (.iconst 0, 1) := by decide +kernel
theorem dX4_angleOf_18 : decode cX4_angleOf 18 = .ok (.invokestatic 63, 3) := by decide +kernel
theorem dX4_angleOf_21 : decode cX4_angleOf 21 = .ok (.i2l, 1) := by decide +kernel
theorem dX4_angleOf_22 : decode cX4_angleOf 22 = .ok (.lmul, 1) := by decide +kernel
theorem dX4_angleOf_23 : decode cX4_angleOf 23 = .ok (.lload 4, 2) := by decide +kernel
theorem dX4_angleOf_25 : decode cX4_angleOf 25 = .ok (.iconst 0, 1) := by decide +kernel
theorem dX4_angleOf_26 : decode cX4_angleOf 26 = .ok (.invokestatic 60, 3) := by decide +kernel
theorem dX4_angleOf_29 : decode cX4_angleOf 29 = .ok (.i2l, 1) := by decide +kernel
theorem dX4_angleOf_30 : decode cX4_angleOf 30 = .ok (.lmul, 1) := by decide +kernel
theorem dX4_angleOf_31 : decode cX4_angleOf 31 = .ok (.ladd, 1) := by decide +kernel
theorem dX4_angleOf_32 : decode cX4_angleOf 32 = .ok (.lstore 7, 2) := by decide +kernel
theorem dX4_angleOf_34 : decode cX4_angleOf 34 = .ok (.iconst 1, 1) := by decide +kernel
theorem dX4_angleOf_35 : decode cX4_angleOf 35 = .ok (.istore 9, 2) := by decide +kernel
theorem dX4_angleOf_37 : decode cX4_angleOf 37 = .ok (.iload 9, 2) := by decide +kernel
theorem dX4_angleOf_39 : decode cX4_angleOf 39 = .ok (.sipush 360, 3) := by decide +kernel
theorem dX4_angleOf_42 : decode cX4_angleOf 42 = .ok (.if_icmp .ge 63, 3) := by decide +kernel
theorem dX4_angleOf_45 : decode cX4_angleOf 45 = .ok (.lload_n 2, 1) := by decide +kernel
theorem dX4_angleOf_46 : decode cX4_angleOf 46 = .ok (.iload 9, 2) := by decide +kernel
theorem dX4_angleOf_48 : decode cX4_angleOf 48 = .ok (.invokestatic 63, 3) := by decide +kernel
theorem dX4_angleOf_51 : decode cX4_angleOf 51 = .ok (.i2l, 1) := by decide +kernel
theorem dX4_angleOf_52 : decode cX4_angleOf 52 = .ok (.lmul, 1) := by decide +kernel
theorem dX4_angleOf_53 : decode cX4_angleOf 53 = .ok (.lload 4, 2) := by decide +kernel
theorem dX4_angleOf_55 : decode cX4_angleOf 55 = .ok (.iload 9, 2) := by decide +kernel
theorem dX4_angleOf_57 : decode cX4_angleOf 57 = .ok (.invokestatic 60, 3) := by decide +kernel
theorem dX4_angleOf_60 : decode cX4_angleOf 60 = .ok (.i2l, 1) := by decide +kernel
theorem dX4_angleOf_61 : decode cX4_angleOf 61 = .ok (.lmul, 1) := by decide +kernel
theorem dX4_angleOf_62 : decode cX4_angleOf 62 = .ok (.ladd, 1) := by decide +kernel
theorem dX4_angleOf_63 : decode cX4_angleOf 63 = .ok (.lstore 10, 2) := by decide +kernel
theorem dX4_angleOf_65 : decode cX4_angleOf 65 = .ok (.lload 10, 2) := by decide +kernel
theorem dX4_angleOf_67 : decode cX4_angleOf 67 = .ok (.lload 7, 2) := by decide +kernel
theorem dX4_angleOf_69 : decode cX4_angleOf 69 = .ok (.lcmp, 1) := by decide +kernel
theorem dX4_angleOf_70 : decode cX4_angleOf 70 = .ok (.ifCond .le 8, 3) := by decide +kernel
theorem dX4_angleOf_73 : decode cX4_angleOf 73 = .ok (.iload 9, 2) := by decide +kernel
theorem dX4_angleOf_75 : decode cX4_angleOf 75 = .ok (.goto 5, 3) := by decide +kernel
theorem dX4_angleOf_78 : decode cX4_angleOf 78 = .ok (.iload 6, 2) := by decide +kernel
theorem dX4_angleOf_80 : decode cX4_angleOf 80 = .ok (.istore 6, 2) := by decide +kernel
theorem dX4_angleOf_82 : decode cX4_angleOf 82 = .ok (.lload 10, 2) := by decide +kernel
theorem dX4_angleOf_84 : decode cX4_angleOf 84 = .ok (.lload 7, 2) := by decide +kernel
theorem dX4_angleOf_86 : decode cX4_angleOf 86 = .ok (.lcmp, 1) := by decide +kernel
theorem dX4_angleOf_87 : decode cX4_angleOf 87 = .ok (.ifCond .le 8, 3) := by decide +kernel
theorem dX4_angleOf_90 : decode cX4_angleOf 90 = .ok (.lload 10, 2) := by decide +kernel
theorem dX4_angleOf_92 : decode cX4_angleOf 92 = .ok (.goto 5, 3) := by decide +kernel
theorem dX4_angleOf_95 : decode cX4_angleOf 95 = .ok (.lload 7, 2) := by decide +kernel
theorem dX4_angleOf_97 : decode cX4_angleOf 97 = .ok (.lstore 7, 2) := by decide +kernel
theorem dX4_angleOf_99 : decode cX4_angleOf 99 = .ok (.iinc 9 1, 3) := by decide +kernel
theorem dX4_angleOf_102 : decode cX4_angleOf 102 = .ok (.goto (-65), 3) := by decide +kernel
theorem dX4_angleOf_105 : decode cX4_angleOf 105 = .ok (.iload 6, 2) := by decide +kernel
theorem dX4_angleOf_107 : decode cX4_angleOf 107 = .ok (.ireturn, 1) := by decide +kernel
theorem dX4_opened_0 : decode cX4_opened 0 = .ok (.iload_n 0, 1) := by decide +kernel
theorem dX4_opened_1 : decode cX4_opened 1 = .ok (.sipush 360, 3) := by decide +kernel
theorem dX4_opened_4 : decode cX4_opened 4 = .ok (.iload_n 0, 1) := by decide +kernel
theorem dX4_opened_5 : decode cX4_opened 5 = .ok (.isub, 1) := by decide +kernel
theorem dX4_opened_6 : decode cX4_opened 6 = .ok (.if_icmp .ge 7, 3) := by decide +kernel
theorem dX4_opened_9 : decode cX4_opened 9 = .ok (.iload_n 0, 1) := by decide +kernel
theorem dX4_opened_10 : decode cX4_opened 10 = .ok (.goto 8, 3) := by decide +kernel
theorem dX4_opened_13 : decode cX4_opened 13 = .ok (.sipush 360, 3) := by decide +kernel
theorem dX4_opened_16 : decode cX4_opened 16 = .ok (.iload_n 0, 1) := by decide +kernel
theorem dX4_opened_17 : decode cX4_opened 17 = .ok (.isub, 1) := by decide +kernel
theorem dX4_opened_18 : decode cX4_opened 18 = .ok (.ireturn, 1) := by decide +kernel
set_option maxRecDepth 20000 in
theorem ggX4_sideOf_X4_angleOf : GoodIn wsX4_sideOf wsX4_angleOf := goodIn_r _ [5, 6, 7, 8, 4, 9, 10, 11, 12, 13, 14, 15, 16, 17, 18, 19, 20, 21, 22, 23, 24, 25, 26, 27, 28, 29, 30, 31, 32, 33, 34, 35, 36, 37, 38, 39, 40, 41, 42, 43, 44, 45] (by decide +kernel) (by decide +kernel)
set_option maxRecDepth 20000 in
theorem gX4_sideOf_X4_angleOf : GoodIn wsX4_sideOf (wsV RX4 86 RX4 yX4_angleOf wsX4_angleOf) := goodIn_app (goodIn_of _ (by decide +kernel)) ggX4_sideOf_X4_angleOf
theorem dX4_sideOf_0 : decode cX4_sideOf 0 = .ok (.aload_n 0, 1) := by decide +kernel
theorem dX4_sideOf_1 : decode cX4_sideOf 1 = .ok (.iload_n 1, 1) := by decide +kernel
theorem dX4_sideOf_2 : decode cX4_sideOf 2 = .ok (.invokevirtual 86, 3) := by decide +kernel
theorem dX4_sideOf_5 : decode cX4_sideOf 5 = .ok (.istore_n 2, 1) := by decide +kernel
theorem dX4_sideOf_6 : decode cX4_sideOf 6 = .ok (.iload_n 2, 1) := by decide +kernel
theorem dX4_sideOf_7 : decode cX4_sideOf 7 = .ok (.sipush 180, 3) := by decide +kernel
theorem dX4_sideOf_10 : decode cX4_sideOf 10 = .ok (.irem, 1) := by decide +kernel
theorem dX4_sideOf_11 : decode cX4_sideOf 11 = .ok (.ifCond .ne 7, 3) := by decide +kernel
theorem dX4_sideOf_14 : decode cX4_sideOf 14 = .ok (.iconst 0, 1) := by decide +kernel
theorem dX4_sideOf_15 : decode cX4_sideOf 15 = .ok (.goto 15, 3) := by decide +kernel
theorem dX4_sideOf_18 : decode cX4_sideOf 18 = .ok (.iload_n 2, 1) := by decide +kernel
theorem dX4_sideOf_19 : decode cX4_sideOf 19 = .ok (.sipush 180, 3) := by decide +kernel
theorem dX4_sideOf_22 : decode cX4_sideOf 22 = .ok (.if_icmp .ge 7, 3) := by decide +kernel
theorem dX4_sideOf_25 : decode cX4_sideOf 25 = .ok (.iconst 1, 1) := by decide +kernel
theorem dX4_sideOf_26 : decode cX4_sideOf 26 = .ok (.goto 4, 3) := by decide +kernel
theorem dX4_sideOf_29 : decode cX4_sideOf 29 = .ok (.iconst 2, 1) := by decide +kernel
theorem dX4_sideOf_30 : decode cX4_sideOf 30 = .ok (.ireturn, 1) := by decide +kernel
set_option maxRecDepth 20000 in
theorem ggX4_noEntry_X4_in : GoodIn wsX4_noEntry wsX4_in := goodIn_r _ [5] (by decide +kernel) (by decide +kernel)
set_option maxRecDepth 20000 in
theorem gX4_noEntry_X4_in : GoodIn wsX4_noEntry (va_wsS RX4 38 yX4_in wsX4_in) := goodIn_app (goodIn_of _ (by decide +kernel)) ggX4_noEntry_X4_in
set_option maxRecDepth 20000 in
theorem ggX4_noEntry_X4_refused : GoodIn wsX4_noEntry wsX4_refused := goodIn_r _ [9, 10, 11, 12, 13, 14, 15, 16, 17, 18, 19, 20, 21, 22] (by decide +kernel) (by decide +kernel)
set_option maxRecDepth 20000 in
theorem gX4_noEntry_X4_refused : GoodIn wsX4_noEntry (wsV RX4 45 RX4 yX4_refused wsX4_refused) := goodIn_app (goodIn_of _ (by decide +kernel)) ggX4_noEntry_X4_refused
theorem dX4_noEntry_0 : decode cX4_noEntry 0 = .ok (.aload_n 0, 1) := by decide +kernel
theorem dX4_noEntry_1 : decode cX4_noEntry 1 = .ok (.iload_n 1, 1) := by decide +kernel
theorem dX4_noEntry_2 : decode cX4_noEntry 2 = .ok (.iconst 0, 1) := by decide +kernel
theorem dX4_noEntry_3 : decode cX4_noEntry 3 = .ok (.aload_n 0, 1) := by decide +kernel
theorem dX4_noEntry_4 : decode cX4_noEntry 4 = .ok (.getfield 42, 3) := by decide +kernel
theorem dX4_noEntry_7 : decode cX4_noEntry 7 = .ok (.iconst 1, 1) := by decide +kernel
theorem dX4_noEntry_8 : decode cX4_noEntry 8 = .ok (.isub, 1) := by decide +kernel
theorem dX4_noEntry_9 : decode cX4_noEntry 9 = .ok (.invokestatic 38, 3) := by decide +kernel
theorem dX4_noEntry_12 : decode cX4_noEntry 12 = .ok (.ifCond .eq 7, 3) := by decide +kernel
theorem dX4_noEntry_15 : decode cX4_noEntry 15 = .ok (.iconst 0, 1) := by decide +kernel
theorem dX4_noEntry_16 : decode cX4_noEntry 16 = .ok (.goto 4, 3) := by decide +kernel
theorem dX4_noEntry_19 : decode cX4_noEntry 19 = .ok (.iconst 1, 1) := by decide +kernel
theorem dX4_noEntry_20 : decode cX4_noEntry 20 = .ok (.invokevirtual 45, 3) := by decide +kernel
theorem dX4_noEntry_23 : decode cX4_noEntry 23 = .ok (.ireturn, 1) := by decide +kernel
set_option maxRecDepth 20000 in
theorem ggX4_speed_X4_noEntry : GoodIn wsX4_speed wsX4_noEntry := goodIn_r _ [5, 6, 7, 8, 4, 9, 10, 11, 12, 13, 14, 21, 22, 23, 24, 25, 26, 27, 28, 29, 30, 31, 32] (by decide +kernel) (by decide +kernel)
set_option maxRecDepth 20000 in
theorem gX4_speed_X4_noEntry : GoodIn wsX4_speed (wsV RX4 89 RX4 yX4_noEntry wsX4_noEntry) := goodIn_app (goodIn_of _ (by decide +kernel)) ggX4_speed_X4_noEntry
set_option maxRecDepth 20000 in
theorem ggX4_speed_X4_trueSpeed : GoodIn wsX4_speed wsX4_trueSpeed := goodIn_r _ [18, 19, 20, 21, 22, 23, 24, 25, 26, 27, 28, 29, 30, 31, 32] (by decide +kernel) (by decide +kernel)
set_option maxRecDepth 20000 in
theorem gX4_speed_X4_trueSpeed : GoodIn wsX4_speed (wsV RX4 68 RX4 yX4_trueSpeed wsX4_trueSpeed) := goodIn_app (goodIn_of _ (by decide +kernel)) ggX4_speed_X4_trueSpeed
theorem dX4_speed_0 : decode cX4_speed 0 = .ok (.aload_n 0, 1) := by decide +kernel
theorem dX4_speed_1 : decode cX4_speed 1 = .ok (.iload_n 1, 1) := by decide +kernel
theorem dX4_speed_2 : decode cX4_speed 2 = .ok (.invokevirtual 89, 3) := by decide +kernel
theorem dX4_speed_5 : decode cX4_speed 5 = .ok (.ifCond .eq 7, 3) := by decide +kernel
theorem dX4_speed_8 : decode cX4_speed 8 = .ok (.iconst 0, 1) := by decide +kernel
theorem dX4_speed_9 : decode cX4_speed 9 = .ok (.goto 8, 3) := by decide +kernel
theorem dX4_speed_12 : decode cX4_speed 12 = .ok (.aload_n 0, 1) := by decide +kernel
theorem dX4_speed_13 : decode cX4_speed 13 = .ok (.iload_n 1, 1) := by decide +kernel
theorem dX4_speed_14 : decode cX4_speed 14 = .ok (.invokevirtual 68, 3) := by decide +kernel
theorem dX4_speed_17 : decode cX4_speed 17 = .ok (.ireturn, 1) := by decide +kernel
set_option maxRecDepth 20000 in
theorem ggX4_strength_X4_noEntry : GoodIn wsX4_strength wsX4_noEntry := goodIn_r _ [5, 6, 7, 8, 4, 9, 10, 11, 12, 13, 14, 52, 53, 54, 55, 56, 57, 58, 59, 60, 61, 62, 63] (by decide +kernel) (by decide +kernel)
set_option maxRecDepth 20000 in
theorem gX4_strength_X4_noEntry : GoodIn wsX4_strength (wsV RX4 89 RX4 yX4_noEntry wsX4_noEntry) := goodIn_app (goodIn_of _ (by decide +kernel)) ggX4_strength_X4_noEntry
set_option maxRecDepth 20000 in
theorem ggX4_strength_X4_strengthOf : GoodIn wsX4_strength wsX4_strengthOf := goodIn_r _ [18, 19, 20, 21, 22, 4, 23, 24, 25, 26, 27, 28, 29, 30, 31, 32, 33, 34, 35, 36, 37, 38, 39, 40, 41, 42, 43, 44, 45, 46, 47, 48, 49, 50, 51, 52, 53, 54, 55, 56, 57, 58, 59, 60, 61, 62, 63] (by decide +kernel) (by decide +kernel)
set_option maxRecDepth 20000 in
theorem gX4_strength_X4_strengthOf : GoodIn wsX4_strength (wsV RX4 92 RX4 yX4_strengthOf wsX4_strengthOf) := goodIn_app (goodIn_of _ (by decide +kernel)) ggX4_strength_X4_strengthOf
theorem dX4_strength_0 : decode cX4_strength 0 = .ok (.aload_n 0, 1) := by decide +kernel
theorem dX4_strength_1 : decode cX4_strength 1 = .ok (.iload_n 1, 1) := by decide +kernel
theorem dX4_strength_2 : decode cX4_strength 2 = .ok (.invokevirtual 89, 3) := by decide +kernel
theorem dX4_strength_5 : decode cX4_strength 5 = .ok (.ifCond .eq 7, 3) := by decide +kernel
theorem dX4_strength_8 : decode cX4_strength 8 = .ok (.iconst 0, 1) := by decide +kernel
theorem dX4_strength_9 : decode cX4_strength 9 = .ok (.goto 8, 3) := by decide +kernel
theorem dX4_strength_12 : decode cX4_strength 12 = .ok (.aload_n 0, 1) := by decide +kernel
theorem dX4_strength_13 : decode cX4_strength 13 = .ok (.iload_n 1, 1) := by decide +kernel
theorem dX4_strength_14 : decode cX4_strength 14 = .ok (.invokevirtual 92, 3) := by decide +kernel
theorem dX4_strength_17 : decode cX4_strength 17 = .ok (.ireturn, 1) := by decide +kernel
set_option maxRecDepth 20000 in
theorem ggX4_angle_X4_noEntry : GoodIn wsX4_angle wsX4_noEntry := goodIn_r _ [5, 6, 7, 8, 4, 9, 10, 11, 12, 13, 14, 47, 48, 49, 50, 51, 52, 53, 54, 55, 56, 57, 58] (by decide +kernel) (by decide +kernel)
set_option maxRecDepth 20000 in
theorem gX4_angle_X4_noEntry : GoodIn wsX4_angle (wsV RX4 89 RX4 yX4_noEntry wsX4_noEntry) := goodIn_app (goodIn_of _ (by decide +kernel)) ggX4_angle_X4_noEntry
set_option maxRecDepth 20000 in
theorem ggX4_angle_X4_angleOf : GoodIn wsX4_angle wsX4_angleOf := goodIn_r _ [18, 19, 20, 21, 4, 22, 23, 24, 25, 26, 27, 28, 29, 30, 31, 32, 33, 34, 35, 36, 37, 38, 39, 40, 41, 42, 43, 44, 45, 46, 47, 48, 49, 50, 51, 52, 53, 54, 55, 56, 57, 58] (by decide +kernel) (by decide +kernel)
set_option maxRecDepth 20000 in
theorem gX4_angle_X4_angleOf : GoodIn wsX4_angle (wsV RX4 86 RX4 yX4_angleOf wsX4_angleOf) := goodIn_app (goodIn_of _ (by decide +kernel)) ggX4_angle_X4_angleOf
theorem dX4_angle_0 : decode cX4_angle 0 = .ok (.aload_n 0, 1) := by decide +kernel
theorem dX4_angle_1 : decode cX4_angle 1 = .ok (.iload_n 1, 1) := by decide +kernel
theorem dX4_angle_2 : decode cX4_angle 2 = .ok (.invokevirtual 89, 3) := by decide +kernel
theorem dX4_angle_5 : decode cX4_angle 5 = .ok (.ifCond .eq 7, 3) := by decide +kernel
theorem dX4_angle_8 : decode cX4_angle 8 = .ok (.iconst 0, 1) := by decide +kernel
theorem dX4_angle_9 : decode cX4_angle 9 = .ok (.goto 8, 3) := by decide +kernel
theorem dX4_angle_12 : decode cX4_angle 12 = .ok (.aload_n 0, 1) := by decide +kernel
theorem dX4_angle_13 : decode cX4_angle 13 = .ok (.iload_n 1, 1) := by decide +kernel
theorem dX4_angle_14 : decode cX4_angle 14 = .ok (.invokevirtual 86, 3) := by decide +kernel
theorem dX4_angle_17 : decode cX4_angle 17 = .ok (.ireturn, 1) := by decide +kernel
set_option maxRecDepth 20000 in
theorem ggX4_from_X4_noEntry : GoodIn wsX4_from wsX4_noEntry := goodIn_r _ [5, 6, 7, 8, 4, 9, 10, 11, 12, 13, 14, 53, 54, 55, 56, 57, 58, 59, 60, 61, 62, 63, 64] (by decide +kernel) (by decide +kernel)
set_option maxRecDepth 20000 in
theorem gX4_from_X4_noEntry : GoodIn wsX4_from (wsV RX4 89 RX4 yX4_noEntry wsX4_noEntry) := goodIn_app (goodIn_of _ (by decide +kernel)) ggX4_from_X4_noEntry
set_option maxRecDepth 20000 in
theorem ggX4_from_X4_trueHeading : GoodIn wsX4_from wsX4_trueHeading := goodIn_r _ [18, 19, 20, 21, 22, 4, 23, 53, 54, 55, 56, 57, 58, 59, 60, 61, 62, 63, 64] (by decide +kernel) (by decide +kernel)
set_option maxRecDepth 20000 in
theorem gX4_from_X4_trueHeading : GoodIn wsX4_from (wsV RX4 95 RX4 yX4_trueHeading wsX4_trueHeading) := goodIn_app (goodIn_of _ (by decide +kernel)) ggX4_from_X4_trueHeading
set_option maxRecDepth 20000 in
theorem ggX4_from_X4_angleOf : GoodIn wsX4_from wsX4_angleOf := goodIn_r _ [27, 28, 29, 30, 4, 31, 32, 33, 34, 35, 36, 37, 38, 21, 22, 23, 39, 40, 41, 42, 43, 44, 45, 46, 47, 48, 49, 50, 51, 52, 53, 54, 55, 56, 57, 58, 59, 60, 61, 62, 63, 64] (by decide +kernel) (by decide +kernel)
set_option maxRecDepth 20000 in
theorem gX4_from_X4_angleOf : GoodIn wsX4_from (wsV RX4 86 RX4 yX4_angleOf wsX4_angleOf) := goodIn_app (goodIn_of _ (by decide +kernel)) ggX4_from_X4_angleOf
set_option maxRecDepth 20000 in
theorem ggX4_from_X4_turned : GoodIn wsX4_from wsX4_turned := goodIn_r _ [23] (by decide +kernel) (by decide +kernel)
set_option maxRecDepth 20000 in
theorem gX4_from_X4_turned : GoodIn wsX4_from (va_wsS RX4 55 yX4_turned wsX4_turned) := goodIn_app (goodIn_of _ (by decide +kernel)) ggX4_from_X4_turned
theorem dX4_from_0 : decode cX4_from 0 = .ok (.aload_n 0, 1) := by decide +kernel
theorem dX4_from_1 : decode cX4_from 1 = .ok (.iload_n 1, 1) := by decide +kernel
theorem dX4_from_2 : decode cX4_from 2 = .ok (.invokevirtual 89, 3) := by decide +kernel
theorem dX4_from_5 : decode cX4_from 5 = .ok (.ifCond .eq 7, 3) := by decide +kernel
theorem dX4_from_8 : decode cX4_from 8 = .ok (.iconst 0, 1) := by decide +kernel
theorem dX4_from_9 : decode cX4_from 9 = .ok (.goto 17, 3) := by decide +kernel
theorem dX4_from_12 : decode cX4_from 12 = .ok (.aload_n 0, 1) := by decide +kernel
theorem dX4_from_13 : decode cX4_from 13 = .ok (.iload_n 1, 1) := by decide +kernel
theorem dX4_from_14 : decode cX4_from 14 = .ok (.invokevirtual 95, 3) := by decide +kernel
theorem dX4_from_17 : decode cX4_from 17 = .ok (.aload_n 0, 1) := by decide +kernel
theorem dX4_from_18 : decode cX4_from 18 = .ok (.iload_n 1, 1) := by decide +kernel
theorem dX4_from_19 : decode cX4_from 19 = .ok (.invokevirtual 86, 3) := by decide +kernel
theorem dX4_from_22 : decode cX4_from 22 = .ok (.iadd, 1) := by decide +kernel
theorem dX4_from_23 : decode cX4_from 23 = .ok (.invokestatic 55, 3) := by decide +kernel
theorem dX4_from_26 : decode cX4_from 26 = .ok (.ireturn, 1) := by decide +kernel
set_option maxRecDepth 20000 in
theorem ggX4_side_X4_noEntry : GoodIn wsX4_side wsX4_noEntry := goodIn_r _ [5, 6, 7, 8, 4, 9, 10, 11, 12, 13, 14, 51, 52, 53, 54, 55, 56, 57, 58, 59, 60, 61, 62] (by decide +kernel) (by decide +kernel)
set_option maxRecDepth 20000 in
theorem gX4_side_X4_noEntry : GoodIn wsX4_side (wsV RX4 89 RX4 yX4_noEntry wsX4_noEntry) := goodIn_app (goodIn_of _ (by decide +kernel)) ggX4_side_X4_noEntry
set_option maxRecDepth 20000 in
theorem ggX4_side_X4_sideOf : GoodIn wsX4_side wsX4_sideOf := goodIn_r _ [18, 19, 20, 21, 4, 22, 23, 24, 25, 26, 27, 28, 29, 30, 31, 32, 33, 34, 35, 36, 37, 38, 39, 40, 41, 42, 43, 44, 45, 46, 47, 48, 49, 50, 51, 52, 53, 54, 55, 56, 57, 58, 59, 60, 61, 62] (by decide +kernel) (by decide +kernel)
set_option maxRecDepth 20000 in
theorem gX4_side_X4_sideOf : GoodIn wsX4_side (wsV RX4 98 RX4 yX4_sideOf wsX4_sideOf) := goodIn_app (goodIn_of _ (by decide +kernel)) ggX4_side_X4_sideOf
theorem dX4_side_0 : decode cX4_side 0 = .ok (.aload_n 0, 1) := by decide +kernel
theorem dX4_side_1 : decode cX4_side 1 = .ok (.iload_n 1, 1) := by decide +kernel
theorem dX4_side_2 : decode cX4_side 2 = .ok (.invokevirtual 89, 3) := by decide +kernel
theorem dX4_side_5 : decode cX4_side 5 = .ok (.ifCond .eq 7, 3) := by decide +kernel
theorem dX4_side_8 : decode cX4_side 8 = .ok (.iconst 0, 1) := by decide +kernel
theorem dX4_side_9 : decode cX4_side 9 = .ok (.goto 8, 3) := by decide +kernel
theorem dX4_side_12 : decode cX4_side 12 = .ok (.aload_n 0, 1) := by decide +kernel
theorem dX4_side_13 : decode cX4_side 13 = .ok (.iload_n 1, 1) := by decide +kernel
theorem dX4_side_14 : decode cX4_side 14 = .ok (.invokevirtual 98, 3) := by decide +kernel
theorem dX4_side_17 : decode cX4_side 17 = .ok (.ireturn, 1) := by decide +kernel
set_option maxRecDepth 20000 in
theorem ggX4_field_X4_strengthOf : GoodIn wsX4_field wsX4_strengthOf := goodIn_r _ [6, 7, 8, 9, 10, 5, 11, 12, 13, 14, 15, 16, 17, 18, 19, 20, 21, 22, 23, 24, 25, 26, 27, 28, 29, 30, 31, 32, 33, 34, 35, 36, 37, 38, 39, 47, 48, 49, 50, 51, 52, 53, 54, 55, 56, 57, 58] (by decide +kernel) (by decide +kernel)
set_option maxRecDepth 20000 in
theorem gX4_field_X4_strengthOf : GoodIn wsX4_field (wsV RX4 92 RX4 yX4_strengthOf wsX4_strengthOf) := goodIn_app (goodIn_of _ (by decide +kernel)) ggX4_field_X4_strengthOf
set_option maxRecDepth 20000 in
theorem ggX4_field_X4_angleOf : GoodIn wsX4_field wsX4_angleOf := goodIn_r _ [43, 8, 9, 10, 5, 11, 12, 13, 14, 7, 15, 16, 17, 18, 19, 20, 21, 22, 23, 24, 25, 26, 27, 28, 29, 30, 31, 32, 33, 34, 47, 48, 49, 50, 51, 52, 53, 54, 55, 56, 57, 58] (by decide +kernel) (by decide +kernel)
set_option maxRecDepth 20000 in
theorem gX4_field_X4_angleOf : GoodIn wsX4_field (wsV RX4 86 RX4 yX4_angleOf wsX4_angleOf) := goodIn_app (goodIn_of _ (by decide +kernel)) ggX4_field_X4_angleOf
set_option maxRecDepth 20000 in
theorem ggX4_field_X4_opened : GoodIn wsX4_field wsX4_opened := goodIn_r _ [46] (by decide +kernel) (by decide +kernel)
set_option maxRecDepth 20000 in
theorem gX4_field_X4_opened : GoodIn wsX4_field (va_wsS RX4 101 yX4_opened wsX4_opened) := goodIn_app (goodIn_of _ (by decide +kernel)) ggX4_field_X4_opened
set_option maxRecDepth 20000 in
theorem ggX4_field_X4_trueSpeed : GoodIn wsX4_field wsX4_trueSpeed := goodIn_r _ [28, 29, 30, 47, 48, 49, 50, 51, 52, 53, 54, 55, 56, 57, 58] (by decide +kernel) (by decide +kernel)
set_option maxRecDepth 20000 in
theorem gX4_field_X4_trueSpeed : GoodIn wsX4_field (wsV RX4 68 RX4 yX4_trueSpeed wsX4_trueSpeed) := goodIn_app (goodIn_of _ (by decide +kernel)) ggX4_field_X4_trueSpeed
theorem dX4_field_0 : decode cX4_field 0 = .ok (.iconst 0, 1) := by decide +kernel
theorem dX4_field_1 : decode cX4_field 1 = .ok (.istore_n 3, 1) := by decide +kernel
theorem dX4_field_2 : decode cX4_field 2 = .ok (.iconst 0, 1) := by decide +kernel
theorem dX4_field_3 : decode cX4_field 3 = .ok (.istore 4, 2) := by decide +kernel
theorem dX4_field_5 : decode cX4_field 5 = .ok (.iload 4, 2) := by decide +kernel
theorem dX4_field_7 : decode cX4_field 7 = .ok (.aload_n 0, 1) := by decide +kernel
theorem dX4_field_8 : decode cX4_field 8 = .ok (.getfield 42, 3) := by decide +kernel
theorem dX4_field_11 : decode cX4_field 11 = .ok (.if_icmp .ge 94, 3) := by decide +kernel
theorem dX4_field_14 : decode cX4_field 14 = .ok (.aload_n 0, 1) := by decide +kernel
theorem dX4_field_15 : decode cX4_field 15 = .ok (.iload 4, 2) := by decide +kernel
theorem dX4_field_17 : decode cX4_field 17 = .ok (.invokevirtual 92, 3) := by decide +kernel
theorem dX4_field_20 : decode cX4_field 20 = .ok (.bipush 40, 2) := by decide +kernel
theorem dX4_field_22 : decode cX4_field 22 = .ok (.idiv, 1) := by decide +kernel
theorem dX4_field_23 : decode cX4_field 23 = .ok (.bipush 10, 2) := by decide +kernel
theorem dX4_field_25 : decode cX4_field 25 = .ok (.if_icmp .ge 15, 3) := by decide +kernel
theorem dX4_field_28 : decode cX4_field 28 = .ok (.aload_n 0, 1) := by decide +kernel
theorem dX4_field_29 : decode cX4_field 29 = .ok (.iload 4, 2) := by decide +kernel
theorem dX4_field_31 : decode cX4_field 31 = .ok (.invokevirtual 92, 3) := by decide +kernel
theorem dX4_field_34 : decode cX4_field 34 = .ok (.bipush 40, 2) := by decide +kernel
theorem dX4_field_36 : decode cX4_field 36 = .ok (.idiv, 1) := by decide +kernel
theorem dX4_field_37 : decode cX4_field 37 = .ok (.goto 5, 3) := by decide +kernel
theorem dX4_field_40 : decode cX4_field 40 = .ok (.bipush 9, 2) := by decide +kernel
theorem dX4_field_42 : decode cX4_field 42 = .ok (.istore 5, 2) := by decide +kernel
theorem dX4_field_44 : decode cX4_field 44 = .ok (.iload 5, 2) := by decide +kernel
theorem dX4_field_46 : decode cX4_field 46 = .ok (.iload_n 2, 1) := by decide +kernel
theorem dX4_field_47 : decode cX4_field 47 = .ok (.if_icmp .ne 23, 3) := by decide +kernel
theorem dX4_field_50 : decode cX4_field 50 = .ok (.aload_n 0, 1) := by decide +kernel
theorem dX4_field_51 : decode cX4_field 51 = .ok (.iload 4, 2) := by decide +kernel
theorem dX4_field_53 : decode cX4_field 53 = .ok (.invokevirtual 86, 3) := by decide +kernel
theorem dX4_field_56 : decode cX4_field 56 = .ok (.invokestatic 101, 3) := by decide +kernel
theorem dX4_field_59 : decode cX4_field 59 = .ok (.bipush 10, 2) := by decide +kernel
theorem dX4_field_61 : decode cX4_field 61 = .ok (.idiv, 1) := by decide +kernel
