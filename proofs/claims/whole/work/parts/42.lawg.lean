set_option maxRecDepth 20000 in
theorem ggL_log_X3_log : GoodIn wsL_log wsX3_log := goodIn_ca (goodIn_ca (goodIn_r _ [7, 8, 9, 10, 11, 12, 13, 14, 15, 16, 17, 18, 19, 6, 20, 21, 22, 23, 24, 25, 26, 27, 28, 29, 30, 31, 32, 33, 34, 35, 36, 37, 38, 39, 40, 41, 42, 43, 44, 45, 46, 47, 48, 49, 50, 51, 52, 53, 54, 55, 56, 57, 58, 59, 60, 61, 62, 63, 64, 65, 66, 67, 68, 69, 70, 71, 72, 73, 74, 75, 76, 77, 78, 79, 80, 81, 82, 83, 84, 85, 86, 87, 88, 89, 90, 91, 92, 93, 94, 95, 96, 97, 98, 99, 100, 101, 102, 103, 104, 105, 106, 107, 108, 109, 110, 111, 112, 113, 114, 115, 116, 117, 118, 119, 120, 121, 122, 123, 124] (by decide +kernel) (by decide +kernel)) (goodIn_sub (fun _ h => List.mem_cons_of_mem _ (List.mem_append_left _ (List.mem_append_right _ h))) (by decide +kernel))) (goodIn_sub (fun _ h => List.mem_cons_of_mem _ (List.mem_append_right _ h)) (by decide +kernel))
set_option maxRecDepth 20000 in
theorem gL_log_X3_log : GoodIn wsL_log (wsV RL 7 RX3 yX3_log wsX3_log) := goodIn_app (goodIn_of _ (by decide +kernel)) ggL_log_X3_log
theorem dL_log_0 : decode cL_log 0 = .ok (.aload 6, 2) := by decide +kernel
theorem dL_log_2 : decode cL_log 2 = .ok (.iconst 0, 1) := by decide +kernel
theorem dL_log_3 : decode cL_log 3 = .ok (.aload_n 0, 1) := by decide +kernel
theorem dL_log_4 : decode cL_log 4 = .ok (.iload_n 1, 1) := by decide +kernel
theorem dL_log_5 : decode cL_log 5 = .ok (.iload_n 2, 1) := by decide +kernel
theorem dL_log_6 : decode cL_log 6 = .ok (.iload_n 3, 1) := by decide +kernel
theorem dL_log_7 : decode cL_log 7 = .ok (.iload 4, 2) := by decide +kernel
theorem dL_log_9 : decode cL_log 9 = .ok (.iload 5, 2) := by decide +kernel
theorem dL_log_11 : decode cL_log 11 = .ok (.invokevirtual 7, 3) := by decide +kernel
theorem dL_log_14 : decode cL_log 14 = .ok (.i2l, 1) := by decide +kernel
theorem dL_log_15 : decode cL_log 15 = .ok (.lastore, 1) := by decide +kernel
theorem dL_log_16 : decode cL_log 16 = .ok (.goto 11, 3) := by decide +kernel
theorem dL_log_19 : decode cL_log 19 = .ok (.astore 7, 2) := by decide +kernel
theorem dL_log_21 : decode cL_log 21 = .ok (.iconst 1, 1) := by decide +kernel
theorem dL_log_22 : decode cL_log 22 = .ok (.ireturn, 1) := by decide +kernel
theorem dL_log_23 : decode cL_log 23 = .ok (.astore 7, 2) := by decide +kernel
theorem dL_log_25 : decode cL_log 25 = .ok (.iconst 2, 1) := by decide +kernel
theorem dL_log_26 : decode cL_log 26 = .ok (.ireturn, 1) := by decide +kernel
theorem dL_log_27 : decode cL_log 27 = .ok (.iconst 0, 1) := by decide +kernel
theorem dL_log_28 : decode cL_log 28 = .ok (.ireturn, 1) := by decide +kernel
set_option maxRecDepth 20000 in
theorem ggL_setFaults_X3_setFaults : GoodIn wsL_setFaults wsX3_setFaults := goodIn_ca (goodIn_r _ [6, 7, 8, 9, 10, 11, 5, 12, 13, 14, 15, 16, 17, 18, 19, 20, 21, 22, 23, 24, 25, 26, 27, 28, 29, 30, 31, 32, 33, 34, 35, 36, 37, 38, 39, 40, 41, 42, 43, 44, 45, 46, 47, 48, 49, 50, 51, 52, 53, 54, 55, 56, 57, 58, 59, 60, 61, 62, 63, 64, 65, 66, 67, 68, 69, 70, 71, 72, 73, 74, 75, 76, 77, 78, 79, 80, 81, 82, 83, 84, 85, 86, 87, 88, 89, 90, 91, 92, 93, 94, 95, 96, 97, 98, 99, 100, 101, 102, 103, 104, 105, 106, 107, 108, 109, 110, 111, 112, 113, 114, 115, 116, 117, 118, 119, 120, 121, 122, 123, 124, 125] (by decide +kernel) (by decide +kernel)) (goodIn_sub (fun _ h => List.mem_cons_of_mem _ (List.mem_append_right _ h)) (by decide +kernel))
set_option maxRecDepth 20000 in
theorem gL_setFaults_X3_setFaults : GoodIn wsL_setFaults (wsV RL 17 RX3 yX3_setFaults wsX3_setFaults) := goodIn_app (goodIn_of _ (by decide +kernel)) ggL_setFaults_X3_setFaults
theorem dL_setFaults_0 : decode cL_setFaults 0 = .ok (.aload 4, 2) := by decide +kernel
theorem dL_setFaults_2 : decode cL_setFaults 2 = .ok (.iconst 0, 1) := by decide +kernel
theorem dL_setFaults_3 : decode cL_setFaults 3 = .ok (.aload_n 0, 1) := by decide +kernel
theorem dL_setFaults_4 : decode cL_setFaults 4 = .ok (.iload_n 1, 1) := by decide +kernel
theorem dL_setFaults_5 : decode cL_setFaults 5 = .ok (.iload_n 2, 1) := by decide +kernel
theorem dL_setFaults_6 : decode cL_setFaults 6 = .ok (.iload_n 3, 1) := by decide +kernel
theorem dL_setFaults_7 : decode cL_setFaults 7 = .ok (.invokevirtual 17, 3) := by decide +kernel
theorem dL_setFaults_10 : decode cL_setFaults 10 = .ok (.i2l, 1) := by decide +kernel
theorem dL_setFaults_11 : decode cL_setFaults 11 = .ok (.lastore, 1) := by decide +kernel
theorem dL_setFaults_12 : decode cL_setFaults 12 = .ok (.goto 7, 3) := by decide +kernel
theorem dL_setFaults_15 : decode cL_setFaults 15 = .ok (.astore 5, 2) := by decide +kernel
theorem dL_setFaults_17 : decode cL_setFaults 17 = .ok (.iconst 1, 1) := by decide +kernel
theorem dL_setFaults_18 : decode cL_setFaults 18 = .ok (.ireturn, 1) := by decide +kernel
theorem dL_setFaults_19 : decode cL_setFaults 19 = .ok (.iconst 0, 1) := by decide +kernel
theorem dL_setFaults_20 : decode cL_setFaults 20 = .ok (.ireturn, 1) := by decide +kernel
set_option maxRecDepth 20000 in
theorem ggL_setTide_X3_setTide : GoodIn wsL_setTide wsX3_setTide := goodIn_ca (goodIn_ca (goodIn_r _ [7, 8, 9, 10, 11, 12, 13, 6, 14, 15, 16, 17, 18, 19, 20, 21, 22, 23, 24, 25, 26, 27, 28, 29, 30, 31] (by decide +kernel) (by decide +kernel)) (goodIn_sub (fun _ h => List.mem_cons_of_mem _ (List.mem_append_left _ (List.mem_append_right _ h))) (by decide +kernel))) (goodIn_sub (fun _ h => List.mem_cons_of_mem _ (List.mem_append_right _ h)) (by decide +kernel))
set_option maxRecDepth 20000 in
theorem gL_setTide_X3_setTide : GoodIn wsL_setTide (wsV RL 21 RX3 yX3_setTide wsX3_setTide) := goodIn_app (goodIn_of _ (by decide +kernel)) ggL_setTide_X3_setTide
theorem dL_setTide_0 : decode cL_setTide 0 = .ok (.aload 4, 2) := by decide +kernel
theorem dL_setTide_2 : decode cL_setTide 2 = .ok (.iconst 0, 1) := by decide +kernel
theorem dL_setTide_3 : decode cL_setTide 3 = .ok (.aload_n 0, 1) := by decide +kernel
theorem dL_setTide_4 : decode cL_setTide 4 = .ok (.iload_n 1, 1) := by decide +kernel
theorem dL_setTide_5 : decode cL_setTide 5 = .ok (.iload_n 2, 1) := by decide +kernel
theorem dL_setTide_6 : decode cL_setTide 6 = .ok (.iload_n 3, 1) := by decide +kernel
theorem dL_setTide_7 : decode cL_setTide 7 = .ok (.invokevirtual 21, 3) := by decide +kernel
theorem dL_setTide_10 : decode cL_setTide 10 = .ok (.i2l, 1) := by decide +kernel
theorem dL_setTide_11 : decode cL_setTide 11 = .ok (.lastore, 1) := by decide +kernel
theorem dL_setTide_12 : decode cL_setTide 12 = .ok (.goto 11, 3) := by decide +kernel
theorem dL_setTide_15 : decode cL_setTide 15 = .ok (.astore 5, 2) := by decide +kernel
theorem dL_setTide_17 : decode cL_setTide 17 = .ok (.iconst 1, 1) := by decide +kernel
theorem dL_setTide_18 : decode cL_setTide 18 = .ok (.ireturn, 1) := by decide +kernel
theorem dL_setTide_19 : decode cL_setTide 19 = .ok (.astore 5, 2) := by decide +kernel
theorem dL_setTide_21 : decode cL_setTide 21 = .ok (.iconst 2, 1) := by decide +kernel
theorem dL_setTide_22 : decode cL_setTide 22 = .ok (.ireturn, 1) := by decide +kernel
theorem dL_setTide_23 : decode cL_setTide 23 = .ok (.iconst 0, 1) := by decide +kernel
theorem dL_setTide_24 : decode cL_setTide 24 = .ok (.ireturn, 1) := by decide +kernel
set_option maxRecDepth 20000 in
theorem ggL_speed_X3_speed : GoodIn wsL_speed wsX3_speed := goodIn_ca (goodIn_r _ [6, 7, 8, 9, 10, 11, 5, 12, 13, 14, 15, 16, 17, 18, 19, 20, 21, 22, 23, 24, 25, 26, 27, 28, 29, 30, 31, 32, 33, 34, 35, 36] (by decide +kernel) (by decide +kernel)) (goodIn_sub (fun _ h => List.mem_cons_of_mem _ (List.mem_append_right _ h)) (by decide +kernel))
set_option maxRecDepth 20000 in
theorem gL_speed_X3_speed : GoodIn wsL_speed (wsV RL 26 RX3 yX3_speed wsX3_speed) := goodIn_app (goodIn_of _ (by decide +kernel)) ggL_speed_X3_speed
theorem dL_speed_0 : decode cL_speed 0 = .ok (.aload_n 2, 1) := by decide +kernel
theorem dL_speed_1 : decode cL_speed 1 = .ok (.iconst 0, 1) := by decide +kernel
theorem dL_speed_2 : decode cL_speed 2 = .ok (.aload_n 0, 1) := by decide +kernel
theorem dL_speed_3 : decode cL_speed 3 = .ok (.iload_n 1, 1) := by decide +kernel
theorem dL_speed_4 : decode cL_speed 4 = .ok (.invokevirtual 26, 3) := by decide +kernel
theorem dL_speed_7 : decode cL_speed 7 = .ok (.i2l, 1) := by decide +kernel
theorem dL_speed_8 : decode cL_speed 8 = .ok (.lastore, 1) := by decide +kernel
theorem dL_speed_9 : decode cL_speed 9 = .ok (.goto 6, 3) := by decide +kernel
theorem dL_speed_12 : decode cL_speed 12 = .ok (.astore_n 3, 1) := by decide +kernel
theorem dL_speed_13 : decode cL_speed 13 = .ok (.iconst 1, 1) := by decide +kernel
theorem dL_speed_14 : decode cL_speed 14 = .ok (.ireturn, 1) := by decide +kernel
theorem dL_speed_15 : decode cL_speed 15 = .ok (.iconst 0, 1) := by decide +kernel
theorem dL_speed_16 : decode cL_speed 16 = .ok (.ireturn, 1) := by decide +kernel
set_option maxRecDepth 20000 in
theorem ggL_strength_X3_strength : GoodIn wsL_strength wsX3_strength := goodIn_ca (goodIn_r _ [6, 7, 8, 9, 10, 11, 5, 12, 13, 14, 15, 16, 17, 18, 19, 20, 21, 22, 23, 24, 25, 26, 27, 28, 29, 30, 31, 32, 33, 34, 35, 36] (by decide +kernel) (by decide +kernel)) (goodIn_sub (fun _ h => List.mem_cons_of_mem _ (List.mem_append_right _ h)) (by decide +kernel))
set_option maxRecDepth 20000 in
theorem gL_strength_X3_strength : GoodIn wsL_strength (wsV RL 30 RX3 yX3_strength wsX3_strength) := goodIn_app (goodIn_of _ (by decide +kernel)) ggL_strength_X3_strength
theorem dL_strength_0 : decode cL_strength 0 = .ok (.aload_n 2, 1) := by decide +kernel
theorem dL_strength_1 : decode cL_strength 1 = .ok (.iconst 0, 1) := by decide +kernel
theorem dL_strength_2 : decode cL_strength 2 = .ok (.aload_n 0, 1) := by decide +kernel
theorem dL_strength_3 : decode cL_strength 3 = .ok (.iload_n 1, 1) := by decide +kernel
theorem dL_strength_4 : decode cL_strength 4 = .ok (.invokevirtual 30, 3) := by decide +kernel
theorem dL_strength_7 : decode cL_strength 7 = .ok (.i2l, 1) := by decide +kernel
theorem dL_strength_8 : decode cL_strength 8 = .ok (.lastore, 1) := by decide +kernel
theorem dL_strength_9 : decode cL_strength 9 = .ok (.goto 6, 3) := by decide +kernel
theorem dL_strength_12 : decode cL_strength 12 = .ok (.astore_n 3, 1) := by decide +kernel
theorem dL_strength_13 : decode cL_strength 13 = .ok (.iconst 1, 1) := by decide +kernel
theorem dL_strength_14 : decode cL_strength 14 = .ok (.ireturn, 1) := by decide +kernel
theorem dL_strength_15 : decode cL_strength 15 = .ok (.iconst 0, 1) := by decide +kernel
theorem dL_strength_16 : decode cL_strength 16 = .ok (.ireturn, 1) := by decide +kernel
set_option maxRecDepth 20000 in
theorem ggL_angle_X3_angle : GoodIn wsL_angle wsX3_angle := goodIn_ca (goodIn_r _ [6, 7, 8, 9, 10, 11, 5, 12, 13, 14, 15, 16, 17, 18, 19, 20, 21, 22, 23, 24, 25, 26, 27, 28, 29, 30, 31, 32, 33, 34, 35, 36] (by decide +kernel) (by decide +kernel)) (goodIn_sub (fun _ h => List.mem_cons_of_mem _ (List.mem_append_right _ h)) (by decide +kernel))
set_option maxRecDepth 20000 in
theorem gL_angle_X3_angle : GoodIn wsL_angle (wsV RL 33 RX3 yX3_angle wsX3_angle) := goodIn_app (goodIn_of _ (by decide +kernel)) ggL_angle_X3_angle
theorem dL_angle_0 : decode cL_angle 0 = .ok (.aload_n 2, 1) := by decide +kernel
theorem dL_angle_1 : decode cL_angle 1 = .ok (.iconst 0, 1) := by decide +kernel
theorem dL_angle_2 : decode cL_angle 2 = .ok (.aload_n 0, 1) := by decide +kernel
theorem dL_angle_3 : decode cL_angle 3 = .ok (.iload_n 1, 1) := by decide +kernel
theorem dL_angle_4 : decode cL_angle 4 = .ok (.invokevirtual 33, 3) := by decide +kernel
theorem dL_angle_7 : decode cL_angle 7 = .ok (.i2l, 1) := by decide +kernel
theorem dL_angle_8 : decode cL_angle 8 = .ok (.lastore, 1) := by decide +kernel
theorem dL_angle_9 : decode cL_angle 9 = .ok (.goto 6, 3) := by decide +kernel
theorem dL_angle_12 : decode cL_angle 12 = .ok (.astore_n 3, 1) := by decide +kernel
theorem dL_angle_13 : decode cL_angle 13 = .ok (.iconst 1, 1) := by decide +kernel
theorem dL_angle_14 : decode cL_angle 14 = .ok (.ireturn, 1) := by decide +kernel
theorem dL_angle_15 : decode cL_angle 15 = .ok (.iconst 0, 1) := by decide +kernel
theorem dL_angle_16 : decode cL_angle 16 = .ok (.ireturn, 1) := by decide +kernel
set_option maxRecDepth 20000 in
theorem ggL_from_X3_from : GoodIn wsL_from wsX3_from := goodIn_ca (goodIn_r _ [6, 7, 8, 9, 10, 11, 12, 5, 13, 14, 15, 16, 17, 18, 19, 20, 21, 22, 23, 24, 25, 26, 27, 28, 29, 30, 31, 32, 33, 34, 35, 36, 37, 38, 39, 40, 41, 42, 43, 44] (by decide +kernel) (by decide +kernel)) (goodIn_sub (fun _ h => List.mem_cons_of_mem _ (List.mem_append_right _ h)) (by decide +kernel))
set_option maxRecDepth 20000 in
theorem gL_from_X3_from : GoodIn wsL_from (wsV RL 36 RX3 yX3_from wsX3_from) := goodIn_app (goodIn_of _ (by decide +kernel)) ggL_from_X3_from
theorem dL_from_0 : decode cL_from 0 = .ok (.aload_n 2, 1) := by decide +kernel
theorem dL_from_1 : decode cL_from 1 = .ok (.iconst 0, 1) := by decide +kernel
theorem dL_from_2 : decode cL_from 2 = .ok (.aload_n 0, 1) := by decide +kernel
theorem dL_from_3 : decode cL_from 3 = .ok (.iload_n 1, 1) := by decide +kernel
theorem dL_from_4 : decode cL_from 4 = .ok (.invokevirtual 36, 3) := by decide +kernel
theorem dL_from_7 : decode cL_from 7 = .ok (.i2l, 1) := by decide +kernel
theorem dL_from_8 : decode cL_from 8 = .ok (.lastore, 1) := by decide +kernel
theorem dL_from_9 : decode cL_from 9 = .ok (.goto 6, 3) := by decide +kernel
theorem dL_from_12 : decode cL_from 12 = .ok (.astore_n 3, 1) := by decide +kernel
theorem dL_from_13 : decode cL_from 13 = .ok (.iconst 1, 1) := by decide +kernel
theorem dL_from_14 : decode cL_from 14 = .ok (.ireturn, 1) := by decide +kernel
theorem dL_from_15 : decode cL_from 15 = .ok (.iconst 0, 1) := by decide +kernel
theorem dL_from_16 : decode cL_from 16 = .ok (.ireturn, 1) := by decide +kernel
set_option maxRecDepth 20000 in
theorem ggL_side_X3_side : GoodIn wsL_side wsX3_side := goodIn_ca (goodIn_r _ [6, 7, 8, 9, 10, 5, 11, 12, 13, 14, 15, 16, 17, 18, 19, 20, 21, 22, 23, 24, 25, 26, 27, 28, 29, 30, 31, 32, 33, 34, 35, 36, 37, 38, 39, 40, 41] (by decide +kernel) (by decide +kernel)) (goodIn_sub (fun _ h => List.mem_cons_of_mem _ (List.mem_append_right _ h)) (by decide +kernel))
set_option maxRecDepth 20000 in
theorem gL_side_X3_side : GoodIn wsL_side (wsV RL 39 RX3 yX3_side wsX3_side) := goodIn_app (goodIn_of _ (by decide +kernel)) ggL_side_X3_side
theorem dL_side_0 : decode cL_side 0 = .ok (.aload_n 2, 1) := by decide +kernel
theorem dL_side_1 : decode cL_side 1 = .ok (.iconst 0, 1) := by decide +kernel
theorem dL_side_2 : decode cL_side 2 = .ok (.aload_n 0, 1) := by decide +kernel
theorem dL_side_3 : decode cL_side 3 = .ok (.iload_n 1, 1) := by decide +kernel
theorem dL_side_4 : decode cL_side 4 = .ok (.invokevirtual 39, 3) := by decide +kernel
theorem dL_side_7 : decode cL_side 7 = .ok (.i2l, 1) := by decide +kernel
theorem dL_side_8 : decode cL_side 8 = .ok (.lastore, 1) := by decide +kernel
theorem dL_side_9 : decode cL_side 9 = .ok (.goto 6, 3) := by decide +kernel
theorem dL_side_12 : decode cL_side 12 = .ok (.astore_n 3, 1) := by decide +kernel
theorem dL_side_13 : decode cL_side 13 = .ok (.iconst 1, 1) := by decide +kernel
theorem dL_side_14 : decode cL_side 14 = .ok (.ireturn, 1) := by decide +kernel
theorem dL_side_15 : decode cL_side 15 = .ok (.iconst 0, 1) := by decide +kernel
theorem dL_side_16 : decode cL_side 16 = .ok (.ireturn, 1) := by decide +kernel
set_option maxRecDepth 20000 in
theorem ggL_best_X3_best : GoodIn wsL_best wsX3_best := goodIn_ca (goodIn_r _ [6, 7, 8, 9, 5, 10, 11, 12, 13, 14, 15, 16, 17, 18, 19, 20, 21, 22, 23, 24, 25, 26, 27, 28, 29, 30, 31, 32, 33, 34] (by decide +kernel) (by decide +kernel)) (goodIn_sub (fun _ h => List.mem_cons_of_mem _ (List.mem_append_right _ h)) (by decide +kernel))
set_option maxRecDepth 20000 in
theorem gL_best_X3_best : GoodIn wsL_best (wsV RL 42 RX3 yX3_best wsX3_best) := goodIn_app (goodIn_of _ (by decide +kernel)) ggL_best_X3_best
theorem dL_best_0 : decode cL_best 0 = .ok (.aload_n 3, 1) := by decide +kernel
theorem dL_best_1 : decode cL_best 1 = .ok (.iconst 0, 1) := by decide +kernel
theorem dL_best_2 : decode cL_best 2 = .ok (.aload_n 0, 1) := by decide +kernel
theorem dL_best_3 : decode cL_best 3 = .ok (.iload_n 1, 1) := by decide +kernel
theorem dL_best_4 : decode cL_best 4 = .ok (.iload_n 2, 1) := by decide +kernel
theorem dL_best_5 : decode cL_best 5 = .ok (.invokevirtual 42, 3) := by decide +kernel
theorem dL_best_8 : decode cL_best 8 = .ok (.i2l, 1) := by decide +kernel
theorem dL_best_9 : decode cL_best 9 = .ok (.lastore, 1) := by decide +kernel
theorem dL_best_10 : decode cL_best 10 = .ok (.goto 7, 3) := by decide +kernel
theorem dL_best_13 : decode cL_best 13 = .ok (.astore 4, 2) := by decide +kernel
theorem dL_best_15 : decode cL_best 15 = .ok (.iconst 1, 1) := by decide +kernel
theorem dL_best_16 : decode cL_best 16 = .ok (.ireturn, 1) := by decide +kernel
theorem dL_best_17 : decode cL_best 17 = .ok (.iconst 0, 1) := by decide +kernel
theorem dL_best_18 : decode cL_best 18 = .ok (.ireturn, 1) := by decide +kernel
set_option maxRecDepth 20000 in
theorem ggL_bestByLog_X3_bestByLog : GoodIn wsL_bestByLog wsX3_bestByLog := goodIn_ca (goodIn_r _ [6, 7, 8, 9, 10, 11, 12, 13, 14, 15, 5, 16, 17, 18, 19, 20, 21, 22, 23, 24, 25, 26, 27, 28, 29, 30, 31, 32, 33, 34, 35, 36, 37, 38, 39, 40, 41, 42, 43, 44, 45, 46, 47, 48, 49, 50, 51, 52, 53, 54, 55, 56, 57, 58, 59, 60, 61, 62, 63, 64, 65] (by decide +kernel) (by decide +kernel)) (goodIn_sub (fun _ h => List.mem_cons_of_mem _ (List.mem_append_right _ h)) (by decide +kernel))
set_option maxRecDepth 20000 in
theorem gL_bestByLog_X3_bestByLog : GoodIn wsL_bestByLog (wsV RL 46 RX3 yX3_bestByLog wsX3_bestByLog) := goodIn_app (goodIn_of _ (by decide +kernel)) ggL_bestByLog_X3_bestByLog
theorem dL_bestByLog_0 : decode cL_bestByLog 0 = .ok (.aload_n 3, 1) := by decide +kernel
theorem dL_bestByLog_1 : decode cL_bestByLog 1 = .ok (.iconst 0, 1) := by decide +kernel
theorem dL_bestByLog_2 : decode cL_bestByLog 2 = .ok (.aload_n 0, 1) := by decide +kernel
theorem dL_bestByLog_3 : decode cL_bestByLog 3 = .ok (.iload_n 1, 1) := by decide +kernel
theorem dL_bestByLog_4 : decode cL_bestByLog 4 = .ok (.iload_n 2, 1) := by decide +kernel
theorem dL_bestByLog_5 : decode cL_bestByLog 5 = .ok (.invokevirtual 46, 3) := by decide +kernel
theorem dL_bestByLog_8 : decode cL_bestByLog 8 = .ok (.i2l, 1) := by decide +kernel
theorem dL_bestByLog_9 : decode cL_bestByLog 9 = .ok (.lastore, 1) := by decide +kernel
theorem dL_bestByLog_10 : decode cL_bestByLog 10 = .ok (.goto 7, 3) := by decide +kernel
theorem dL_bestByLog_13 : decode cL_bestByLog 13 = .ok (.astore 4, 2) := by decide +kernel
theorem dL_bestByLog_15 : decode cL_bestByLog 15 = .ok (.iconst 1, 1) := by decide +kernel
theorem dL_bestByLog_16 : decode cL_bestByLog 16 = .ok (.ireturn, 1) := by decide +kernel
theorem dL_bestByLog_17 : decode cL_bestByLog 17 = .ok (.iconst 0, 1) := by decide +kernel
theorem dL_bestByLog_18 : decode cL_bestByLog 18 = .ok (.ireturn, 1) := by decide +kernel
set_option maxRecDepth 20000 in
theorem ggL_bestUp_X3_bestUp : GoodIn wsL_bestUp wsX3_bestUp := goodIn_ca (goodIn_r _ [6, 7, 8, 5, 9, 10, 11, 12, 13, 14, 15, 16, 17, 18, 19, 20, 21, 22, 23, 24, 25, 26, 27, 28, 29, 30, 31, 32, 33, 34, 35, 36, 37, 38, 39, 40, 41, 42, 43, 44, 45, 46, 47, 48, 49, 50, 51, 52, 53, 54] (by decide +kernel) (by decide +kernel)) (goodIn_sub (fun _ h => List.mem_cons_of_mem _ (List.mem_append_right _ h)) (by decide +kernel))
set_option maxRecDepth 20000 in
theorem gL_bestUp_X3_bestUp : GoodIn wsL_bestUp (wsV RL 49 RX3 yX3_bestUp wsX3_bestUp) := goodIn_app (goodIn_of _ (by decide +kernel)) ggL_bestUp_X3_bestUp
theorem dL_bestUp_0 : decode cL_bestUp 0 = .ok (.aload_n 2, 1) := by decide +kernel
theorem dL_bestUp_1 : decode cL_bestUp 1 = .ok (.iconst 0, 1) := by decide +kernel
theorem dL_bestUp_2 : decode cL_bestUp 2 = .ok (.aload_n 0, 1) := by decide +kernel
theorem dL_bestUp_3 : decode cL_bestUp 3 = .ok (.iload_n 1, 1) := by decide +kernel
theorem dL_bestUp_4 : decode cL_bestUp 4 = .ok (.invokevirtual 49, 3) := by decide +kernel
theorem dL_bestUp_7 : decode cL_bestUp 7 = .ok (.i2l, 1) := by decide +kernel
theorem dL_bestUp_8 : decode cL_bestUp 8 = .ok (.lastore, 1) := by decide +kernel
theorem dL_bestUp_9 : decode cL_bestUp 9 = .ok (.goto 6, 3) := by decide +kernel
theorem dL_bestUp_12 : decode cL_bestUp 12 = .ok (.astore_n 3, 1) := by decide +kernel
theorem dL_bestUp_13 : decode cL_bestUp 13 = .ok (.iconst 1, 1) := by decide +kernel
theorem dL_bestUp_14 : decode cL_bestUp 14 = .ok (.ireturn, 1) := by decide +kernel
theorem dL_bestUp_15 : decode cL_bestUp 15 = .ok (.iconst 0, 1) := by decide +kernel
theorem dL_bestUp_16 : decode cL_bestUp 16 = .ok (.ireturn, 1) := by decide +kernel
set_option maxRecDepth 20000 in
theorem ggL_bestDown_X3_bestDown : GoodIn wsL_bestDown wsX3_bestDown := goodIn_ca (goodIn_r _ [6, 7, 8, 5, 9, 10, 11, 12, 13, 14, 15, 16, 17, 18, 19, 20, 21, 22, 23, 24, 25, 26, 27, 28, 29, 30, 31, 32, 33, 34, 35, 36, 37, 38, 39, 40, 41, 42, 43, 44, 45, 46, 47, 48, 49, 50, 51, 52, 53, 54] (by decide +kernel) (by decide +kernel)) (goodIn_sub (fun _ h => List.mem_cons_of_mem _ (List.mem_append_right _ h)) (by decide +kernel))
set_option maxRecDepth 20000 in
theorem gL_bestDown_X3_bestDown : GoodIn wsL_bestDown (wsV RL 52 RX3 yX3_bestDown wsX3_bestDown) := goodIn_app (goodIn_of _ (by decide +kernel)) ggL_bestDown_X3_bestDown
theorem dL_bestDown_0 : decode cL_bestDown 0 = .ok (.aload_n 2, 1) := by decide +kernel
theorem dL_bestDown_1 : decode cL_bestDown 1 = .ok (.iconst 0, 1) := by decide +kernel
theorem dL_bestDown_2 : decode cL_bestDown 2 = .ok (.aload_n 0, 1) := by decide +kernel
theorem dL_bestDown_3 : decode cL_bestDown 3 = .ok (.iload_n 1, 1) := by decide +kernel
theorem dL_bestDown_4 : decode cL_bestDown 4 = .ok (.invokevirtual 52, 3) := by decide +kernel
theorem dL_bestDown_7 : decode cL_bestDown 7 = .ok (.i2l, 1) := by decide +kernel
theorem dL_bestDown_8 : decode cL_bestDown 8 = .ok (.lastore, 1) := by decide +kernel
theorem dL_bestDown_9 : decode cL_bestDown 9 = .ok (.goto 6, 3) := by decide +kernel
theorem dL_bestDown_12 : decode cL_bestDown 12 = .ok (.astore_n 3, 1) := by decide +kernel
theorem dL_bestDown_13 : decode cL_bestDown 13 = .ok (.iconst 1, 1) := by decide +kernel
theorem dL_bestDown_14 : decode cL_bestDown 14 = .ok (.ireturn, 1) := by decide +kernel
theorem dL_bestDown_15 : decode cL_bestDown 15 = .ok (.iconst 0, 1) := by decide +kernel
theorem dL_bestDown_16 : decode cL_bestDown 16 = .ok (.ireturn, 1) := by decide +kernel
set_option maxRecDepth 20000 in
theorem ggL_bestCourse_X3_bestCourse : GoodIn wsL_bestCourse wsX3_bestCourse := goodIn_ca (goodIn_ca (goodIn_r _ [7, 8, 9, 10, 11, 6, 12, 13, 14, 15, 16, 17, 18, 19, 20, 21, 22, 23, 24, 25, 26, 27, 28, 29, 30, 31, 32, 33, 34, 35, 36, 37, 38, 39, 40, 41, 42, 43, 44, 45, 46, 47, 48, 49, 50, 51, 52, 53, 54, 55, 56, 57, 58, 59, 60, 61, 62, 63, 64, 65, 66] (by decide +kernel) (by decide +kernel)) (goodIn_sub (fun _ h => List.mem_cons_of_mem _ (List.mem_append_left _ (List.mem_append_right _ h))) (by decide +kernel))) (goodIn_sub (fun _ h => List.mem_cons_of_mem _ (List.mem_append_right _ h)) (by decide +kernel))
set_option maxRecDepth 20000 in
theorem gL_bestCourse_X3_bestCourse : GoodIn wsL_bestCourse (wsV RL 55 RX3 yX3_bestCourse wsX3_bestCourse) := goodIn_app (goodIn_of _ (by decide +kernel)) ggL_bestCourse_X3_bestCourse
theorem dL_bestCourse_0 : decode cL_bestCourse 0 = .ok (.aload 4, 2) := by decide +kernel
theorem dL_bestCourse_2 : decode cL_bestCourse 2 = .ok (.iconst 0, 1) := by decide +kernel
theorem dL_bestCourse_3 : decode cL_bestCourse 3 = .ok (.aload_n 0, 1) := by decide +kernel
theorem dL_bestCourse_4 : decode cL_bestCourse 4 = .ok (.iload_n 1, 1) := by decide +kernel
theorem dL_bestCourse_5 : decode cL_bestCourse 5 = .ok (.iload_n 2, 1) := by decide +kernel
theorem dL_bestCourse_6 : decode cL_bestCourse 6 = .ok (.iload_n 3, 1) := by decide +kernel
theorem dL_bestCourse_7 : decode cL_bestCourse 7 = .ok (.invokevirtual 55, 3) := by decide +kernel
theorem dL_bestCourse_10 : decode cL_bestCourse 10 = .ok (.i2l, 1) := by decide +kernel
theorem dL_bestCourse_11 : decode cL_bestCourse 11 = .ok (.lastore, 1) := by decide +kernel
theorem dL_bestCourse_12 : decode cL_bestCourse 12 = .ok (.goto 11, 3) := by decide +kernel
theorem dL_bestCourse_15 : decode cL_bestCourse 15 = .ok (.astore 5, 2) := by decide +kernel
theorem dL_bestCourse_17 : decode cL_bestCourse 17 = .ok (.iconst 1, 1) := by decide +kernel
theorem dL_bestCourse_18 : decode cL_bestCourse 18 = .ok (.ireturn, 1) := by decide +kernel
theorem dL_bestCourse_19 : decode cL_bestCourse 19 = .ok (.astore 5, 2) := by decide +kernel
theorem dL_bestCourse_21 : decode cL_bestCourse 21 = .ok (.iconst 2, 1) := by decide +kernel
theorem dL_bestCourse_22 : decode cL_bestCourse 22 = .ok (.ireturn, 1) := by decide +kernel
theorem dL_bestCourse_23 : decode cL_bestCourse 23 = .ok (.iconst 0, 1) := by decide +kernel
theorem dL_bestCourse_24 : decode cL_bestCourse 24 = .ok (.ireturn, 1) := by decide +kernel
set_option maxRecDepth 20000 in
theorem ggL_turn_X3_turn : GoodIn wsL_turn wsX3_turn := goodIn_ca (goodIn_r _ [6, 7, 8, 9, 5, 10, 11, 12, 13, 14, 15, 16, 17, 18, 19, 20, 21, 22, 23, 24, 25, 26, 27, 28, 29, 30, 31, 32, 33, 34, 35, 36, 37, 38, 39, 40, 41, 42, 43, 44, 45, 46, 47, 48, 49, 50, 51, 52, 53, 54, 55] (by decide +kernel) (by decide +kernel)) (goodIn_sub (fun _ h => List.mem_cons_of_mem _ (List.mem_append_right _ h)) (by decide +kernel))
set_option maxRecDepth 20000 in
theorem gL_turn_X3_turn : GoodIn wsL_turn (wsV RL 58 RX3 yX3_turn wsX3_turn) := goodIn_app (goodIn_of _ (by decide +kernel)) ggL_turn_X3_turn
theorem dL_turn_0 : decode cL_turn 0 = .ok (.aload_n 2, 1) := by decide +kernel
theorem dL_turn_1 : decode cL_turn 1 = .ok (.iconst 0, 1) := by decide +kernel
theorem dL_turn_2 : decode cL_turn 2 = .ok (.aload_n 0, 1) := by decide +kernel
theorem dL_turn_3 : decode cL_turn 3 = .ok (.iload_n 1, 1) := by decide +kernel
theorem dL_turn_4 : decode cL_turn 4 = .ok (.invokevirtual 58, 3) := by decide +kernel
theorem dL_turn_7 : decode cL_turn 7 = .ok (.i2l, 1) := by decide +kernel
theorem dL_turn_8 : decode cL_turn 8 = .ok (.lastore, 1) := by decide +kernel
theorem dL_turn_9 : decode cL_turn 9 = .ok (.goto 6, 3) := by decide +kernel
theorem dL_turn_12 : decode cL_turn 12 = .ok (.astore_n 3, 1) := by decide +kernel
theorem dL_turn_13 : decode cL_turn 13 = .ok (.iconst 1, 1) := by decide +kernel
theorem dL_turn_14 : decode cL_turn 14 = .ok (.ireturn, 1) := by decide +kernel
theorem dL_turn_15 : decode cL_turn 15 = .ok (.iconst 0, 1) := by decide +kernel
theorem dL_turn_16 : decode cL_turn 16 = .ok (.ireturn, 1) := by decide +kernel
set_option maxRecDepth 20000 in
theorem ggL_cost_X3_cost : GoodIn wsL_cost wsX3_cost := goodIn_ca (goodIn_r _ [6, 7, 8, 9, 5, 10, 11, 12, 13, 14, 15, 16, 17, 18, 19, 20, 21, 22, 23, 24, 25, 26, 27, 28, 29, 30, 31, 32, 33, 34, 35, 36, 37, 38, 39, 40, 41, 42, 43, 44, 45, 46, 47, 48, 49, 50, 51, 52, 53, 54, 55, 56, 57, 58, 59, 60, 61, 62, 63, 64] (by decide +kernel) (by decide +kernel)) (goodIn_sub (fun _ h => List.mem_cons_of_mem _ (List.mem_append_right _ h)) (by decide +kernel))
set_option maxRecDepth 20000 in
theorem gL_cost_X3_cost : GoodIn wsL_cost (wsV RL 61 RX3 yX3_cost wsX3_cost) := goodIn_app (goodIn_of _ (by decide +kernel)) ggL_cost_X3_cost
theorem dL_cost_0 : decode cL_cost 0 = .ok (.aload_n 2, 1) := by decide +kernel
theorem dL_cost_1 : decode cL_cost 1 = .ok (.iconst 0, 1) := by decide +kernel
theorem dL_cost_2 : decode cL_cost 2 = .ok (.aload_n 0, 1) := by decide +kernel
theorem dL_cost_3 : decode cL_cost 3 = .ok (.iload_n 1, 1) := by decide +kernel
theorem dL_cost_4 : decode cL_cost 4 = .ok (.invokevirtual 61, 3) := by decide +kernel
theorem dL_cost_7 : decode cL_cost 7 = .ok (.i2l, 1) := by decide +kernel
theorem dL_cost_8 : decode cL_cost 8 = .ok (.lastore, 1) := by decide +kernel
theorem dL_cost_9 : decode cL_cost 9 = .ok (.goto 6, 3) := by decide +kernel
theorem dL_cost_12 : decode cL_cost 12 = .ok (.astore_n 3, 1) := by decide +kernel
theorem dL_cost_13 : decode cL_cost 13 = .ok (.iconst 1, 1) := by decide +kernel
theorem dL_cost_14 : decode cL_cost 14 = .ok (.ireturn, 1) := by decide +kernel
theorem dL_cost_15 : decode cL_cost 15 = .ok (.iconst 0, 1) := by decide +kernel
theorem dL_cost_16 : decode cL_cost 16 = .ok (.ireturn, 1) := by decide +kernel
set_option maxRecDepth 20000 in
theorem ggL_costs_X3_costs : GoodIn wsL_costs wsX3_costs := goodIn_ca (goodIn_r _ [6, 7, 8, 9, 5, 10, 11, 12, 13, 14, 15, 16, 17, 18, 19, 20, 21, 22, 23, 24, 25, 26, 27, 28, 29, 30, 31, 32, 33, 34, 35, 36, 37, 38, 39, 40, 41, 42, 43, 44, 45, 46, 47, 48, 49, 50, 51, 52, 53, 54, 55, 56, 57, 58, 59, 60] (by decide +kernel) (by decide +kernel)) (goodIn_sub (fun _ h => List.mem_cons_of_mem _ (List.mem_append_right _ h)) (by decide +kernel))
set_option maxRecDepth 20000 in
theorem gL_costs_X3_costs : GoodIn wsL_costs (wsV RL 64 RX3 yX3_costs wsX3_costs) := goodIn_app (goodIn_of _ (by decide +kernel)) ggL_costs_X3_costs
theorem dL_costs_0 : decode cL_costs 0 = .ok (.aload_n 2, 1) := by decide +kernel
theorem dL_costs_1 : decode cL_costs 1 = .ok (.iconst 0, 1) := by decide +kernel
theorem dL_costs_2 : decode cL_costs 2 = .ok (.aload_n 0, 1) := by decide +kernel
theorem dL_costs_3 : decode cL_costs 3 = .ok (.iload_n 1, 1) := by decide +kernel
theorem dL_costs_4 : decode cL_costs 4 = .ok (.invokevirtual 64, 3) := by decide +kernel
theorem dL_costs_7 : decode cL_costs 7 = .ok (.i2l, 1) := by decide +kernel
theorem dL_costs_8 : decode cL_costs 8 = .ok (.lastore, 1) := by decide +kernel
theorem dL_costs_9 : decode cL_costs 9 = .ok (.goto 6, 3) := by decide +kernel
theorem dL_costs_12 : decode cL_costs 12 = .ok (.astore_n 3, 1) := by decide +kernel
theorem dL_costs_13 : decode cL_costs 13 = .ok (.iconst 1, 1) := by decide +kernel
theorem dL_costs_14 : decode cL_costs 14 = .ok (.ireturn, 1) := by decide +kernel
theorem dL_costs_15 : decode cL_costs 15 = .ok (.iconst 0, 1) := by decide +kernel
theorem dL_costs_16 : decode cL_costs 16 = .ok (.ireturn, 1) := by decide +kernel
set_option maxRecDepth 20000 in
theorem ggL_east_X3_east : GoodIn wsL_east wsX3_east := goodIn_ca (goodIn_r _ [6, 7, 8, 9, 5, 10, 11, 12, 13, 14, 15, 16, 17, 18, 19, 20, 21, 22, 23, 24, 25, 26, 27, 28, 29, 30, 31, 32, 33, 34, 35, 36, 37, 38, 39, 40, 41, 42, 43, 44, 45, 46, 47, 48, 49, 50, 51, 52, 53, 54, 55, 56, 57, 58, 59, 60] (by decide +kernel) (by decide +kernel)) (goodIn_sub (fun _ h => List.mem_cons_of_mem _ (List.mem_append_right _ h)) (by decide +kernel))
set_option maxRecDepth 20000 in
theorem gL_east_X3_east : GoodIn wsL_east (wsV RL 67 RX3 yX3_east wsX3_east) := goodIn_app (goodIn_of _ (by decide +kernel)) ggL_east_X3_east
theorem dL_east_0 : decode cL_east 0 = .ok (.aload_n 2, 1) := by decide +kernel
theorem dL_east_1 : decode cL_east 1 = .ok (.iconst 0, 1) := by decide +kernel
theorem dL_east_2 : decode cL_east 2 = .ok (.aload_n 0, 1) := by decide +kernel
theorem dL_east_3 : decode cL_east 3 = .ok (.iload_n 1, 1) := by decide +kernel
theorem dL_east_4 : decode cL_east 4 = .ok (.invokevirtual 67, 3) := by decide +kernel
theorem dL_east_7 : decode cL_east 7 = .ok (.i2l, 1) := by decide +kernel
theorem dL_east_8 : decode cL_east 8 = .ok (.lastore, 1) := by decide +kernel
theorem dL_east_9 : decode cL_east 9 = .ok (.goto 6, 3) := by decide +kernel
theorem dL_east_12 : decode cL_east 12 = .ok (.astore_n 3, 1) := by decide +kernel
theorem dL_east_13 : decode cL_east 13 = .ok (.iconst 1, 1) := by decide +kernel
theorem dL_east_14 : decode cL_east 14 = .ok (.ireturn, 1) := by decide +kernel
theorem dL_east_15 : decode cL_east 15 = .ok (.iconst 0, 1) := by decide +kernel
theorem dL_east_16 : decode cL_east 16 = .ok (.ireturn, 1) := by decide +kernel
set_option maxRecDepth 20000 in
theorem ggL_north_X3_north : GoodIn wsL_north wsX3_north := goodIn_ca (goodIn_r _ [6, 7, 8, 9, 5, 10, 11, 12, 13, 14, 15, 16, 17, 18, 19, 20, 21, 22, 23, 24, 25, 26, 27, 28, 29, 30, 31, 32, 33, 34, 35, 36, 37, 38, 39, 40, 41, 42, 43, 44, 45, 46, 47, 48, 49, 50, 51, 52, 53, 54, 55, 56, 57, 58, 59, 60] (by decide +kernel) (by decide +kernel)) (goodIn_sub (fun _ h => List.mem_cons_of_mem _ (List.mem_append_right _ h)) (by decide +kernel))
set_option maxRecDepth 20000 in
theorem gL_north_X3_north : GoodIn wsL_north (wsV RL 70 RX3 yX3_north wsX3_north) := goodIn_app (goodIn_of _ (by decide +kernel)) ggL_north_X3_north
theorem dL_north_0 : decode cL_north 0 = .ok (.aload_n 2, 1) := by decide +kernel
theorem dL_north_1 : decode cL_north 1 = .ok (.iconst 0, 1) := by decide +kernel
theorem dL_north_2 : decode cL_north 2 = .ok (.aload_n 0, 1) := by decide +kernel
theorem dL_north_3 : decode cL_north 3 = .ok (.iload_n 1, 1) := by decide +kernel
theorem dL_north_4 : decode cL_north 4 = .ok (.invokevirtual 70, 3) := by decide +kernel
theorem dL_north_7 : decode cL_north 7 = .ok (.i2l, 1) := by decide +kernel
theorem dL_north_8 : decode cL_north 8 = .ok (.lastore, 1) := by decide +kernel
theorem dL_north_9 : decode cL_north 9 = .ok (.goto 6, 3) := by decide +kernel
theorem dL_north_12 : decode cL_north 12 = .ok (.astore_n 3, 1) := by decide +kernel
theorem dL_north_13 : decode cL_north 13 = .ok (.iconst 1, 1) := by decide +kernel
theorem dL_north_14 : decode cL_north 14 = .ok (.ireturn, 1) := by decide +kernel
theorem dL_north_15 : decode cL_north 15 = .ok (.iconst 0, 1) := by decide +kernel
theorem dL_north_16 : decode cL_north 16 = .ok (.ireturn, 1) := by decide +kernel
set_option maxRecDepth 20000 in
theorem ggL_law_X3_init : GoodIn wsL_law wsX3_init := goodIn_r _ [9, 10, 11, 12, 13, 14, 15, 16, 17, 18, 19, 20, 21, 22, 23, 24, 25, 26, 27, 28, 29, 30, 31, 32, 33, 34, 35, 36, 37, 38, 39, 40, 41, 544, 523, 524, 525, 526, 527, 528, 529, 530, 531, 545, 546, 547, 548, 549, 550, 551, 552, 553, 554] (by decide +kernel) (by decide +kernel)
set_option maxRecDepth 20000 in
theorem gL_law_X3_init : GoodIn wsL_law (wsX3_init) := ggL_law_X3_init
set_option maxRecDepth 20000 in
theorem ggL_law_X4_init : GoodIn wsL_law wsX4_init := goodIn_r _ [44, 45, 11, 12, 25, 46, 47, 48, 49, 50, 51, 52, 53, 532, 533, 534, 535, 536, 537, 538, 539, 540, 541, 542, 543] (by decide +kernel) (by decide +kernel)
set_option maxRecDepth 20000 in
theorem gL_law_X4_init : GoodIn wsL_law (wsX4_init) := ggL_law_X4_init
set_option maxRecDepth 20000 in
theorem ggL_law_L_log : GoodIn wsL_law wsL_log := goodIn_ca (goodIn_ca (goodIn_r _ [57, 58, 59, 60, 61, 62, 2, 63, 64, 65, 66, 18, 67, 68, 69, 70, 71, 24, 72, 73, 74, 75, 76, 77, 78, 79, 80, 81, 82, 83, 84, 85, 86, 28, 87, 88, 89, 90, 16, 91, 92, 93, 94, 95, 96, 97, 98, 99, 100, 101, 102, 103, 15, 104, 33, 105, 106, 107, 108, 109, 110, 111, 112, 113, 114, 115, 116, 117, 118, 119, 120, 121, 122, 123, 23, 124, 41, 125, 126, 127, 128, 129, 130, 131, 132, 20, 133, 134, 135, 136, 137, 138, 139, 140, 141, 142, 143, 144, 145, 146, 147, 148, 149, 150, 151, 523, 524, 525, 526, 527, 528, 529, 530, 531, 545, 546, 547, 548, 549, 550, 551, 552, 553, 544, 554] (by decide +kernel) (by decide +kernel)) (goodIn_sub (fun _ h => List.mem_append_left _ (List.mem_append_left _ (List.mem_append_right _ h))) (by decide +kernel))) (goodIn_sub (fun _ h => List.mem_append_left _ (List.mem_append_right _ h)) (by decide +kernel))
set_option maxRecDepth 20000 in
theorem gL_law_L_log : GoodIn wsL_law (va_wsS RL 77 yL_log wsL_log) := goodIn_app (goodIn_of _ (by decide +kernel)) ggL_law_L_log
set_option maxRecDepth 20000 in
theorem ggL_law_X4_log : GoodIn wsL_law wsX4_log := goodIn_r _ [155, 156, 46, 47, 48, 49, 50, 157, 158, 5, 159, 160, 161, 162, 163, 164, 532, 533, 534, 535, 536, 537, 538, 539, 540, 541, 542, 543] (by decide +kernel) (by decide +kernel)
set_option maxRecDepth 20000 in
theorem gL_law_X4_log : GoodIn wsL_law (wsV RL 82 RX4 yX4_log wsX4_log) := goodIn_app (goodIn_of _ (by decide +kernel)) ggL_law_X4_log
set_option maxRecDepth 20000 in
theorem ggL_law_X4_thrown : GoodIn wsL_law wsX4_thrown := goodIn_r _ [168, 164, 532, 533, 534, 535, 536, 537, 538, 539, 540, 541, 542, 543] (by decide +kernel) (by decide +kernel)
set_option maxRecDepth 20000 in
theorem gL_law_X4_thrown : GoodIn wsL_law (wsV RL 83 RX4 yX4_thrown wsX4_thrown) := goodIn_app (goodIn_of _ (by decide +kernel)) ggL_law_X4_thrown
set_option maxRecDepth 20000 in
theorem ggL_law_L_setFaults : GoodIn wsL_law wsL_setFaults := goodIn_ca (goodIn_r _ [171, 58, 172, 173, 174, 2, 175, 28, 88, 90, 72, 73, 74, 75, 76, 77, 78, 79, 176, 177, 178, 179, 24, 66, 18, 180, 181, 182, 23, 183, 41, 83, 84, 85, 86, 68, 87, 69, 89, 71, 70, 16, 91, 92, 93, 94, 95, 96, 97, 98, 99, 100, 101, 102, 103, 15, 104, 33, 105, 106, 107, 108, 109, 110, 111, 112, 113, 114, 115, 116, 117, 118, 119, 120, 121, 122, 123, 124, 125, 126, 127, 128, 129, 130, 131, 132, 20, 133, 134, 135, 136, 137, 138, 139, 140, 141, 142, 143, 144, 145, 146, 147, 148, 149, 150, 151, 523, 524, 525, 526, 527, 528, 529, 530, 531, 554, 545, 546, 547, 548, 549, 550, 551, 552, 553, 544] (by decide +kernel) (by decide +kernel)) (goodIn_sub (fun _ h => List.mem_append_left _ (List.mem_append_right _ h)) (by decide +kernel))
set_option maxRecDepth 20000 in
theorem gL_law_L_setFaults : GoodIn wsL_law (va_wsS RL 87 yL_setFaults wsL_setFaults) := goodIn_app (goodIn_of _ (by decide +kernel)) ggL_law_L_setFaults
set_option maxRecDepth 20000 in
theorem ggL_law_X4_setFaults : GoodIn wsL_law wsX4_setFaults := goodIn_r _ [187, 51, 188, 189, 157, 158, 5, 159, 160, 161, 162, 163, 164, 532, 533, 534, 535, 536, 537, 538, 539, 540, 541, 542, 543] (by decide +kernel) (by decide +kernel)
set_option maxRecDepth 20000 in
theorem gL_law_X4_setFaults : GoodIn wsL_law (wsV RL 90 RX4 yX4_setFaults wsX4_setFaults) := goodIn_app (goodIn_of _ (by decide +kernel)) ggL_law_X4_setFaults
set_option maxRecDepth 20000 in
theorem ggL_law_L_setTide : GoodIn wsL_law wsL_setTide := goodIn_ca (goodIn_ca (goodIn_r _ [192, 193, 58, 194, 195, 196, 2, 197, 198, 199, 27, 26, 72, 73, 74, 80, 81, 82, 75, 76, 77, 78, 79, 523, 524, 525, 526, 527, 528, 529, 530, 531] (by decide +kernel) (by decide +kernel)) (goodIn_sub (fun _ h => List.mem_append_right _ h) (by decide +kernel))) (goodIn_sub (fun _ h => List.mem_append_left _ (List.mem_append_right _ h)) (by decide +kernel))
set_option maxRecDepth 20000 in
theorem gL_law_L_setTide : GoodIn wsL_law (va_wsS RL 91 yL_setTide wsL_setTide) := goodIn_app (goodIn_of _ (by decide +kernel)) ggL_law_L_setTide
set_option maxRecDepth 20000 in
theorem ggL_law_X4_setTide : GoodIn wsL_law wsX4_setTide := goodIn_r _ [203, 53, 52, 157, 158, 5, 159, 160, 161, 162, 163, 164, 532, 533, 534, 535, 536, 537, 538, 539, 540, 541, 542, 543] (by decide +kernel) (by decide +kernel)
set_option maxRecDepth 20000 in
theorem gL_law_X4_setTide : GoodIn wsL_law (wsV RL 93 RX4 yX4_setTide wsX4_setTide) := goodIn_app (goodIn_of _ (by decide +kernel)) ggL_law_X4_setTide
set_option maxRecDepth 20000 in
theorem ggL_law_X3_entries : GoodIn wsL_law wsX3_entries := goodIn_r _ [207, 66, 523, 524, 525, 526, 527, 528, 529, 530, 531] (by decide +kernel) (by decide +kernel)
set_option maxRecDepth 20000 in
theorem gL_law_X3_entries : GoodIn wsL_law (wsV RL 94 RX3 yX3_entries wsX3_entries) := goodIn_app (goodIn_of _ (by decide +kernel)) ggL_law_X3_entries
set_option maxRecDepth 20000 in
theorem ggL_law_X4_entries : GoodIn wsL_law wsX4_entries := goodIn_r _ [211, 164, 156, 532, 533, 534, 535, 536, 537, 538, 539, 540, 541, 542, 543] (by decide +kernel) (by decide +kernel)
set_option maxRecDepth 20000 in
theorem gL_law_X4_entries : GoodIn wsL_law (wsV RL 97 RX4 yX4_entries wsX4_entries) := goodIn_app (goodIn_of _ (by decide +kernel)) ggL_law_X4_entries
set_option maxRecDepth 20000 in
theorem ggL_law_X3_sine : GoodIn wsL_law wsX3_sine := goodIn_r _ [215, 16, 106, 107, 108, 15, 109, 33, 105, 98, 99, 100, 523, 524, 525, 526, 527, 528, 529, 530, 531, 544] (by decide +kernel) (by decide +kernel)
set_option maxRecDepth 20000 in
theorem gL_law_X3_sine : GoodIn wsL_law (wsV RL 98 RX3 yX3_sine wsX3_sine) := goodIn_app (goodIn_of _ (by decide +kernel)) ggL_law_X3_sine
set_option maxRecDepth 20000 in
theorem ggL_law_X4_sine : GoodIn wsL_law wsX4_sine := goodIn_r _ [219, 164, 220, 221, 5, 222, 223, 224, 225, 226, 532, 533, 534, 535, 536, 537, 538, 539, 540, 541, 542, 543] (by decide +kernel) (by decide +kernel)
set_option maxRecDepth 20000 in
theorem gL_law_X4_sine : GoodIn wsL_law (wsV RL 101 RX4 yX4_sine wsX4_sine) := goodIn_app (goodIn_of _ (by decide +kernel)) ggL_law_X4_sine
set_option maxRecDepth 20000 in
theorem ggL_law_L_speed : GoodIn wsL_law wsL_speed := goodIn_ca (goodIn_r _ [229, 193, 230, 231, 232, 2, 233, 18, 87, 234, 235, 236, 237, 198, 199, 66, 72, 73, 74, 523, 524, 525, 526, 527, 528, 529, 530, 531, 545, 546, 547, 548, 549, 550, 551, 552, 553] (by decide +kernel) (by decide +kernel)) (goodIn_sub (fun _ h => List.mem_append_right _ h) (by decide +kernel))
set_option maxRecDepth 20000 in
theorem gL_law_L_speed : GoodIn wsL_law (va_wsS RL 102 yL_speed wsL_speed) := goodIn_app (goodIn_of _ (by decide +kernel)) ggL_law_L_speed
set_option maxRecDepth 20000 in
theorem ggL_law_X4_speed : GoodIn wsL_law wsX4_speed := goodIn_r _ [241, 242, 243, 244, 5, 245, 156, 157, 158, 159, 160, 161, 162, 163, 164, 246, 247, 248, 249, 47, 51, 532, 533, 534, 535, 536, 537, 538, 539, 540, 541, 542, 543] (by decide +kernel) (by decide +kernel)
set_option maxRecDepth 20000 in
theorem gL_law_X4_speed : GoodIn wsL_law (wsV RL 105 RX4 yX4_speed wsX4_speed) := goodIn_app (goodIn_of _ (by decide +kernel)) ggL_law_X4_speed
set_option maxRecDepth 20000 in
theorem ggL_law_L_strength : GoodIn wsL_law wsL_strength := goodIn_ca (goodIn_r _ [252, 193, 253, 254, 255, 2, 256, 18, 92, 234, 235, 236, 237, 198, 199, 66, 72, 73, 74, 523, 524, 525, 526, 527, 528, 529, 530, 531, 545, 546, 547, 548, 549, 550, 551, 552, 553] (by decide +kernel) (by decide +kernel)) (goodIn_sub (fun _ h => List.mem_append_right _ h) (by decide +kernel))
set_option maxRecDepth 20000 in
theorem gL_law_L_strength : GoodIn wsL_law (va_wsS RL 106 yL_strength wsL_strength) := goodIn_app (goodIn_of _ (by decide +kernel)) ggL_law_L_strength
set_option maxRecDepth 20000 in
theorem ggL_law_X4_strength : GoodIn wsL_law wsX4_strength := goodIn_r _ [260, 242, 243, 244, 5, 245, 156, 157, 158, 159, 160, 161, 162, 163, 164, 261, 262, 263, 264, 265, 266, 267, 268, 269, 49, 50, 189, 270, 271, 272, 224, 225, 226, 220, 221, 222, 223, 246, 247, 248, 249, 47, 51, 273, 274, 275, 276, 277, 278, 279, 280, 281, 532, 533, 534, 535, 536, 537, 538, 539, 540, 541, 542, 543] (by decide +kernel) (by decide +kernel)
set_option maxRecDepth 20000 in
theorem gL_law_X4_strength : GoodIn wsL_law (wsV RL 108 RX4 yX4_strength wsX4_strength) := goodIn_app (goodIn_of _ (by decide +kernel)) ggL_law_X4_strength
set_option maxRecDepth 20000 in
theorem ggL_law_L_angle : GoodIn wsL_law wsL_angle := goodIn_ca (goodIn_r _ [284, 193, 285, 286, 287, 2, 288, 18, 93, 234, 235, 236, 237, 198, 199, 66, 72, 73, 74, 523, 524, 525, 526, 527, 528, 529, 530, 531, 545, 546, 547, 548, 549, 550, 551, 552, 553] (by decide +kernel) (by decide +kernel)) (goodIn_sub (fun _ h => List.mem_append_right _ h) (by decide +kernel))
set_option maxRecDepth 20000 in
theorem gL_law_L_angle : GoodIn wsL_law (va_wsS RL 109 yL_angle wsL_angle) := goodIn_app (goodIn_of _ (by decide +kernel)) ggL_law_L_angle
set_option maxRecDepth 20000 in
theorem ggL_law_X4_angle : GoodIn wsL_law wsX4_angle := goodIn_r _ [292, 242, 243, 244, 5, 245, 156, 157, 158, 159, 160, 161, 162, 163, 164, 293, 294, 295, 296, 266, 267, 268, 269, 49, 50, 189, 265, 270, 271, 272, 224, 225, 226, 220, 221, 222, 223, 246, 247, 248, 249, 47, 51, 273, 274, 275, 276, 532, 533, 534, 535, 536, 537, 538, 539, 540, 541, 542, 543] (by decide +kernel) (by decide +kernel)
set_option maxRecDepth 20000 in
theorem gL_law_X4_angle : GoodIn wsL_law (wsV RL 111 RX4 yX4_angle wsX4_angle) := goodIn_app (goodIn_of _ (by decide +kernel)) ggL_law_X4_angle
set_option maxRecDepth 20000 in
theorem ggL_law_L_from : GoodIn wsL_law wsL_from := goodIn_ca (goodIn_r _ [299, 193, 300, 301, 302, 2, 303, 18, 89, 93, 234, 235, 236, 237, 198, 199, 66, 72, 73, 74, 94, 95, 96, 97, 98, 99, 100, 523, 524, 525, 526, 527, 528, 529, 530, 531, 545, 546, 547, 548, 549, 550, 551, 552, 553] (by decide +kernel) (by decide +kernel)) (goodIn_sub (fun _ h => List.mem_append_right _ h) (by decide +kernel))
set_option maxRecDepth 20000 in
theorem gL_law_L_from : GoodIn wsL_law (va_wsS RL 112 yL_from wsL_from) := goodIn_app (goodIn_of _ (by decide +kernel)) ggL_law_L_from
set_option maxRecDepth 20000 in
theorem ggL_law_X4_from : GoodIn wsL_law wsX4_from := goodIn_r _ [307, 242, 243, 244, 5, 245, 156, 157, 158, 159, 160, 161, 162, 163, 164, 308, 309, 310, 311, 48, 188, 224, 225, 226, 293, 294, 295, 296, 266, 267, 268, 269, 49, 50, 189, 265, 270, 271, 272, 220, 221, 222, 223, 246, 247, 248, 249, 47, 51, 273, 274, 275, 276, 532, 533, 534, 535, 536, 537, 538, 539, 540, 541, 542, 543] (by decide +kernel) (by decide +kernel)
set_option maxRecDepth 20000 in
theorem gL_law_X4_from : GoodIn wsL_law (wsV RL 114 RX4 yX4_from wsX4_from) := goodIn_app (goodIn_of _ (by decide +kernel)) ggL_law_X4_from
set_option maxRecDepth 20000 in
theorem ggL_law_L_side : GoodIn wsL_law wsL_side := goodIn_ca (goodIn_r _ [314, 193, 315, 316, 317, 2, 318, 18, 234, 235, 236, 237, 198, 199, 66, 72, 73, 74, 319, 320, 321, 20, 322, 138, 523, 524, 525, 526, 527, 528, 529, 530, 531, 545, 546, 547, 548, 549, 550, 551, 552, 553] (by decide +kernel) (by decide +kernel)) (goodIn_sub (fun _ h => List.mem_append_right _ h) (by decide +kernel))
set_option maxRecDepth 20000 in
theorem gL_law_L_side : GoodIn wsL_law (va_wsS RL 115 yL_side wsL_side) := goodIn_app (goodIn_of _ (by decide +kernel)) ggL_law_L_side
set_option maxRecDepth 20000 in
theorem ggL_law_X4_side : GoodIn wsL_law wsX4_side := goodIn_r _ [326, 242, 243, 244, 5, 245, 156, 157, 158, 159, 160, 161, 162, 163, 164, 327, 328, 329, 330, 293, 294, 295, 296, 266, 267, 268, 269, 49, 50, 189, 265, 270, 271, 272, 224, 225, 226, 220, 221, 222, 223, 246, 247, 248, 249, 47, 51, 273, 274, 275, 276, 532, 533, 534, 535, 536, 537, 538, 539, 540, 541, 542, 543] (by decide +kernel) (by decide +kernel)
set_option maxRecDepth 20000 in
theorem gL_law_X4_side : GoodIn wsL_law (wsV RL 117 RX4 yX4_side wsX4_side) := goodIn_app (goodIn_of _ (by decide +kernel)) ggL_law_X4_side
set_option maxRecDepth 20000 in
theorem ggL_law_L_best : GoodIn wsL_law wsL_best := goodIn_ca (goodIn_r _ [333, 193, 334, 335, 336, 2, 337, 24, 338, 339, 340, 198, 199, 72, 73, 74, 341, 342, 343, 344, 345, 346, 23, 347, 41, 523, 524, 525, 526, 527, 528, 529, 530, 531, 554] (by decide +kernel) (by decide +kernel)) (goodIn_sub (fun _ h => List.mem_append_right _ h) (by decide +kernel))
set_option maxRecDepth 20000 in
theorem gL_law_L_best : GoodIn wsL_law (va_wsS RL 118 yL_best wsL_best) := goodIn_app (goodIn_of _ (by decide +kernel)) ggL_law_L_best
set_option maxRecDepth 20000 in
theorem ggL_law_X4_best : GoodIn wsL_law wsX4_best := goodIn_r _ [351, 157, 158, 5, 159, 352, 353, 354, 160, 161, 162, 163, 164, 355, 356, 357, 358, 156, 261, 262, 263, 264, 265, 266, 267, 268, 269, 49, 50, 189, 270, 271, 272, 224, 225, 226, 220, 221, 222, 223, 246, 247, 248, 249, 47, 51, 273, 274, 275, 276, 277, 278, 279, 280, 281, 293, 294, 295, 296, 359, 360, 361, 532, 533, 534, 535, 536, 537, 538, 539, 540, 541, 542, 543] (by decide +kernel) (by decide +kernel)
set_option maxRecDepth 20000 in
theorem gL_law_X4_best : GoodIn wsL_law (wsV RL 121 RX4 yX4_best wsX4_best) := goodIn_app (goodIn_of _ (by decide +kernel)) ggL_law_X4_best
set_option maxRecDepth 20000 in
theorem ggL_law_L_bestByLog : GoodIn wsL_law wsL_bestByLog := goodIn_ca (goodIn_r _ [364, 193, 365, 366, 367, 2, 368, 66, 18, 87, 369, 127, 128, 129, 338, 339, 340, 198, 199, 72, 73, 74, 341, 342, 343, 370, 131, 132, 20, 133, 134, 135, 136, 137, 138, 139, 140, 141, 142, 143, 144, 145, 371, 147, 148, 149, 150, 151, 523, 524, 525, 526, 527, 528, 529, 530, 531, 545, 546, 547, 548, 549, 550, 551, 552, 553] (by decide +kernel) (by decide +kernel)) (goodIn_sub (fun _ h => List.mem_append_right _ h) (by decide +kernel))
set_option maxRecDepth 20000 in
theorem gL_law_L_bestByLog : GoodIn wsL_law (va_wsS RL 122 yL_bestByLog wsL_bestByLog) := goodIn_app (goodIn_of _ (by decide +kernel)) ggL_law_L_bestByLog
set_option maxRecDepth 20000 in
theorem ggL_law_X4_bestByLog : GoodIn wsL_law wsX4_bestByLog := goodIn_r _ [375, 376, 349, 350, 5, 351, 157, 158, 159, 352, 353, 354, 160, 161, 162, 163, 164, 355, 356, 357, 358, 156, 261, 262, 263, 264, 265, 266, 267, 268, 269, 49, 50, 189, 270, 271, 272, 224, 225, 226, 220, 221, 222, 223, 246, 247, 248, 249, 47, 51, 273, 274, 275, 276, 277, 278, 279, 280, 281, 293, 294, 295, 296, 359, 360, 361, 532, 533, 534, 535, 536, 537, 538, 539, 540, 541, 542, 543] (by decide +kernel) (by decide +kernel)
set_option maxRecDepth 20000 in
theorem gL_law_X4_bestByLog : GoodIn wsL_law (wsV RL 124 RX4 yX4_bestByLog wsX4_bestByLog) := goodIn_app (goodIn_of _ (by decide +kernel)) ggL_law_X4_bestByLog
set_option maxRecDepth 20000 in
theorem ggL_law_L_bestUp : GoodIn wsL_law wsL_bestUp := goodIn_ca (goodIn_r _ [379, 193, 380, 381, 382, 2, 383, 341, 342, 343, 198, 199, 72, 73, 74, 384, 385, 386, 387, 24, 16, 344, 345, 346, 23, 347, 41, 388, 389, 390, 141, 142, 128, 143, 101, 102, 103, 15, 104, 33, 105, 98, 99, 100, 523, 524, 525, 526, 527, 528, 529, 530, 531, 554, 544] (by decide +kernel) (by decide +kernel)) (goodIn_sub (fun _ h => List.mem_append_right _ h) (by decide +kernel))
set_option maxRecDepth 20000 in
theorem gL_law_L_bestUp : GoodIn wsL_law (va_wsS RL 125 yL_bestUp wsL_bestUp) := goodIn_app (goodIn_of _ (by decide +kernel)) ggL_law_L_bestUp
set_option maxRecDepth 20000 in
theorem ggL_law_X4_bestUp : GoodIn wsL_law wsX4_bestUp := goodIn_r _ [394, 352, 353, 5, 354, 157, 158, 159, 160, 161, 162, 163, 164, 355, 356, 357, 358, 156, 261, 262, 263, 264, 265, 266, 267, 268, 269, 49, 50, 189, 270, 271, 272, 224, 225, 226, 220, 221, 222, 223, 246, 247, 248, 249, 47, 51, 273, 274, 275, 276, 277, 278, 279, 280, 281, 293, 294, 295, 296, 359, 360, 361, 395, 396, 397, 532, 533, 534, 535, 536, 537, 538, 539, 540, 541, 542, 543] (by decide +kernel) (by decide +kernel)
set_option maxRecDepth 20000 in
theorem gL_law_X4_bestUp : GoodIn wsL_law (wsV RL 127 RX4 yX4_bestUp wsX4_bestUp) := goodIn_app (goodIn_of _ (by decide +kernel)) ggL_law_X4_bestUp
set_option maxRecDepth 20000 in
theorem ggL_law_L_bestDown : GoodIn wsL_law wsL_bestDown := goodIn_ca (goodIn_r _ [400, 193, 401, 402, 403, 2, 404, 341, 342, 343, 198, 199, 72, 73, 74, 384, 385, 386, 387, 24, 16, 344, 345, 346, 23, 347, 41, 388, 389, 390, 141, 142, 128, 143, 101, 102, 103, 15, 104, 33, 105, 98, 99, 100, 523, 524, 525, 526, 527, 528, 529, 530, 531, 554, 544] (by decide +kernel) (by decide +kernel)) (goodIn_sub (fun _ h => List.mem_append_right _ h) (by decide +kernel))
set_option maxRecDepth 20000 in
theorem gL_law_L_bestDown : GoodIn wsL_law (va_wsS RL 128 yL_bestDown wsL_bestDown) := goodIn_app (goodIn_of _ (by decide +kernel)) ggL_law_L_bestDown
set_option maxRecDepth 20000 in
theorem ggL_law_X4_bestDown : GoodIn wsL_law wsX4_bestDown := goodIn_r _ [408, 352, 353, 5, 354, 157, 158, 159, 160, 161, 162, 163, 164, 355, 356, 357, 358, 156, 261, 262, 263, 264, 265, 266, 267, 268, 269, 49, 50, 189, 270, 271, 272, 224, 225, 226, 220, 221, 222, 223, 246, 247, 248, 249, 47, 51, 273, 274, 275, 276, 277, 278, 279, 280, 281, 293, 294, 295, 296, 359, 360, 361, 395, 396, 397, 532, 533, 534, 535, 536, 537, 538, 539, 540, 541, 542, 543] (by decide +kernel) (by decide +kernel)
set_option maxRecDepth 20000 in
theorem gL_law_X4_bestDown : GoodIn wsL_law (wsV RL 130 RX4 yX4_bestDown wsX4_bestDown) := goodIn_app (goodIn_of _ (by decide +kernel)) ggL_law_X4_bestDown
set_option maxRecDepth 20000 in
theorem ggL_law_L_bestCourse : GoodIn wsL_law wsL_bestCourse := goodIn_ca (goodIn_ca (goodIn_r _ [411, 193, 58, 412, 413, 414, 2, 415, 24, 16, 341, 342, 343, 198, 199, 72, 73, 74, 80, 81, 82, 75, 76, 77, 78, 79, 94, 95, 96, 97, 98, 99, 100, 416, 139, 140, 141, 142, 128, 143, 417, 144, 145, 344, 345, 346, 23, 347, 41, 101, 102, 103, 15, 104, 33, 105, 523, 524, 525, 526, 527, 528, 529, 530, 531, 554, 544] (by decide +kernel) (by decide +kernel)) (goodIn_sub (fun _ h => List.mem_append_right _ h) (by decide +kernel))) (goodIn_sub (fun _ h => List.mem_append_left _ (List.mem_append_right _ h)) (by decide +kernel))
set_option maxRecDepth 20000 in
theorem gL_law_L_bestCourse : GoodIn wsL_law (va_wsS RL 131 yL_bestCourse wsL_bestCourse) := goodIn_app (goodIn_of _ (by decide +kernel)) ggL_law_L_bestCourse
set_option maxRecDepth 20000 in
theorem ggL_law_X4_bestCourse : GoodIn wsL_law wsX4_bestCourse := goodIn_r _ [421, 157, 158, 5, 159, 352, 353, 354, 160, 161, 162, 163, 164, 224, 225, 226, 359, 360, 361, 355, 356, 357, 358, 156, 261, 262, 263, 264, 265, 266, 267, 268, 269, 49, 50, 189, 270, 271, 272, 220, 221, 222, 223, 246, 247, 248, 249, 47, 51, 273, 274, 275, 276, 277, 278, 279, 280, 281, 293, 294, 295, 296, 532, 533, 534, 535, 536, 537, 538, 539, 540, 541, 542, 543] (by decide +kernel) (by decide +kernel)
set_option maxRecDepth 20000 in
theorem gL_law_X4_bestCourse : GoodIn wsL_law (wsV RL 133 RX4 yX4_bestCourse wsX4_bestCourse) := goodIn_app (goodIn_of _ (by decide +kernel)) ggL_law_X4_bestCourse
set_option maxRecDepth 20000 in
theorem ggL_law_L_turn : GoodIn wsL_law wsL_turn := goodIn_ca (goodIn_r _ [424, 193, 425, 426, 427, 2, 428, 234, 235, 236, 237, 198, 199, 66, 72, 73, 74, 429, 430, 431, 432, 18, 319, 320, 321, 20, 322, 138, 433, 135, 136, 137, 139, 140, 141, 142, 128, 143, 523, 524, 525, 526, 527, 528, 529, 530, 531, 545, 546, 547, 548, 549, 550, 551, 552, 553] (by decide +kernel) (by decide +kernel)) (goodIn_sub (fun _ h => List.mem_append_right _ h) (by decide +kernel))
set_option maxRecDepth 20000 in
theorem gL_law_L_turn : GoodIn wsL_law (va_wsS RL 134 yL_turn wsL_turn) := goodIn_app (goodIn_of _ (by decide +kernel)) ggL_law_L_turn
set_option maxRecDepth 20000 in
theorem ggL_law_X4_turn : GoodIn wsL_law wsX4_turn := goodIn_r _ [437, 242, 243, 244, 5, 245, 156, 157, 158, 159, 160, 161, 162, 163, 164, 438, 439, 440, 441, 327, 328, 329, 330, 293, 294, 295, 296, 266, 267, 268, 269, 49, 50, 189, 265, 270, 271, 272, 224, 225, 226, 220, 221, 222, 223, 246, 247, 248, 249, 47, 51, 273, 274, 275, 276, 359, 360, 361, 532, 533, 534, 535, 536, 537, 538, 539, 540, 541, 542, 543] (by decide +kernel) (by decide +kernel)
set_option maxRecDepth 20000 in
theorem gL_law_X4_turn : GoodIn wsL_law (wsV RL 136 RX4 yX4_turn wsX4_turn) := goodIn_app (goodIn_of _ (by decide +kernel)) ggL_law_X4_turn
set_option maxRecDepth 20000 in
theorem ggL_law_L_cost : GoodIn wsL_law wsL_cost := goodIn_ca (goodIn_r _ [444, 193, 445, 446, 447, 2, 448, 234, 235, 236, 237, 198, 199, 66, 72, 73, 74, 449, 450, 451, 452, 18, 87, 141, 142, 128, 143, 369, 127, 129, 67, 429, 430, 431, 432, 319, 320, 321, 20, 322, 138, 433, 135, 136, 137, 139, 140, 523, 524, 525, 526, 527, 528, 529, 530, 531, 545, 546, 547, 548, 549, 550, 551, 552, 553] (by decide +kernel) (by decide +kernel)) (goodIn_sub (fun _ h => List.mem_append_right _ h) (by decide +kernel))
set_option maxRecDepth 20000 in
theorem gL_law_L_cost : GoodIn wsL_law (va_wsS RL 137 yL_cost wsL_cost) := goodIn_app (goodIn_of _ (by decide +kernel)) ggL_law_L_cost
set_option maxRecDepth 20000 in
theorem ggL_law_X4_cost : GoodIn wsL_law wsX4_cost := goodIn_r _ [456, 242, 243, 244, 5, 245, 156, 157, 158, 159, 160, 161, 162, 163, 164, 438, 439, 440, 441, 327, 328, 329, 330, 293, 294, 295, 296, 266, 267, 268, 269, 49, 50, 189, 265, 270, 271, 272, 224, 225, 226, 220, 221, 222, 223, 246, 247, 248, 249, 47, 51, 273, 274, 275, 276, 359, 360, 361, 457, 458, 459, 460, 46, 532, 533, 534, 535, 536, 537, 538, 539, 540, 541, 542, 543] (by decide +kernel) (by decide +kernel)
set_option maxRecDepth 20000 in
theorem gL_law_X4_cost : GoodIn wsL_law (wsV RL 139 RX4 yX4_cost wsX4_cost) := goodIn_app (goodIn_of _ (by decide +kernel)) ggL_law_X4_cost
set_option maxRecDepth 20000 in
theorem ggL_law_L_costs : GoodIn wsL_law wsL_costs := goodIn_ca (goodIn_r _ [463, 58, 464, 465, 466, 2, 467, 66, 75, 76, 77, 78, 79, 429, 430, 431, 432, 18, 319, 320, 321, 20, 322, 138, 433, 135, 136, 137, 139, 140, 141, 142, 128, 143, 449, 450, 451, 452, 87, 369, 127, 129, 67, 523, 524, 525, 526, 527, 528, 529, 530, 531, 545, 546, 547, 548, 549, 550, 551, 552, 553] (by decide +kernel) (by decide +kernel)) (goodIn_sub (fun _ h => List.mem_append_left _ (List.mem_append_right _ h)) (by decide +kernel))
set_option maxRecDepth 20000 in
theorem gL_law_L_costs : GoodIn wsL_law (va_wsS RL 140 yL_costs wsL_costs) := goodIn_app (goodIn_of _ (by decide +kernel)) ggL_law_L_costs
set_option maxRecDepth 20000 in
theorem ggL_law_X4_costs : GoodIn wsL_law wsX4_costs := goodIn_r _ [471, 156, 160, 161, 162, 5, 163, 164, 438, 439, 440, 441, 327, 328, 329, 330, 293, 294, 295, 296, 266, 267, 268, 269, 49, 50, 189, 265, 270, 271, 272, 224, 225, 226, 220, 221, 222, 223, 246, 247, 248, 249, 47, 51, 273, 274, 275, 276, 359, 360, 361, 457, 458, 459, 460, 46, 532, 533, 534, 535, 536, 537, 538, 539, 540, 541, 542, 543] (by decide +kernel) (by decide +kernel)
set_option maxRecDepth 20000 in
theorem gL_law_X4_costs : GoodIn wsL_law (wsV RL 142 RX4 yX4_costs wsX4_costs) := goodIn_app (goodIn_of _ (by decide +kernel)) ggL_law_X4_costs
set_option maxRecDepth 20000 in
theorem ggL_law_L_east : GoodIn wsL_law wsL_east := goodIn_ca (goodIn_r _ [474, 193, 475, 476, 477, 2, 478, 234, 235, 236, 237, 198, 199, 66, 72, 73, 74, 479, 480, 481, 482, 18, 67, 87, 16, 89, 27, 26, 483, 106, 107, 108, 15, 109, 33, 105, 98, 99, 100, 484, 485, 486, 523, 524, 525, 526, 527, 528, 529, 530, 531, 545, 546, 547, 548, 549, 550, 551, 552, 553, 544] (by decide +kernel) (by decide +kernel)) (goodIn_sub (fun _ h => List.mem_append_right _ h) (by decide +kernel))
set_option maxRecDepth 20000 in
theorem gL_law_L_east : GoodIn wsL_law (va_wsS RL 143 yL_east wsL_east) := goodIn_app (goodIn_of _ (by decide +kernel)) ggL_law_L_east
set_option maxRecDepth 20000 in
theorem ggL_law_X4_east : GoodIn wsL_law wsX4_east := goodIn_r _ [490, 242, 243, 244, 5, 245, 156, 157, 158, 159, 160, 161, 162, 163, 164, 491, 492, 493, 494, 46, 53, 52, 495, 496, 246, 247, 248, 249, 47, 51, 308, 309, 310, 311, 48, 188, 224, 225, 226, 220, 221, 222, 223, 532, 533, 534, 535, 536, 537, 538, 539, 540, 541, 542, 543] (by decide +kernel) (by decide +kernel)
set_option maxRecDepth 20000 in
theorem gL_law_X4_east : GoodIn wsL_law (wsV RL 145 RX4 yX4_east wsX4_east) := goodIn_app (goodIn_of _ (by decide +kernel)) ggL_law_X4_east
set_option maxRecDepth 20000 in
theorem ggL_law_L_north : GoodIn wsL_law wsL_north := goodIn_ca (goodIn_r _ [499, 193, 500, 501, 502, 2, 503, 234, 235, 236, 237, 198, 199, 66, 72, 73, 74, 479, 480, 481, 482, 18, 67, 87, 16, 89, 27, 26, 483, 106, 107, 108, 15, 109, 33, 105, 98, 99, 100, 484, 485, 486, 523, 524, 525, 526, 527, 528, 529, 530, 531, 545, 546, 547, 548, 549, 550, 551, 552, 553, 544] (by decide +kernel) (by decide +kernel)) (goodIn_sub (fun _ h => List.mem_append_right _ h) (by decide +kernel))
set_option maxRecDepth 20000 in
theorem gL_law_L_north : GoodIn wsL_law (va_wsS RL 146 yL_north wsL_north) := goodIn_app (goodIn_of _ (by decide +kernel)) ggL_law_L_north
set_option maxRecDepth 20000 in
theorem ggL_law_X4_north : GoodIn wsL_law wsX4_north := goodIn_r _ [507, 242, 243, 244, 5, 245, 156, 157, 158, 159, 160, 161, 162, 163, 164, 491, 492, 493, 494, 46, 53, 52, 495, 496, 246, 247, 248, 249, 47, 51, 308, 309, 310, 311, 48, 188, 224, 225, 226, 220, 221, 222, 223, 532, 533, 534, 535, 536, 537, 538, 539, 540, 541, 542, 543] (by decide +kernel) (by decide +kernel)
set_option maxRecDepth 20000 in
theorem gL_law_X4_north : GoodIn wsL_law (wsV RL 148 RX4 yX4_north wsX4_north) := goodIn_app (goodIn_of _ (by decide +kernel)) ggL_law_X4_north
set_option maxRecDepth 20000 in
theorem ggL_law_X3_vaneShown : GoodIn wsL_law wsX3_vaneShown := goodIn_r _ [511, 512, 513, 514, 2, 515, 66, 18, 319, 320, 321, 20, 322, 138, 433, 135, 136, 137, 139, 140, 141, 142, 128, 143, 516, 517, 99, 518, 523, 524, 525, 526, 527, 528, 529, 530, 531, 545, 546, 547, 548, 549, 550, 551, 552, 553] (by decide +kernel) (by decide +kernel)
set_option maxRecDepth 20000 in
theorem gL_law_X3_vaneShown : GoodIn wsL_law (wsV RL 149 RX3 yX3_vaneShown wsX3_vaneShown) := goodIn_app (goodIn_of _ (by decide +kernel)) ggL_law_X3_vaneShown
set_option maxRecDepth 20000 in
theorem ggL_law_X4_vaneShown : GoodIn wsL_law wsX4_vaneShown := goodIn_r _ [522, 164, 156, 327, 328, 329, 5, 330, 293, 294, 295, 296, 266, 267, 268, 269, 49, 50, 189, 265, 270, 271, 272, 224, 225, 226, 220, 221, 222, 223, 246, 247, 248, 249, 47, 51, 273, 274, 275, 276, 359, 360, 361, 532, 533, 534, 535, 536, 537, 538, 539, 540, 541, 542, 543] (by decide +kernel) (by decide +kernel)
set_option maxRecDepth 20000 in
theorem gL_law_X4_vaneShown : GoodIn wsL_law (wsV RL 152 RX4 yX4_vaneShown wsX4_vaneShown) := goodIn_app (goodIn_of _ (by decide +kernel)) ggL_law_X4_vaneShown
