set_option maxRecDepth 20000 in
theorem ggL_logs_X3_log : GoodIn wsL_logs wsX3_log := goodIn_ca (goodIn_ca (goodIn_r _ [9, 10, 11, 12, 13, 14, 15, 16, 17, 18, 19, 20, 21, 8, 22, 23, 24, 25, 26, 27, 28, 29, 30, 31, 32, 33, 34, 35, 36, 37, 38, 39, 40, 41, 42, 43, 44, 45, 46, 47, 48, 49, 50, 51, 52, 53, 54, 55, 56, 57, 58, 59, 60, 61, 62, 63, 64, 65, 66, 67, 68, 69, 70, 71, 72, 73, 74, 75, 76, 77, 78, 79, 80, 81, 82, 83, 84, 85, 86, 87, 88, 89, 90, 91, 92, 93, 94, 95, 96, 97, 98, 99, 100, 101, 102, 103, 104, 105, 106, 107, 108, 109, 110, 111, 112, 113, 114, 115, 116, 117, 118, 119, 120, 121, 122, 123, 124, 125, 126] (by decide +kernel) (by decide +kernel)) (goodIn_sub (fun _ h => List.mem_cons_of_mem _ (List.mem_append_left _ (List.mem_append_right _ h))) (by decide +kernel))) (goodIn_sub (fun _ h => List.mem_cons_of_mem _ (List.mem_append_right _ h)) (by decide +kernel))
set_option maxRecDepth 20000 in
theorem gL_logs_X3_log : GoodIn wsL_logs (wsV RL 7 RX3 yX3_log wsX3_log) := goodIn_app (goodIn_of _ (by decide +kernel)) ggL_logs_X3_log
theorem dL_logs_0 : decode cL_logs 0 = .ok (.aload_n 0, 1) := by decide +kernel
theorem dL_logs_1 : decode cL_logs 1 = .ok (.iload_n 1, 1) := by decide +kernel
theorem dL_logs_2 : decode cL_logs 2 = .ok (.iload_n 2, 1) := by decide +kernel
theorem dL_logs_3 : decode cL_logs 3 = .ok (.iload_n 3, 1) := by decide +kernel
theorem dL_logs_4 : decode cL_logs 4 = .ok (.iload 4, 2) := by decide +kernel
theorem dL_logs_6 : decode cL_logs 6 = .ok (.iload 5, 2) := by decide +kernel
theorem dL_logs_8 : decode cL_logs 8 = .ok (.invokevirtual 7, 3) := by decide +kernel
theorem dL_logs_11 : decode cL_logs 11 = .ok (.ireturn, 1) := by decide +kernel
theorem dL_logs_12 : decode cL_logs 12 = .ok (.astore 6, 2) := by decide +kernel
theorem dL_logs_14 : decode cL_logs 14 = .ok (.ldc 15, 2) := by decide +kernel
theorem dL_logs_16 : decode cL_logs 16 = .ok (.ireturn, 1) := by decide +kernel
theorem dL_logs_17 : decode cL_logs 17 = .ok (.astore 6, 2) := by decide +kernel
theorem dL_logs_19 : decode cL_logs 19 = .ok (.ldc 18, 2) := by decide +kernel
theorem dL_logs_21 : decode cL_logs 21 = .ok (.ireturn, 1) := by decide +kernel
set_option maxRecDepth 20000 in
theorem ggL_faults_X3_setFaults : GoodIn wsL_faults wsX3_setFaults := goodIn_ca (goodIn_r _ [7, 8, 9, 10, 11, 12, 6, 13, 14, 15, 16, 17, 18, 19, 20, 21, 22, 23, 24, 25, 26, 27, 28, 29, 30, 31, 32, 33, 34, 35, 36, 37, 38, 39, 40, 41, 42, 43, 44, 45, 46, 47, 48, 49, 50, 51, 52, 53, 54, 55, 56, 57, 58, 59, 60, 61, 62, 63, 64, 65, 66, 67, 68, 69, 70, 71, 72, 73, 74, 75, 76, 77, 78, 79, 80, 81, 82, 83, 84, 85, 86, 87, 88, 89, 90, 91, 92, 93, 94, 95, 96, 97, 98, 99, 100, 101, 102, 103, 104, 105, 106, 107, 108, 109, 110, 111, 112, 113, 114, 115, 116, 117, 118, 119, 120, 121, 122, 123, 124, 125, 126] (by decide +kernel) (by decide +kernel)) (goodIn_sub (fun _ h => List.mem_cons_of_mem _ (List.mem_append_right _ h)) (by decide +kernel))
set_option maxRecDepth 20000 in
theorem gL_faults_X3_setFaults : GoodIn wsL_faults (wsV RL 19 RX3 yX3_setFaults wsX3_setFaults) := goodIn_app (goodIn_of _ (by decide +kernel)) ggL_faults_X3_setFaults
theorem dL_faults_0 : decode cL_faults 0 = .ok (.aload_n 0, 1) := by decide +kernel
theorem dL_faults_1 : decode cL_faults 1 = .ok (.iload_n 1, 1) := by decide +kernel
theorem dL_faults_2 : decode cL_faults 2 = .ok (.iload_n 2, 1) := by decide +kernel
theorem dL_faults_3 : decode cL_faults 3 = .ok (.iload_n 3, 1) := by decide +kernel
theorem dL_faults_4 : decode cL_faults 4 = .ok (.invokevirtual 19, 3) := by decide +kernel
theorem dL_faults_7 : decode cL_faults 7 = .ok (.ireturn, 1) := by decide +kernel
theorem dL_faults_8 : decode cL_faults 8 = .ok (.astore 4, 2) := by decide +kernel
theorem dL_faults_10 : decode cL_faults 10 = .ok (.ldc 15, 2) := by decide +kernel
theorem dL_faults_12 : decode cL_faults 12 = .ok (.ireturn, 1) := by decide +kernel
set_option maxRecDepth 20000 in
theorem ggL_tides_X3_setTide : GoodIn wsL_tides wsX3_setTide := goodIn_ca (goodIn_ca (goodIn_r _ [9, 10, 11, 12, 13, 14, 15, 8, 16, 17, 18, 19, 20, 21, 22, 23, 24, 25, 26, 27, 28, 29, 30, 31, 32, 33] (by decide +kernel) (by decide +kernel)) (goodIn_sub (fun _ h => List.mem_cons_of_mem _ (List.mem_append_left _ (List.mem_append_right _ h))) (by decide +kernel))) (goodIn_sub (fun _ h => List.mem_cons_of_mem _ (List.mem_append_right _ h)) (by decide +kernel))
set_option maxRecDepth 20000 in
theorem gL_tides_X3_setTide : GoodIn wsL_tides (wsV RL 23 RX3 yX3_setTide wsX3_setTide) := goodIn_app (goodIn_of _ (by decide +kernel)) ggL_tides_X3_setTide
theorem dL_tides_0 : decode cL_tides 0 = .ok (.aload_n 0, 1) := by decide +kernel
theorem dL_tides_1 : decode cL_tides 1 = .ok (.iload_n 1, 1) := by decide +kernel
theorem dL_tides_2 : decode cL_tides 2 = .ok (.iload_n 2, 1) := by decide +kernel
theorem dL_tides_3 : decode cL_tides 3 = .ok (.iload_n 3, 1) := by decide +kernel
theorem dL_tides_4 : decode cL_tides 4 = .ok (.invokevirtual 23, 3) := by decide +kernel
theorem dL_tides_7 : decode cL_tides 7 = .ok (.ireturn, 1) := by decide +kernel
theorem dL_tides_8 : decode cL_tides 8 = .ok (.astore 4, 2) := by decide +kernel
theorem dL_tides_10 : decode cL_tides 10 = .ok (.ldc 28, 2) := by decide +kernel
theorem dL_tides_12 : decode cL_tides 12 = .ok (.ireturn, 1) := by decide +kernel
theorem dL_tides_13 : decode cL_tides 13 = .ok (.astore 4, 2) := by decide +kernel
theorem dL_tides_15 : decode cL_tides 15 = .ok (.ldc 15, 2) := by decide +kernel
theorem dL_tides_17 : decode cL_tides 17 = .ok (.ireturn, 1) := by decide +kernel
set_option maxRecDepth 20000 in
theorem ggL_speed_X3_speed : GoodIn wsL_speed wsX3_speed := goodIn_ca (goodIn_r _ [7, 8, 9, 10, 11, 12, 6, 13, 14, 15, 16, 17, 18, 19, 20, 21, 22, 23, 24, 25, 26, 27, 28, 29, 30, 31, 32, 33, 34, 35, 36, 37] (by decide +kernel) (by decide +kernel)) (goodIn_sub (fun _ h => List.mem_cons_of_mem _ (List.mem_append_right _ h)) (by decide +kernel))
set_option maxRecDepth 20000 in
theorem gL_speed_X3_speed : GoodIn wsL_speed (wsV RL 29 RX3 yX3_speed wsX3_speed) := goodIn_app (goodIn_of _ (by decide +kernel)) ggL_speed_X3_speed
theorem dL_speed_0 : decode cL_speed 0 = .ok (.aload_n 0, 1) := by decide +kernel
theorem dL_speed_1 : decode cL_speed 1 = .ok (.iload_n 1, 1) := by decide +kernel
theorem dL_speed_2 : decode cL_speed 2 = .ok (.invokevirtual 29, 3) := by decide +kernel
theorem dL_speed_5 : decode cL_speed 5 = .ok (.ireturn, 1) := by decide +kernel
theorem dL_speed_6 : decode cL_speed 6 = .ok (.astore_n 2, 1) := by decide +kernel
theorem dL_speed_7 : decode cL_speed 7 = .ok (.ldc 28, 2) := by decide +kernel
theorem dL_speed_9 : decode cL_speed 9 = .ok (.ireturn, 1) := by decide +kernel
set_option maxRecDepth 20000 in
theorem ggL_strength_X3_strength : GoodIn wsL_strength wsX3_strength := goodIn_ca (goodIn_r _ [7, 8, 9, 10, 11, 12, 6, 13, 14, 15, 16, 17, 18, 19, 20, 21, 22, 23, 24, 25, 26, 27, 28, 29, 30, 31, 32, 33, 34, 35, 36, 37] (by decide +kernel) (by decide +kernel)) (goodIn_sub (fun _ h => List.mem_cons_of_mem _ (List.mem_append_right _ h)) (by decide +kernel))
set_option maxRecDepth 20000 in
theorem gL_strength_X3_strength : GoodIn wsL_strength (wsV RL 33 RX3 yX3_strength wsX3_strength) := goodIn_app (goodIn_of _ (by decide +kernel)) ggL_strength_X3_strength
theorem dL_strength_0 : decode cL_strength 0 = .ok (.aload_n 0, 1) := by decide +kernel
theorem dL_strength_1 : decode cL_strength 1 = .ok (.iload_n 1, 1) := by decide +kernel
theorem dL_strength_2 : decode cL_strength 2 = .ok (.invokevirtual 33, 3) := by decide +kernel
theorem dL_strength_5 : decode cL_strength 5 = .ok (.ireturn, 1) := by decide +kernel
theorem dL_strength_6 : decode cL_strength 6 = .ok (.astore_n 2, 1) := by decide +kernel
theorem dL_strength_7 : decode cL_strength 7 = .ok (.ldc 28, 2) := by decide +kernel
theorem dL_strength_9 : decode cL_strength 9 = .ok (.ireturn, 1) := by decide +kernel
set_option maxRecDepth 20000 in
theorem ggL_angle_X3_angle : GoodIn wsL_angle wsX3_angle := goodIn_ca (goodIn_r _ [7, 8, 9, 10, 11, 12, 6, 13, 14, 15, 16, 17, 18, 19, 20, 21, 22, 23, 24, 25, 26, 27, 28, 29, 30, 31, 32, 33, 34, 35, 36, 37] (by decide +kernel) (by decide +kernel)) (goodIn_sub (fun _ h => List.mem_cons_of_mem _ (List.mem_append_right _ h)) (by decide +kernel))
set_option maxRecDepth 20000 in
theorem gL_angle_X3_angle : GoodIn wsL_angle (wsV RL 36 RX3 yX3_angle wsX3_angle) := goodIn_app (goodIn_of _ (by decide +kernel)) ggL_angle_X3_angle
theorem dL_angle_0 : decode cL_angle 0 = .ok (.aload_n 0, 1) := by decide +kernel
theorem dL_angle_1 : decode cL_angle 1 = .ok (.iload_n 1, 1) := by decide +kernel
theorem dL_angle_2 : decode cL_angle 2 = .ok (.invokevirtual 36, 3) := by decide +kernel
theorem dL_angle_5 : decode cL_angle 5 = .ok (.ireturn, 1) := by decide +kernel
theorem dL_angle_6 : decode cL_angle 6 = .ok (.astore_n 2, 1) := by decide +kernel
theorem dL_angle_7 : decode cL_angle 7 = .ok (.ldc 28, 2) := by decide +kernel
theorem dL_angle_9 : decode cL_angle 9 = .ok (.ireturn, 1) := by decide +kernel
set_option maxRecDepth 20000 in
theorem ggL_from_X3_from : GoodIn wsL_from wsX3_from := goodIn_ca (goodIn_r _ [7, 8, 9, 10, 11, 12, 13, 6, 14, 15, 16, 17, 18, 19, 20, 21, 22, 23, 24, 25, 26, 27, 28, 29, 30, 31, 32, 33, 34, 35, 36, 37, 38, 39, 40, 41, 42, 43, 44, 45] (by decide +kernel) (by decide +kernel)) (goodIn_sub (fun _ h => List.mem_cons_of_mem _ (List.mem_append_right _ h)) (by decide +kernel))
set_option maxRecDepth 20000 in
theorem gL_from_X3_from : GoodIn wsL_from (wsV RL 39 RX3 yX3_from wsX3_from) := goodIn_app (goodIn_of _ (by decide +kernel)) ggL_from_X3_from
theorem dL_from_0 : decode cL_from 0 = .ok (.aload_n 0, 1) := by decide +kernel
theorem dL_from_1 : decode cL_from 1 = .ok (.iload_n 1, 1) := by decide +kernel
theorem dL_from_2 : decode cL_from 2 = .ok (.invokevirtual 39, 3) := by decide +kernel
theorem dL_from_5 : decode cL_from 5 = .ok (.ireturn, 1) := by decide +kernel
theorem dL_from_6 : decode cL_from 6 = .ok (.astore_n 2, 1) := by decide +kernel
theorem dL_from_7 : decode cL_from 7 = .ok (.ldc 28, 2) := by decide +kernel
theorem dL_from_9 : decode cL_from 9 = .ok (.ireturn, 1) := by decide +kernel
set_option maxRecDepth 20000 in
theorem ggL_side_X3_side : GoodIn wsL_side wsX3_side := goodIn_ca (goodIn_r _ [7, 8, 9, 10, 11, 6, 12, 13, 14, 15, 16, 17, 18, 19, 20, 21, 22, 23, 24, 25, 26, 27, 28, 29, 30, 31, 32, 33, 34, 35, 36, 37, 38, 39, 40, 41, 42] (by decide +kernel) (by decide +kernel)) (goodIn_sub (fun _ h => List.mem_cons_of_mem _ (List.mem_append_right _ h)) (by decide +kernel))
set_option maxRecDepth 20000 in
theorem gL_side_X3_side : GoodIn wsL_side (wsV RL 42 RX3 yX3_side wsX3_side) := goodIn_app (goodIn_of _ (by decide +kernel)) ggL_side_X3_side
theorem dL_side_0 : decode cL_side 0 = .ok (.aload_n 0, 1) := by decide +kernel
theorem dL_side_1 : decode cL_side 1 = .ok (.iload_n 1, 1) := by decide +kernel
theorem dL_side_2 : decode cL_side 2 = .ok (.invokevirtual 42, 3) := by decide +kernel
theorem dL_side_5 : decode cL_side 5 = .ok (.ireturn, 1) := by decide +kernel
theorem dL_side_6 : decode cL_side 6 = .ok (.astore_n 2, 1) := by decide +kernel
theorem dL_side_7 : decode cL_side 7 = .ok (.ldc 28, 2) := by decide +kernel
theorem dL_side_9 : decode cL_side 9 = .ok (.ireturn, 1) := by decide +kernel
set_option maxRecDepth 20000 in
theorem ggL_best_X3_best : GoodIn wsL_best wsX3_best := goodIn_ca (goodIn_r _ [7, 8, 9, 10, 6, 11, 12, 13, 14, 15, 16, 17, 18, 19, 20, 21, 22, 23, 24, 25, 26, 27, 28, 29, 30, 31, 32, 33, 34, 35] (by decide +kernel) (by decide +kernel)) (goodIn_sub (fun _ h => List.mem_cons_of_mem _ (List.mem_append_right _ h)) (by decide +kernel))
set_option maxRecDepth 20000 in
theorem gL_best_X3_best : GoodIn wsL_best (wsV RL 45 RX3 yX3_best wsX3_best) := goodIn_app (goodIn_of _ (by decide +kernel)) ggL_best_X3_best
theorem dL_best_0 : decode cL_best 0 = .ok (.aload_n 0, 1) := by decide +kernel
theorem dL_best_1 : decode cL_best 1 = .ok (.iload_n 1, 1) := by decide +kernel
theorem dL_best_2 : decode cL_best 2 = .ok (.iload_n 2, 1) := by decide +kernel
theorem dL_best_3 : decode cL_best 3 = .ok (.invokevirtual 45, 3) := by decide +kernel
theorem dL_best_6 : decode cL_best 6 = .ok (.ireturn, 1) := by decide +kernel
theorem dL_best_7 : decode cL_best 7 = .ok (.astore_n 3, 1) := by decide +kernel
theorem dL_best_8 : decode cL_best 8 = .ok (.ldc 28, 2) := by decide +kernel
theorem dL_best_10 : decode cL_best 10 = .ok (.ireturn, 1) := by decide +kernel
set_option maxRecDepth 20000 in
theorem ggL_byLog_X3_bestByLog : GoodIn wsL_byLog wsX3_bestByLog := goodIn_ca (goodIn_r _ [7, 8, 9, 10, 11, 12, 13, 14, 15, 16, 6, 17, 18, 19, 20, 21, 22, 23, 24, 25, 26, 27, 28, 29, 30, 31, 32, 33, 34, 35, 36, 37, 38, 39, 40, 41, 42, 43, 44, 45, 46, 47, 48, 49, 50, 51, 52, 53, 54, 55, 56, 57, 58, 59, 60, 61, 62, 63, 64, 65, 66] (by decide +kernel) (by decide +kernel)) (goodIn_sub (fun _ h => List.mem_cons_of_mem _ (List.mem_append_right _ h)) (by decide +kernel))
set_option maxRecDepth 20000 in
theorem gL_byLog_X3_bestByLog : GoodIn wsL_byLog (wsV RL 49 RX3 yX3_bestByLog wsX3_bestByLog) := goodIn_app (goodIn_of _ (by decide +kernel)) ggL_byLog_X3_bestByLog
theorem dL_byLog_0 : decode cL_byLog 0 = .ok (.aload_n 0, 1) := by decide +kernel
theorem dL_byLog_1 : decode cL_byLog 1 = .ok (.iload_n 1, 1) := by decide +kernel
theorem dL_byLog_2 : decode cL_byLog 2 = .ok (.iload_n 2, 1) := by decide +kernel
theorem dL_byLog_3 : decode cL_byLog 3 = .ok (.invokevirtual 49, 3) := by decide +kernel
theorem dL_byLog_6 : decode cL_byLog 6 = .ok (.ireturn, 1) := by decide +kernel
theorem dL_byLog_7 : decode cL_byLog 7 = .ok (.astore_n 3, 1) := by decide +kernel
theorem dL_byLog_8 : decode cL_byLog 8 = .ok (.ldc 28, 2) := by decide +kernel
theorem dL_byLog_10 : decode cL_byLog 10 = .ok (.ireturn, 1) := by decide +kernel
set_option maxRecDepth 20000 in
theorem ggL_up_X3_bestUp : GoodIn wsL_up wsX3_bestUp := goodIn_ca (goodIn_r _ [7, 8, 9, 6, 10, 11, 12, 13, 14, 15, 16, 17, 18, 19, 20, 21, 22, 23, 24, 25, 26, 27, 28, 29, 30, 31, 32, 33, 34, 35, 36, 37, 38, 39, 40, 41, 42, 43, 44, 45, 46, 47, 48, 49, 50, 51, 52, 53, 54, 55] (by decide +kernel) (by decide +kernel)) (goodIn_sub (fun _ h => List.mem_cons_of_mem _ (List.mem_append_right _ h)) (by decide +kernel))
set_option maxRecDepth 20000 in
theorem gL_up_X3_bestUp : GoodIn wsL_up (wsV RL 52 RX3 yX3_bestUp wsX3_bestUp) := goodIn_app (goodIn_of _ (by decide +kernel)) ggL_up_X3_bestUp
theorem dL_up_0 : decode cL_up 0 = .ok (.aload_n 0, 1) := by decide +kernel
theorem dL_up_1 : decode cL_up 1 = .ok (.iload_n 1, 1) := by decide +kernel
theorem dL_up_2 : decode cL_up 2 = .ok (.invokevirtual 52, 3) := by decide +kernel
theorem dL_up_5 : decode cL_up 5 = .ok (.ireturn, 1) := by decide +kernel
theorem dL_up_6 : decode cL_up 6 = .ok (.astore_n 2, 1) := by decide +kernel
theorem dL_up_7 : decode cL_up 7 = .ok (.ldc 28, 2) := by decide +kernel
theorem dL_up_9 : decode cL_up 9 = .ok (.ireturn, 1) := by decide +kernel
set_option maxRecDepth 20000 in
theorem ggL_down_X3_bestDown : GoodIn wsL_down wsX3_bestDown := goodIn_ca (goodIn_r _ [7, 8, 9, 6, 10, 11, 12, 13, 14, 15, 16, 17, 18, 19, 20, 21, 22, 23, 24, 25, 26, 27, 28, 29, 30, 31, 32, 33, 34, 35, 36, 37, 38, 39, 40, 41, 42, 43, 44, 45, 46, 47, 48, 49, 50, 51, 52, 53, 54, 55] (by decide +kernel) (by decide +kernel)) (goodIn_sub (fun _ h => List.mem_cons_of_mem _ (List.mem_append_right _ h)) (by decide +kernel))
set_option maxRecDepth 20000 in
theorem gL_down_X3_bestDown : GoodIn wsL_down (wsV RL 55 RX3 yX3_bestDown wsX3_bestDown) := goodIn_app (goodIn_of _ (by decide +kernel)) ggL_down_X3_bestDown
theorem dL_down_0 : decode cL_down 0 = .ok (.aload_n 0, 1) := by decide +kernel
theorem dL_down_1 : decode cL_down 1 = .ok (.iload_n 1, 1) := by decide +kernel
theorem dL_down_2 : decode cL_down 2 = .ok (.invokevirtual 55, 3) := by decide +kernel
theorem dL_down_5 : decode cL_down 5 = .ok (.ireturn, 1) := by decide +kernel
theorem dL_down_6 : decode cL_down 6 = .ok (.astore_n 2, 1) := by decide +kernel
theorem dL_down_7 : decode cL_down 7 = .ok (.ldc 28, 2) := by decide +kernel
theorem dL_down_9 : decode cL_down 9 = .ok (.ireturn, 1) := by decide +kernel
set_option maxRecDepth 20000 in
theorem ggL_course_X3_bestCourse : GoodIn wsL_course wsX3_bestCourse := goodIn_ca (goodIn_ca (goodIn_r _ [9, 10, 11, 12, 13, 8, 14, 15, 16, 17, 18, 19, 20, 21, 22, 23, 24, 25, 26, 27, 28, 29, 30, 31, 32, 33, 34, 35, 36, 37, 38, 39, 40, 41, 42, 43, 44, 45, 46, 47, 48, 49, 50, 51, 52, 53, 54, 55, 56, 57, 58, 59, 60, 61, 62, 63, 64, 65, 66, 67, 68] (by decide +kernel) (by decide +kernel)) (goodIn_sub (fun _ h => List.mem_cons_of_mem _ (List.mem_append_left _ (List.mem_append_right _ h))) (by decide +kernel))) (goodIn_sub (fun _ h => List.mem_cons_of_mem _ (List.mem_append_right _ h)) (by decide +kernel))
set_option maxRecDepth 20000 in
theorem gL_course_X3_bestCourse : GoodIn wsL_course (wsV RL 58 RX3 yX3_bestCourse wsX3_bestCourse) := goodIn_app (goodIn_of _ (by decide +kernel)) ggL_course_X3_bestCourse
theorem dL_course_0 : decode cL_course 0 = .ok (.aload_n 0, 1) := by decide +kernel
theorem dL_course_1 : decode cL_course 1 = .ok (.iload_n 1, 1) := by decide +kernel
theorem dL_course_2 : decode cL_course 2 = .ok (.iload_n 2, 1) := by decide +kernel
theorem dL_course_3 : decode cL_course 3 = .ok (.iload_n 3, 1) := by decide +kernel
theorem dL_course_4 : decode cL_course 4 = .ok (.invokevirtual 58, 3) := by decide +kernel
theorem dL_course_7 : decode cL_course 7 = .ok (.ireturn, 1) := by decide +kernel
theorem dL_course_8 : decode cL_course 8 = .ok (.astore 4, 2) := by decide +kernel
theorem dL_course_10 : decode cL_course 10 = .ok (.ldc 28, 2) := by decide +kernel
theorem dL_course_12 : decode cL_course 12 = .ok (.ireturn, 1) := by decide +kernel
theorem dL_course_13 : decode cL_course 13 = .ok (.astore 4, 2) := by decide +kernel
theorem dL_course_15 : decode cL_course 15 = .ok (.ldc 15, 2) := by decide +kernel
theorem dL_course_17 : decode cL_course 17 = .ok (.ireturn, 1) := by decide +kernel
set_option maxRecDepth 20000 in
theorem ggL_turn_X3_turn : GoodIn wsL_turn wsX3_turn := goodIn_ca (goodIn_r _ [7, 8, 9, 10, 6, 11, 12, 13, 14, 15, 16, 17, 18, 19, 20, 21, 22, 23, 24, 25, 26, 27, 28, 29, 30, 31, 32, 33, 34, 35, 36, 37, 38, 39, 40, 41, 42, 43, 44, 45, 46, 47, 48, 49, 50, 51, 52, 53, 54, 55, 56] (by decide +kernel) (by decide +kernel)) (goodIn_sub (fun _ h => List.mem_cons_of_mem _ (List.mem_append_right _ h)) (by decide +kernel))
set_option maxRecDepth 20000 in
theorem gL_turn_X3_turn : GoodIn wsL_turn (wsV RL 61 RX3 yX3_turn wsX3_turn) := goodIn_app (goodIn_of _ (by decide +kernel)) ggL_turn_X3_turn
theorem dL_turn_0 : decode cL_turn 0 = .ok (.aload_n 0, 1) := by decide +kernel
theorem dL_turn_1 : decode cL_turn 1 = .ok (.iload_n 1, 1) := by decide +kernel
theorem dL_turn_2 : decode cL_turn 2 = .ok (.invokevirtual 61, 3) := by decide +kernel
theorem dL_turn_5 : decode cL_turn 5 = .ok (.ireturn, 1) := by decide +kernel
theorem dL_turn_6 : decode cL_turn 6 = .ok (.astore_n 2, 1) := by decide +kernel
theorem dL_turn_7 : decode cL_turn 7 = .ok (.ldc 28, 2) := by decide +kernel
theorem dL_turn_9 : decode cL_turn 9 = .ok (.ireturn, 1) := by decide +kernel
set_option maxRecDepth 20000 in
theorem ggL_cost_X3_cost : GoodIn wsL_cost wsX3_cost := goodIn_ca (goodIn_r _ [7, 8, 9, 10, 6, 11, 12, 13, 14, 15, 16, 17, 18, 19, 20, 21, 22, 23, 24, 25, 26, 27, 28, 29, 30, 31, 32, 33, 34, 35, 36, 37, 38, 39, 40, 41, 42, 43, 44, 45, 46, 47, 48, 49, 50, 51, 52, 53, 54, 55, 56, 57, 58, 59, 60, 61, 62, 63, 64, 65] (by decide +kernel) (by decide +kernel)) (goodIn_sub (fun _ h => List.mem_cons_of_mem _ (List.mem_append_right _ h)) (by decide +kernel))
set_option maxRecDepth 20000 in
theorem gL_cost_X3_cost : GoodIn wsL_cost (wsV RL 64 RX3 yX3_cost wsX3_cost) := goodIn_app (goodIn_of _ (by decide +kernel)) ggL_cost_X3_cost
theorem dL_cost_0 : decode cL_cost 0 = .ok (.aload_n 0, 1) := by decide +kernel
theorem dL_cost_1 : decode cL_cost 1 = .ok (.iload_n 1, 1) := by decide +kernel
theorem dL_cost_2 : decode cL_cost 2 = .ok (.invokevirtual 64, 3) := by decide +kernel
theorem dL_cost_5 : decode cL_cost 5 = .ok (.ireturn, 1) := by decide +kernel
theorem dL_cost_6 : decode cL_cost 6 = .ok (.astore_n 2, 1) := by decide +kernel
theorem dL_cost_7 : decode cL_cost 7 = .ok (.ldc 28, 2) := by decide +kernel
theorem dL_cost_9 : decode cL_cost 9 = .ok (.ireturn, 1) := by decide +kernel
set_option maxRecDepth 20000 in
theorem ggL_costs_X3_costs : GoodIn wsL_costs wsX3_costs := goodIn_ca (goodIn_r _ [7, 8, 9, 10, 6, 11, 12, 13, 14, 15, 16, 17, 18, 19, 20, 21, 22, 23, 24, 25, 26, 27, 28, 29, 30, 31, 32, 33, 34, 35, 36, 37, 38, 39, 40, 41, 42, 43, 44, 45, 46, 47, 48, 49, 50, 51, 52, 53, 54, 55, 56, 57, 58, 59, 60, 61] (by decide +kernel) (by decide +kernel)) (goodIn_sub (fun _ h => List.mem_cons_of_mem _ (List.mem_append_right _ h)) (by decide +kernel))
set_option maxRecDepth 20000 in
theorem gL_costs_X3_costs : GoodIn wsL_costs (wsV RL 67 RX3 yX3_costs wsX3_costs) := goodIn_app (goodIn_of _ (by decide +kernel)) ggL_costs_X3_costs
theorem dL_costs_0 : decode cL_costs 0 = .ok (.aload_n 0, 1) := by decide +kernel
theorem dL_costs_1 : decode cL_costs 1 = .ok (.iload_n 1, 1) := by decide +kernel
theorem dL_costs_2 : decode cL_costs 2 = .ok (.invokevirtual 67, 3) := by decide +kernel
theorem dL_costs_5 : decode cL_costs 5 = .ok (.ireturn, 1) := by decide +kernel
theorem dL_costs_6 : decode cL_costs 6 = .ok (.astore_n 2, 1) := by decide +kernel
theorem dL_costs_7 : decode cL_costs 7 = .ok (.ldc 15, 2) := by decide +kernel
theorem dL_costs_9 : decode cL_costs 9 = .ok (.ireturn, 1) := by decide +kernel
set_option maxRecDepth 20000 in
theorem ggL_east_X3_east : GoodIn wsL_east wsX3_east := goodIn_ca (goodIn_r _ [7, 8, 9, 10, 6, 11, 12, 13, 14, 15, 16, 17, 18, 19, 20, 21, 22, 23, 24, 25, 26, 27, 28, 29, 30, 31, 32, 33, 34, 35, 36, 37, 38, 39, 40, 41, 42, 43, 44, 45, 46, 47, 48, 49, 50, 51, 52, 53, 54, 55, 56, 57, 58, 59, 60, 61] (by decide +kernel) (by decide +kernel)) (goodIn_sub (fun _ h => List.mem_cons_of_mem _ (List.mem_append_right _ h)) (by decide +kernel))
set_option maxRecDepth 20000 in
theorem gL_east_X3_east : GoodIn wsL_east (wsV RL 70 RX3 yX3_east wsX3_east) := goodIn_app (goodIn_of _ (by decide +kernel)) ggL_east_X3_east
theorem dL_east_0 : decode cL_east 0 = .ok (.aload_n 0, 1) := by decide +kernel
theorem dL_east_1 : decode cL_east 1 = .ok (.iload_n 1, 1) := by decide +kernel
theorem dL_east_2 : decode cL_east 2 = .ok (.invokevirtual 70, 3) := by decide +kernel
theorem dL_east_5 : decode cL_east 5 = .ok (.ireturn, 1) := by decide +kernel
theorem dL_east_6 : decode cL_east 6 = .ok (.astore_n 2, 1) := by decide +kernel
theorem dL_east_7 : decode cL_east 7 = .ok (.ldc 28, 2) := by decide +kernel
theorem dL_east_9 : decode cL_east 9 = .ok (.ireturn, 1) := by decide +kernel
set_option maxRecDepth 20000 in
theorem ggL_north_X3_north : GoodIn wsL_north wsX3_north := goodIn_ca (goodIn_r _ [7, 8, 9, 10, 6, 11, 12, 13, 14, 15, 16, 17, 18, 19, 20, 21, 22, 23, 24, 25, 26, 27, 28, 29, 30, 31, 32, 33, 34, 35, 36, 37, 38, 39, 40, 41, 42, 43, 44, 45, 46, 47, 48, 49, 50, 51, 52, 53, 54, 55, 56, 57, 58, 59, 60, 61] (by decide +kernel) (by decide +kernel)) (goodIn_sub (fun _ h => List.mem_cons_of_mem _ (List.mem_append_right _ h)) (by decide +kernel))
set_option maxRecDepth 20000 in
theorem gL_north_X3_north : GoodIn wsL_north (wsV RL 73 RX3 yX3_north wsX3_north) := goodIn_app (goodIn_of _ (by decide +kernel)) ggL_north_X3_north
theorem dL_north_0 : decode cL_north 0 = .ok (.aload_n 0, 1) := by decide +kernel
theorem dL_north_1 : decode cL_north 1 = .ok (.iload_n 1, 1) := by decide +kernel
theorem dL_north_2 : decode cL_north 2 = .ok (.invokevirtual 73, 3) := by decide +kernel
theorem dL_north_5 : decode cL_north 5 = .ok (.ireturn, 1) := by decide +kernel
theorem dL_north_6 : decode cL_north 6 = .ok (.astore_n 2, 1) := by decide +kernel
theorem dL_north_7 : decode cL_north 7 = .ok (.ldc 28, 2) := by decide +kernel
theorem dL_north_9 : decode cL_north 9 = .ok (.ireturn, 1) := by decide +kernel
theorem dL_drawn_0 : decode cL_drawn 0 = .ok (.iload_n 1, 1) := by decide +kernel
theorem dL_drawn_1 : decode cL_drawn 1 = .ok (.aload_n 0, 1) := by decide +kernel
theorem dL_drawn_2 : decode cL_drawn 2 = .ok (.arraylength, 1) := by decide +kernel
theorem dL_drawn_3 : decode cL_drawn 3 = .ok (.if_icmp .ge 9, 3) := by decide +kernel
theorem dL_drawn_6 : decode cL_drawn 6 = .ok (.aload_n 0, 1) := by decide +kernel
theorem dL_drawn_7 : decode cL_drawn 7 = .ok (.iload_n 1, 1) := by decide +kernel
theorem dL_drawn_8 : decode cL_drawn 8 = .ok (.iaload, 1) := by decide +kernel
theorem dL_drawn_9 : decode cL_drawn 9 = .ok (.goto 13, 3) := by decide +kernel
theorem dL_drawn_12 : decode cL_drawn 12 = .ok (.ldc 76, 2) := by decide +kernel
theorem dL_drawn_14 : decode cL_drawn 14 = .ok (.iload_n 1, 1) := by decide +kernel
theorem dL_drawn_15 : decode cL_drawn 15 = .ok (.iconst 3, 1) := by decide +kernel
theorem dL_drawn_16 : decode cL_drawn 16 = .ok (.iadd, 1) := by decide +kernel
theorem dL_drawn_17 : decode cL_drawn 17 = .ok (.imul, 1) := by decide +kernel
theorem dL_drawn_18 : decode cL_drawn 18 = .ok (.sipush 13841, 3) := by decide +kernel
theorem dL_drawn_21 : decode cL_drawn 21 = .ok (.iadd, 1) := by decide +kernel
theorem dL_drawn_22 : decode cL_drawn 22 = .ok (.ldc 77, 2) := by decide +kernel
theorem dL_drawn_24 : decode cL_drawn 24 = .ok (.iand, 1) := by decide +kernel
theorem dL_drawn_25 : decode cL_drawn 25 = .ok (.ireturn, 1) := by decide +kernel
set_option maxRecDepth 20000 in
theorem ggL_refuses_X3_entries : GoodIn wsL_refuses wsX3_entries := goodIn_r _ [8, 9, 295, 296, 297, 298, 299, 300, 301, 302, 303] (by decide +kernel) (by decide +kernel)
set_option maxRecDepth 20000 in
theorem gL_refuses_X3_entries : GoodIn wsL_refuses (wsV RL 78 RX3 yX3_entries wsX3_entries) := goodIn_app (goodIn_of _ (by decide +kernel)) ggL_refuses_X3_entries
set_option maxRecDepth 20000 in
theorem ggL_refuses_L_logs : GoodIn wsL_refuses wsL_logs := goodIn_ca (goodIn_ca (goodIn_r _ [13, 14, 15, 1, 3, 16, 17, 18, 7, 19, 20, 21, 9, 22, 23, 24, 25, 26, 27, 28, 29, 30, 31, 32, 33, 34, 35, 36, 37, 38, 39, 40, 41, 42, 43, 44, 45, 46, 47, 48, 49, 50, 51, 52, 53, 54, 55, 56, 57, 58, 59, 60, 61, 62, 63, 64, 65, 66, 67, 68, 69, 70, 71, 72, 73, 74, 75, 76, 77, 78, 79, 80, 81, 82, 83, 84, 85, 86, 87, 88, 89, 90, 91, 92, 93, 94, 95, 96, 97, 98, 99, 100, 101, 102, 103, 104, 105, 106, 107, 108, 109, 110, 111, 112, 113, 114, 115, 295, 296, 297, 298, 299, 300, 301, 302, 303, 304, 305, 306, 307, 308, 309, 310, 311, 312, 313, 314] (by decide +kernel) (by decide +kernel)) (goodIn_sub (fun _ h => List.mem_cons_of_mem _ (List.mem_append_left _ (List.mem_append_left _ (List.mem_append_right _ h)))) (by decide +kernel))) (goodIn_sub (fun _ h => List.mem_cons_of_mem _ (List.mem_append_left _ (List.mem_append_right _ h))) (by decide +kernel))
set_option maxRecDepth 20000 in
theorem gL_refuses_L_logs : GoodIn wsL_refuses (va_wsS RL 82 yL_logs wsL_logs) := goodIn_app (goodIn_of _ (by decide +kernel)) ggL_refuses_L_logs
set_option maxRecDepth 20000 in
theorem ggL_refuses_L_faults : GoodIn wsL_refuses wsL_faults := goodIn_ca (goodIn_r _ [118, 14, 1, 119, 120, 121, 7, 122, 44, 46, 48, 29, 30, 31, 32, 33, 34, 35, 36, 123, 124, 125, 126, 28, 9, 22, 127, 128, 129, 85, 130, 87, 40, 41, 42, 43, 24, 45, 25, 47, 27, 26, 49, 50, 51, 52, 53, 54, 55, 56, 57, 58, 59, 60, 61, 62, 63, 64, 65, 66, 67, 68, 69, 70, 71, 72, 73, 74, 75, 76, 77, 78, 79, 80, 81, 82, 83, 84, 86, 88, 89, 90, 91, 92, 93, 94, 95, 96, 97, 98, 99, 100, 101, 102, 103, 104, 105, 106, 107, 108, 109, 110, 111, 112, 113, 114, 115, 295, 296, 297, 298, 299, 300, 301, 302, 303, 314, 304, 305, 306, 307, 308, 309, 310, 311, 312, 313] (by decide +kernel) (by decide +kernel)) (goodIn_sub (fun _ h => List.mem_cons_of_mem _ (List.mem_append_left _ (List.mem_append_right _ h))) (by decide +kernel))
set_option maxRecDepth 20000 in
theorem gL_refuses_L_faults : GoodIn wsL_refuses (va_wsS RL 88 yL_faults wsL_faults) := goodIn_app (goodIn_of _ (by decide +kernel)) ggL_refuses_L_faults
set_option maxRecDepth 20000 in
theorem ggL_refuses_L_tides : GoodIn wsL_refuses wsL_tides := goodIn_ca (goodIn_ca (goodIn_r _ [133, 134, 14, 2, 1, 135, 136, 137, 7, 138, 139, 140, 141, 142, 29, 30, 31, 37, 38, 39, 32, 33, 34, 35, 36, 295, 296, 297, 298, 299, 300, 301, 302, 303] (by decide +kernel) (by decide +kernel)) (goodIn_sub (fun _ h => List.mem_cons_of_mem _ (List.mem_append_right _ h)) (by decide +kernel))) (goodIn_sub (fun _ h => List.mem_cons_of_mem _ (List.mem_append_left _ (List.mem_append_right _ h))) (by decide +kernel))
set_option maxRecDepth 20000 in
theorem gL_refuses_L_tides : GoodIn wsL_refuses (va_wsS RL 92 yL_tides wsL_tides) := goodIn_app (goodIn_of _ (by decide +kernel)) ggL_refuses_L_tides
set_option maxRecDepth 20000 in
theorem ggL_refuses_L_speed : GoodIn wsL_refuses wsL_speed := goodIn_ca (goodIn_r _ [145, 134, 2, 146, 147, 148, 7, 149, 22, 45, 150, 151, 152, 153, 139, 140, 9, 29, 30, 31, 295, 296, 297, 298, 299, 300, 301, 302, 303, 304, 305, 306, 307, 308, 309, 310, 311, 312] (by decide +kernel) (by decide +kernel)) (goodIn_sub (fun _ h => List.mem_cons_of_mem _ (List.mem_append_right _ h)) (by decide +kernel))
set_option maxRecDepth 20000 in
theorem gL_refuses_L_speed : GoodIn wsL_refuses (va_wsS RL 95 yL_speed wsL_speed) := goodIn_app (goodIn_of _ (by decide +kernel)) ggL_refuses_L_speed
set_option maxRecDepth 20000 in
theorem ggL_refuses_L_strength : GoodIn wsL_refuses wsL_strength := goodIn_ca (goodIn_r _ [156, 134, 2, 157, 158, 159, 7, 160, 22, 51, 150, 151, 152, 153, 139, 140, 9, 29, 30, 31, 295, 296, 297, 298, 299, 300, 301, 302, 303, 304, 305, 306, 307, 308, 309, 310, 311, 312] (by decide +kernel) (by decide +kernel)) (goodIn_sub (fun _ h => List.mem_cons_of_mem _ (List.mem_append_right _ h)) (by decide +kernel))
set_option maxRecDepth 20000 in
theorem gL_refuses_L_strength : GoodIn wsL_refuses (va_wsS RL 98 yL_strength wsL_strength) := goodIn_app (goodIn_of _ (by decide +kernel)) ggL_refuses_L_strength
set_option maxRecDepth 20000 in
theorem ggL_refuses_L_angle : GoodIn wsL_refuses wsL_angle := goodIn_ca (goodIn_r _ [163, 134, 2, 164, 165, 166, 7, 167, 22, 52, 150, 151, 152, 153, 139, 140, 9, 29, 30, 31, 295, 296, 297, 298, 299, 300, 301, 302, 303, 304, 305, 306, 307, 308, 309, 310, 311, 312] (by decide +kernel) (by decide +kernel)) (goodIn_sub (fun _ h => List.mem_cons_of_mem _ (List.mem_append_right _ h)) (by decide +kernel))
set_option maxRecDepth 20000 in
theorem gL_refuses_L_angle : GoodIn wsL_refuses (va_wsS RL 100 yL_angle wsL_angle) := goodIn_app (goodIn_of _ (by decide +kernel)) ggL_refuses_L_angle
set_option maxRecDepth 20000 in
theorem ggL_refuses_L_from : GoodIn wsL_refuses wsL_from := goodIn_ca (goodIn_r _ [170, 134, 2, 171, 172, 173, 7, 174, 22, 47, 52, 150, 151, 152, 153, 139, 140, 9, 29, 30, 31, 53, 54, 55, 56, 57, 58, 59, 295, 296, 297, 298, 299, 300, 301, 302, 303, 304, 305, 306, 307, 308, 309, 310, 311, 312] (by decide +kernel) (by decide +kernel)) (goodIn_sub (fun _ h => List.mem_cons_of_mem _ (List.mem_append_right _ h)) (by decide +kernel))
set_option maxRecDepth 20000 in
theorem gL_refuses_L_from : GoodIn wsL_refuses (va_wsS RL 102 yL_from wsL_from) := goodIn_app (goodIn_of _ (by decide +kernel)) ggL_refuses_L_from
set_option maxRecDepth 20000 in
theorem ggL_refuses_L_side : GoodIn wsL_refuses wsL_side := goodIn_ca (goodIn_r _ [177, 134, 2, 178, 179, 180, 7, 181, 22, 150, 151, 152, 153, 139, 140, 9, 29, 30, 31, 182, 183, 184, 96, 185, 102, 295, 296, 297, 298, 299, 300, 301, 302, 303, 304, 305, 306, 307, 308, 309, 310, 311, 312] (by decide +kernel) (by decide +kernel)) (goodIn_sub (fun _ h => List.mem_cons_of_mem _ (List.mem_append_right _ h)) (by decide +kernel))
set_option maxRecDepth 20000 in
theorem gL_refuses_L_side : GoodIn wsL_refuses (va_wsS RL 104 yL_side wsL_side) := goodIn_app (goodIn_of _ (by decide +kernel)) ggL_refuses_L_side
set_option maxRecDepth 20000 in
theorem ggL_refuses_L_turn : GoodIn wsL_refuses wsL_turn := goodIn_ca (goodIn_r _ [188, 134, 2, 189, 190, 191, 7, 192, 150, 151, 152, 153, 139, 140, 9, 29, 30, 31, 193, 194, 195, 196, 22, 182, 183, 184, 96, 185, 102, 197, 99, 100, 101, 103, 104, 105, 106, 91, 107, 295, 296, 297, 298, 299, 300, 301, 302, 303, 304, 305, 306, 307, 308, 309, 310, 311, 312] (by decide +kernel) (by decide +kernel)) (goodIn_sub (fun _ h => List.mem_cons_of_mem _ (List.mem_append_right _ h)) (by decide +kernel))
set_option maxRecDepth 20000 in
theorem gL_refuses_L_turn : GoodIn wsL_refuses (va_wsS RL 106 yL_turn wsL_turn) := goodIn_app (goodIn_of _ (by decide +kernel)) ggL_refuses_L_turn
set_option maxRecDepth 20000 in
theorem ggL_refuses_L_cost : GoodIn wsL_refuses wsL_cost := goodIn_ca (goodIn_r _ [200, 134, 2, 201, 202, 203, 7, 204, 150, 151, 152, 153, 139, 140, 9, 29, 30, 31, 205, 206, 207, 208, 22, 45, 105, 106, 91, 107, 209, 90, 92, 23, 193, 194, 195, 196, 182, 183, 184, 96, 185, 102, 197, 99, 100, 101, 103, 104, 295, 296, 297, 298, 299, 300, 301, 302, 303, 304, 305, 306, 307, 308, 309, 310, 311, 312] (by decide +kernel) (by decide +kernel)) (goodIn_sub (fun _ h => List.mem_cons_of_mem _ (List.mem_append_right _ h)) (by decide +kernel))
set_option maxRecDepth 20000 in
theorem gL_refuses_L_cost : GoodIn wsL_refuses (va_wsS RL 108 yL_cost wsL_cost) := goodIn_app (goodIn_of _ (by decide +kernel)) ggL_refuses_L_cost
set_option maxRecDepth 20000 in
theorem ggL_refuses_L_east : GoodIn wsL_refuses wsL_east := goodIn_ca (goodIn_r _ [212, 134, 2, 213, 214, 215, 7, 216, 150, 151, 152, 153, 139, 140, 9, 29, 30, 31, 217, 218, 219, 220, 22, 23, 45, 49, 47, 141, 142, 221, 67, 68, 69, 63, 70, 65, 66, 57, 58, 59, 222, 223, 224, 295, 296, 297, 298, 299, 300, 301, 302, 303, 304, 305, 306, 307, 308, 309, 310, 311, 312, 313] (by decide +kernel) (by decide +kernel)) (goodIn_sub (fun _ h => List.mem_cons_of_mem _ (List.mem_append_right _ h)) (by decide +kernel))
set_option maxRecDepth 20000 in
theorem gL_refuses_L_east : GoodIn wsL_refuses (va_wsS RL 110 yL_east wsL_east) := goodIn_app (goodIn_of _ (by decide +kernel)) ggL_refuses_L_east
set_option maxRecDepth 20000 in
theorem ggL_refuses_L_north : GoodIn wsL_refuses wsL_north := goodIn_ca (goodIn_r _ [227, 134, 2, 228, 229, 230, 7, 231, 150, 151, 152, 153, 139, 140, 9, 29, 30, 31, 217, 218, 219, 220, 22, 23, 45, 49, 47, 141, 142, 221, 67, 68, 69, 63, 70, 65, 66, 57, 58, 59, 222, 223, 224, 295, 296, 297, 298, 299, 300, 301, 302, 303, 304, 305, 306, 307, 308, 309, 310, 311, 312, 313] (by decide +kernel) (by decide +kernel)) (goodIn_sub (fun _ h => List.mem_cons_of_mem _ (List.mem_append_right _ h)) (by decide +kernel))
set_option maxRecDepth 20000 in
theorem gL_refuses_L_north : GoodIn wsL_refuses (va_wsS RL 112 yL_north wsL_north) := goodIn_app (goodIn_of _ (by decide +kernel)) ggL_refuses_L_north
set_option maxRecDepth 20000 in
theorem ggL_refuses_L_best : GoodIn wsL_refuses wsL_best := goodIn_ca (goodIn_r _ [234, 134, 2, 235, 236, 237, 7, 238, 28, 239, 240, 241, 139, 140, 29, 30, 31, 242, 243, 244, 245, 246, 247, 85, 248, 87, 295, 296, 297, 298, 299, 300, 301, 302, 303, 314] (by decide +kernel) (by decide +kernel)) (goodIn_sub (fun _ h => List.mem_cons_of_mem _ (List.mem_append_right _ h)) (by decide +kernel))
set_option maxRecDepth 20000 in
theorem gL_refuses_L_best : GoodIn wsL_refuses (va_wsS RL 114 yL_best wsL_best) := goodIn_app (goodIn_of _ (by decide +kernel)) ggL_refuses_L_best
set_option maxRecDepth 20000 in
theorem ggL_refuses_L_byLog : GoodIn wsL_refuses wsL_byLog := goodIn_ca (goodIn_r _ [251, 134, 2, 252, 253, 254, 7, 255, 9, 22, 45, 209, 90, 91, 92, 239, 240, 241, 139, 140, 29, 30, 31, 242, 243, 244, 256, 94, 95, 96, 97, 98, 99, 100, 101, 102, 103, 104, 105, 106, 107, 108, 109, 257, 111, 112, 113, 114, 115, 295, 296, 297, 298, 299, 300, 301, 302, 303, 304, 305, 306, 307, 308, 309, 310, 311, 312] (by decide +kernel) (by decide +kernel)) (goodIn_sub (fun _ h => List.mem_cons_of_mem _ (List.mem_append_right _ h)) (by decide +kernel))
set_option maxRecDepth 20000 in
theorem gL_refuses_L_byLog : GoodIn wsL_refuses (va_wsS RL 117 yL_byLog wsL_byLog) := goodIn_app (goodIn_of _ (by decide +kernel)) ggL_refuses_L_byLog
set_option maxRecDepth 20000 in
theorem ggL_refuses_L_up : GoodIn wsL_refuses wsL_up := goodIn_ca (goodIn_r _ [260, 134, 2, 261, 262, 263, 7, 264, 242, 243, 244, 139, 140, 29, 30, 31, 265, 266, 267, 268, 28, 49, 245, 246, 247, 85, 248, 87, 269, 270, 271, 105, 106, 91, 107, 60, 61, 62, 63, 64, 65, 66, 57, 58, 59, 295, 296, 297, 298, 299, 300, 301, 302, 303, 314, 313] (by decide +kernel) (by decide +kernel)) (goodIn_sub (fun _ h => List.mem_cons_of_mem _ (List.mem_append_right _ h)) (by decide +kernel))
set_option maxRecDepth 20000 in
theorem gL_refuses_L_up : GoodIn wsL_refuses (va_wsS RL 120 yL_up wsL_up) := goodIn_app (goodIn_of _ (by decide +kernel)) ggL_refuses_L_up
set_option maxRecDepth 20000 in
theorem ggL_refuses_L_down : GoodIn wsL_refuses wsL_down := goodIn_ca (goodIn_r _ [274, 134, 2, 275, 276, 277, 7, 278, 242, 243, 244, 139, 140, 29, 30, 31, 265, 266, 267, 268, 28, 49, 245, 246, 247, 85, 248, 87, 269, 270, 271, 105, 106, 91, 107, 60, 61, 62, 63, 64, 65, 66, 57, 58, 59, 295, 296, 297, 298, 299, 300, 301, 302, 303, 314, 313] (by decide +kernel) (by decide +kernel)) (goodIn_sub (fun _ h => List.mem_cons_of_mem _ (List.mem_append_right _ h)) (by decide +kernel))
set_option maxRecDepth 20000 in
theorem gL_refuses_L_down : GoodIn wsL_refuses (va_wsS RL 123 yL_down wsL_down) := goodIn_app (goodIn_of _ (by decide +kernel)) ggL_refuses_L_down
set_option maxRecDepth 20000 in
theorem ggL_refuses_L_course : GoodIn wsL_refuses wsL_course := goodIn_ca (goodIn_ca (goodIn_r _ [281, 134, 14, 2, 1, 282, 283, 284, 7, 285, 28, 49, 242, 243, 244, 139, 140, 29, 30, 31, 37, 38, 39, 32, 33, 34, 35, 36, 53, 54, 55, 56, 57, 58, 59, 286, 103, 104, 105, 106, 91, 107, 287, 108, 109, 245, 246, 247, 85, 248, 87, 60, 61, 62, 63, 64, 65, 66, 295, 296, 297, 298, 299, 300, 301, 302, 303, 314, 313] (by decide +kernel) (by decide +kernel)) (goodIn_sub (fun _ h => List.mem_cons_of_mem _ (List.mem_append_right _ h)) (by decide +kernel))) (goodIn_sub (fun _ h => List.mem_cons_of_mem _ (List.mem_append_left _ (List.mem_append_right _ h))) (by decide +kernel))
set_option maxRecDepth 20000 in
theorem gL_refuses_L_course : GoodIn wsL_refuses (va_wsS RL 126 yL_course wsL_course) := goodIn_app (goodIn_of _ (by decide +kernel)) ggL_refuses_L_course
set_option maxRecDepth 20000 in
theorem ggL_refuses_L_costs : GoodIn wsL_refuses wsL_costs := goodIn_ca (goodIn_r _ [290, 14, 1, 291, 292, 293, 7, 294, 9, 32, 33, 34, 35, 36, 193, 194, 195, 196, 22, 182, 183, 184, 96, 185, 102, 197, 99, 100, 101, 103, 104, 105, 106, 91, 107, 205, 206, 207, 208, 45, 209, 90, 92, 23, 295, 296, 297, 298, 299, 300, 301, 302, 303, 304, 305, 306, 307, 308, 309, 310, 311, 312] (by decide +kernel) (by decide +kernel)) (goodIn_sub (fun _ h => List.mem_cons_of_mem _ (List.mem_append_left _ (List.mem_append_right _ h))) (by decide +kernel))
set_option maxRecDepth 20000 in
theorem gL_refuses_L_costs : GoodIn wsL_refuses (va_wsS RL 129 yL_costs wsL_costs) := goodIn_app (goodIn_of _ (by decide +kernel)) ggL_refuses_L_costs
theorem dL_refuses_0 : decode cL_refuses 0 = .ok (.iload_n 1, 1) := by decide +kernel
theorem dL_refuses_1 : decode cL_refuses 1 = .ok (.iconst 2, 1) := by decide +kernel
theorem dL_refuses_2 : decode cL_refuses 2 = .ok (.irem, 1) := by decide +kernel
theorem dL_refuses_3 : decode cL_refuses 3 = .ok (.ifCond .ne 12, 3) := by decide +kernel
theorem dL_refuses_6 : decode cL_refuses 6 = .ok (.iconst (-1), 1) := by decide +kernel
theorem dL_refuses_7 : decode cL_refuses 7 = .ok (.iload_n 1, 1) := by decide +kernel
theorem dL_refuses_8 : decode cL_refuses 8 = .ok (.bipush 50, 2) := by decide +kernel
theorem dL_refuses_10 : decode cL_refuses 10 = .ok (.irem, 1) := by decide +kernel
theorem dL_refuses_11 : decode cL_refuses 11 = .ok (.isub, 1) := by decide +kernel
theorem dL_refuses_12 : decode cL_refuses 12 = .ok (.goto 12, 3) := by decide +kernel
theorem dL_refuses_15 : decode cL_refuses 15 = .ok (.aload_n 0, 1) := by decide +kernel
theorem dL_refuses_16 : decode cL_refuses 16 = .ok (.invokevirtual 78, 3) := by decide +kernel
theorem dL_refuses_19 : decode cL_refuses 19 = .ok (.iload_n 1, 1) := by decide +kernel
theorem dL_refuses_20 : decode cL_refuses 20 = .ok (.bipush 50, 2) := by decide +kernel
theorem dL_refuses_22 : decode cL_refuses 22 = .ok (.irem, 1) := by decide +kernel
theorem dL_refuses_23 : decode cL_refuses 23 = .ok (.iadd, 1) := by decide +kernel
theorem dL_refuses_24 : decode cL_refuses 24 = .ok (.istore_n 2, 1) := by decide +kernel
theorem dL_refuses_25 : decode cL_refuses 25 = .ok (.iload_n 1, 1) := by decide +kernel
theorem dL_refuses_26 : decode cL_refuses 26 = .ok (.iconst 2, 1) := by decide +kernel
theorem dL_refuses_27 : decode cL_refuses 27 = .ok (.irem, 1) := by decide +kernel
theorem dL_refuses_28 : decode cL_refuses 28 = .ok (.ifCond .ne 12, 3) := by decide +kernel
theorem dL_refuses_31 : decode cL_refuses 31 = .ok (.iconst (-1), 1) := by decide +kernel
theorem dL_refuses_32 : decode cL_refuses 32 = .ok (.iload_n 1, 1) := by decide +kernel
theorem dL_refuses_33 : decode cL_refuses 33 = .ok (.bipush 50, 2) := by decide +kernel
theorem dL_refuses_35 : decode cL_refuses 35 = .ok (.irem, 1) := by decide +kernel
theorem dL_refuses_36 : decode cL_refuses 36 = .ok (.isub, 1) := by decide +kernel
theorem dL_refuses_37 : decode cL_refuses 37 = .ok (.goto 11, 3) := by decide +kernel
theorem dL_refuses_40 : decode cL_refuses 40 = .ok (.sipush 360, 3) := by decide +kernel
theorem dL_refuses_43 : decode cL_refuses 43 = .ok (.iload_n 1, 1) := by decide +kernel
theorem dL_refuses_44 : decode cL_refuses 44 = .ok (.bipush 50, 2) := by decide +kernel
theorem dL_refuses_46 : decode cL_refuses 46 = .ok (.irem, 1) := by decide +kernel
theorem dL_refuses_47 : decode cL_refuses 47 = .ok (.iadd, 1) := by decide +kernel
theorem dL_refuses_48 : decode cL_refuses 48 = .ok (.istore_n 3, 1) := by decide +kernel
theorem dL_refuses_49 : decode cL_refuses 49 = .ok (.aload_n 0, 1) := by decide +kernel
theorem dL_refuses_50 : decode cL_refuses 50 = .ok (.sipush 1440, 3) := by decide +kernel
theorem dL_refuses_53 : decode cL_refuses 53 = .ok (.iload_n 1, 1) := by decide +kernel
theorem dL_refuses_54 : decode cL_refuses 54 = .ok (.iadd, 1) := by decide +kernel
theorem dL_refuses_55 : decode cL_refuses 55 = .ok (.iconst 0, 1) := by decide +kernel
theorem dL_refuses_56 : decode cL_refuses 56 = .ok (.iconst 0, 1) := by decide +kernel
theorem dL_refuses_57 : decode cL_refuses 57 = .ok (.iconst 0, 1) := by decide +kernel
theorem dL_refuses_58 : decode cL_refuses 58 = .ok (.iconst 0, 1) := by decide +kernel
theorem dL_refuses_59 : decode cL_refuses 59 = .ok (.invokestatic 82, 3) := by decide +kernel
theorem dL_refuses_62 : decode cL_refuses 62 = .ok (.ldc 15, 2) := by decide +kernel
theorem dL_refuses_64 : decode cL_refuses 64 = .ok (.if_icmp .ne 510, 3) := by decide +kernel
theorem dL_refuses_67 : decode cL_refuses 67 = .ok (.aload_n 0, 1) := by decide +kernel
theorem dL_refuses_68 : decode cL_refuses 68 = .ok (.iconst (-1), 1) := by decide +kernel
theorem dL_refuses_69 : decode cL_refuses 69 = .ok (.iload_n 1, 1) := by decide +kernel
theorem dL_refuses_70 : decode cL_refuses 70 = .ok (.isub, 1) := by decide +kernel
theorem dL_refuses_71 : decode cL_refuses 71 = .ok (.iconst 0, 1) := by decide +kernel
theorem dL_refuses_72 : decode cL_refuses 72 = .ok (.iconst 0, 1) := by decide +kernel
theorem dL_refuses_73 : decode cL_refuses 73 = .ok (.iconst 0, 1) := by decide +kernel
theorem dL_refuses_74 : decode cL_refuses 74 = .ok (.iconst 0, 1) := by decide +kernel
theorem dL_refuses_75 : decode cL_refuses 75 = .ok (.invokestatic 82, 3) := by decide +kernel
theorem dL_refuses_78 : decode cL_refuses 78 = .ok (.ldc 15, 2) := by decide +kernel
theorem dL_refuses_80 : decode cL_refuses 80 = .ok (.if_icmp .ne 494, 3) := by decide +kernel
theorem dL_refuses_83 : decode cL_refuses 83 = .ok (.aload_n 0, 1) := by decide +kernel
theorem dL_refuses_84 : decode cL_refuses 84 = .ok (.sipush 1439, 3) := by decide +kernel
theorem dL_refuses_87 : decode cL_refuses 87 = .ok (.sipush 301, 3) := by decide +kernel
theorem dL_refuses_90 : decode cL_refuses 90 = .ok (.iload_n 1, 1) := by decide +kernel
theorem dL_refuses_91 : decode cL_refuses 91 = .ok (.iadd, 1) := by decide +kernel
theorem dL_refuses_92 : decode cL_refuses 92 = .ok (.iconst 0, 1) := by decide +kernel
theorem dL_refuses_93 : decode cL_refuses 93 = .ok (.iconst 0, 1) := by decide +kernel
theorem dL_refuses_94 : decode cL_refuses 94 = .ok (.iconst 0, 1) := by decide +kernel
theorem dL_refuses_95 : decode cL_refuses 95 = .ok (.invokestatic 82, 3) := by decide +kernel
theorem dL_refuses_98 : decode cL_refuses 98 = .ok (.ldc 15, 2) := by decide +kernel
theorem dL_refuses_100 : decode cL_refuses 100 = .ok (.if_icmp .ne 474, 3) := by decide +kernel
theorem dL_refuses_103 : decode cL_refuses 103 = .ok (.aload_n 0, 1) := by decide +kernel
theorem dL_refuses_104 : decode cL_refuses 104 = .ok (.sipush 1439, 3) := by decide +kernel
theorem dL_refuses_107 : decode cL_refuses 107 = .ok (.iconst (-1), 1) := by decide +kernel
theorem dL_refuses_108 : decode cL_refuses 108 = .ok (.iload_n 1, 1) := by decide +kernel
theorem dL_refuses_109 : decode cL_refuses 109 = .ok (.isub, 1) := by decide +kernel
theorem dL_refuses_110 : decode cL_refuses 110 = .ok (.iconst 0, 1) := by decide +kernel
theorem dL_refuses_111 : decode cL_refuses 111 = .ok (.iconst 0, 1) := by decide +kernel
theorem dL_refuses_112 : decode cL_refuses 112 = .ok (.iconst 0, 1) := by decide +kernel
theorem dL_refuses_113 : decode cL_refuses 113 = .ok (.invokestatic 82, 3) := by decide +kernel
theorem dL_refuses_116 : decode cL_refuses 116 = .ok (.ldc 15, 2) := by decide +kernel
theorem dL_refuses_118 : decode cL_refuses 118 = .ok (.if_icmp .ne 456, 3) := by decide +kernel
theorem dL_refuses_121 : decode cL_refuses 121 = .ok (.aload_n 0, 1) := by decide +kernel
theorem dL_refuses_122 : decode cL_refuses 122 = .ok (.sipush 1439, 3) := by decide +kernel
theorem dL_refuses_125 : decode cL_refuses 125 = .ok (.iconst 0, 1) := by decide +kernel
theorem dL_refuses_126 : decode cL_refuses 126 = .ok (.iload_n 3, 1) := by decide +kernel
theorem dL_refuses_127 : decode cL_refuses 127 = .ok (.iconst 0, 1) := by decide +kernel
theorem dL_refuses_128 : decode cL_refuses 128 = .ok (.iconst 0, 1) := by decide +kernel
theorem dL_refuses_129 : decode cL_refuses 129 = .ok (.invokestatic 82, 3) := by decide +kernel
theorem dL_refuses_132 : decode cL_refuses 132 = .ok (.ldc 15, 2) := by decide +kernel
theorem dL_refuses_134 : decode cL_refuses 134 = .ok (.if_icmp .ne 440, 3) := by decide +kernel
theorem dL_refuses_137 : decode cL_refuses 137 = .ok (.aload_n 0, 1) := by decide +kernel
theorem dL_refuses_138 : decode cL_refuses 138 = .ok (.sipush 1439, 3) := by decide +kernel
theorem dL_refuses_141 : decode cL_refuses 141 = .ok (.iconst 0, 1) := by decide +kernel
theorem dL_refuses_142 : decode cL_refuses 142 = .ok (.iconst 0, 1) := by decide +kernel
theorem dL_refuses_143 : decode cL_refuses 143 = .ok (.sipush 601, 3) := by decide +kernel
theorem dL_refuses_146 : decode cL_refuses 146 = .ok (.iload_n 1, 1) := by decide +kernel
theorem dL_refuses_147 : decode cL_refuses 147 = .ok (.iadd, 1) := by decide +kernel
theorem dL_refuses_148 : decode cL_refuses 148 = .ok (.iconst 0, 1) := by decide +kernel
theorem dL_refuses_149 : decode cL_refuses 149 = .ok (.invokestatic 82, 3) := by decide +kernel
theorem dL_refuses_152 : decode cL_refuses 152 = .ok (.ldc 15, 2) := by decide +kernel
theorem dL_refuses_154 : decode cL_refuses 154 = .ok (.if_icmp .ne 420, 3) := by decide +kernel
theorem dL_refuses_157 : decode cL_refuses 157 = .ok (.aload_n 0, 1) := by decide +kernel
theorem dL_refuses_158 : decode cL_refuses 158 = .ok (.sipush 1439, 3) := by decide +kernel
theorem dL_refuses_161 : decode cL_refuses 161 = .ok (.iconst 0, 1) := by decide +kernel
theorem dL_refuses_162 : decode cL_refuses 162 = .ok (.iconst 0, 1) := by decide +kernel
theorem dL_refuses_163 : decode cL_refuses 163 = .ok (.iconst (-1), 1) := by decide +kernel
theorem dL_refuses_164 : decode cL_refuses 164 = .ok (.iload_n 1, 1) := by decide +kernel
theorem dL_refuses_165 : decode cL_refuses 165 = .ok (.isub, 1) := by decide +kernel
theorem dL_refuses_166 : decode cL_refuses 166 = .ok (.iconst 0, 1) := by decide +kernel
theorem dL_refuses_167 : decode cL_refuses 167 = .ok (.invokestatic 82, 3) := by decide +kernel
theorem dL_refuses_170 : decode cL_refuses 170 = .ok (.ldc 15, 2) := by decide +kernel
theorem dL_refuses_172 : decode cL_refuses 172 = .ok (.if_icmp .ne 402, 3) := by decide +kernel
theorem dL_refuses_175 : decode cL_refuses 175 = .ok (.aload_n 0, 1) := by decide +kernel
theorem dL_refuses_176 : decode cL_refuses 176 = .ok (.sipush 1439, 3) := by decide +kernel
theorem dL_refuses_179 : decode cL_refuses 179 = .ok (.iconst 0, 1) := by decide +kernel
theorem dL_refuses_180 : decode cL_refuses 180 = .ok (.iconst 0, 1) := by decide +kernel
theorem dL_refuses_181 : decode cL_refuses 181 = .ok (.iconst 0, 1) := by decide +kernel
theorem dL_refuses_182 : decode cL_refuses 182 = .ok (.iload_n 3, 1) := by decide +kernel
theorem dL_refuses_183 : decode cL_refuses 183 = .ok (.invokestatic 82, 3) := by decide +kernel
theorem dL_refuses_186 : decode cL_refuses 186 = .ok (.ldc 15, 2) := by decide +kernel
theorem dL_refuses_188 : decode cL_refuses 188 = .ok (.if_icmp .ne 386, 3) := by decide +kernel
theorem dL_refuses_191 : decode cL_refuses 191 = .ok (.aload_n 0, 1) := by decide +kernel
theorem dL_refuses_192 : decode cL_refuses 192 = .ok (.sipush 499, 3) := by decide +kernel
theorem dL_refuses_195 : decode cL_refuses 195 = .ok (.iload_n 1, 1) := by decide +kernel
theorem dL_refuses_196 : decode cL_refuses 196 = .ok (.isub, 1) := by decide +kernel
theorem dL_refuses_197 : decode cL_refuses 197 = .ok (.iconst 0, 1) := by decide +kernel
theorem dL_refuses_198 : decode cL_refuses 198 = .ok (.iconst 0, 1) := by decide +kernel
theorem dL_refuses_199 : decode cL_refuses 199 = .ok (.invokestatic 88, 3) := by decide +kernel
theorem dL_refuses_202 : decode cL_refuses 202 = .ok (.ldc 15, 2) := by decide +kernel
theorem dL_refuses_204 : decode cL_refuses 204 = .ok (.if_icmp .ne 370, 3) := by decide +kernel
theorem dL_refuses_207 : decode cL_refuses 207 = .ok (.aload_n 0, 1) := by decide +kernel
theorem dL_refuses_208 : decode cL_refuses 208 = .ok (.sipush 1501, 3) := by decide +kernel
theorem dL_refuses_211 : decode cL_refuses 211 = .ok (.iload_n 1, 1) := by decide +kernel
theorem dL_refuses_212 : decode cL_refuses 212 = .ok (.iadd, 1) := by decide +kernel
theorem dL_refuses_213 : decode cL_refuses 213 = .ok (.iconst 0, 1) := by decide +kernel
theorem dL_refuses_214 : decode cL_refuses 214 = .ok (.iconst 0, 1) := by decide +kernel
theorem dL_refuses_215 : decode cL_refuses 215 = .ok (.invokestatic 88, 3) := by decide +kernel
theorem dL_refuses_218 : decode cL_refuses 218 = .ok (.ldc 15, 2) := by decide +kernel
theorem dL_refuses_220 : decode cL_refuses 220 = .ok (.if_icmp .ne 354, 3) := by decide +kernel
theorem dL_refuses_223 : decode cL_refuses 223 = .ok (.aload_n 0, 1) := by decide +kernel
theorem dL_refuses_224 : decode cL_refuses 224 = .ok (.sipush 1000, 3) := by decide +kernel
theorem dL_refuses_227 : decode cL_refuses 227 = .ok (.bipush 21, 2) := by decide +kernel
theorem dL_refuses_229 : decode cL_refuses 229 = .ok (.iload_n 1, 1) := by decide +kernel
theorem dL_refuses_230 : decode cL_refuses 230 = .ok (.iadd, 1) := by decide +kernel
theorem dL_refuses_231 : decode cL_refuses 231 = .ok (.iconst 0, 1) := by decide +kernel
theorem dL_refuses_232 : decode cL_refuses 232 = .ok (.invokestatic 88, 3) := by decide +kernel
theorem dL_refuses_235 : decode cL_refuses 235 = .ok (.ldc 15, 2) := by decide +kernel
theorem dL_refuses_237 : decode cL_refuses 237 = .ok (.if_icmp .ne 337, 3) := by decide +kernel
theorem dL_refuses_240 : decode cL_refuses 240 = .ok (.aload_n 0, 1) := by decide +kernel
theorem dL_refuses_241 : decode cL_refuses 241 = .ok (.sipush 1000, 3) := by decide +kernel
theorem dL_refuses_244 : decode cL_refuses 244 = .ok (.iconst 0, 1) := by decide +kernel
theorem dL_refuses_245 : decode cL_refuses 245 = .ok (.bipush (-21), 2) := by decide +kernel
theorem dL_refuses_247 : decode cL_refuses 247 = .ok (.iload_n 1, 1) := by decide +kernel
theorem dL_refuses_248 : decode cL_refuses 248 = .ok (.isub, 1) := by decide +kernel
theorem dL_refuses_249 : decode cL_refuses 249 = .ok (.invokestatic 88, 3) := by decide +kernel
theorem dL_refuses_252 : decode cL_refuses 252 = .ok (.ldc 15, 2) := by decide +kernel
theorem dL_refuses_254 : decode cL_refuses 254 = .ok (.if_icmp .ne 320, 3) := by decide +kernel
theorem dL_refuses_257 : decode cL_refuses 257 = .ok (.aload_n 0, 1) := by decide +kernel
theorem dL_refuses_258 : decode cL_refuses 258 = .ok (.bipush 24, 2) := by decide +kernel
theorem dL_refuses_260 : decode cL_refuses 260 = .ok (.iload_n 1, 1) := by decide +kernel
theorem dL_refuses_261 : decode cL_refuses 261 = .ok (.iadd, 1) := by decide +kernel
theorem dL_refuses_262 : decode cL_refuses 262 = .ok (.iload_n 3, 1) := by decide +kernel
theorem dL_refuses_263 : decode cL_refuses 263 = .ok (.iconst 0, 1) := by decide +kernel
theorem dL_refuses_264 : decode cL_refuses 264 = .ok (.invokestatic 92, 3) := by decide +kernel
theorem dL_refuses_267 : decode cL_refuses 267 = .ok (.ldc 28, 2) := by decide +kernel
theorem dL_refuses_269 : decode cL_refuses 269 = .ok (.if_icmp .ne 305, 3) := by decide +kernel
theorem dL_refuses_272 : decode cL_refuses 272 = .ok (.aload_n 0, 1) := by decide +kernel
theorem dL_refuses_273 : decode cL_refuses 273 = .ok (.iconst (-1), 1) := by decide +kernel
theorem dL_refuses_274 : decode cL_refuses 274 = .ok (.iload_n 1, 1) := by decide +kernel
theorem dL_refuses_275 : decode cL_refuses 275 = .ok (.isub, 1) := by decide +kernel
theorem dL_refuses_276 : decode cL_refuses 276 = .ok (.iconst 0, 1) := by decide +kernel
theorem dL_refuses_277 : decode cL_refuses 277 = .ok (.iconst 0, 1) := by decide +kernel
theorem dL_refuses_278 : decode cL_refuses 278 = .ok (.invokestatic 92, 3) := by decide +kernel
theorem dL_refuses_281 : decode cL_refuses 281 = .ok (.ldc 28, 2) := by decide +kernel
theorem dL_refuses_283 : decode cL_refuses 283 = .ok (.if_icmp .ne 291, 3) := by decide +kernel
theorem dL_refuses_286 : decode cL_refuses 286 = .ok (.aload_n 0, 1) := by decide +kernel
theorem dL_refuses_287 : decode cL_refuses 287 = .ok (.iload_n 1, 1) := by decide +kernel
theorem dL_refuses_288 : decode cL_refuses 288 = .ok (.bipush 24, 2) := by decide +kernel
theorem dL_refuses_290 : decode cL_refuses 290 = .ok (.irem, 1) := by decide +kernel
theorem dL_refuses_291 : decode cL_refuses 291 = .ok (.iload_n 3, 1) := by decide +kernel
theorem dL_refuses_292 : decode cL_refuses 292 = .ok (.iconst 0, 1) := by decide +kernel
theorem dL_refuses_293 : decode cL_refuses 293 = .ok (.invokestatic 92, 3) := by decide +kernel
theorem dL_refuses_296 : decode cL_refuses 296 = .ok (.ldc 15, 2) := by decide +kernel
theorem dL_refuses_298 : decode cL_refuses 298 = .ok (.if_icmp .ne 276, 3) := by decide +kernel
theorem dL_refuses_301 : decode cL_refuses 301 = .ok (.aload_n 0, 1) := by decide +kernel
theorem dL_refuses_302 : decode cL_refuses 302 = .ok (.iload_n 1, 1) := by decide +kernel
theorem dL_refuses_303 : decode cL_refuses 303 = .ok (.bipush 24, 2) := by decide +kernel
theorem dL_refuses_305 : decode cL_refuses 305 = .ok (.irem, 1) := by decide +kernel
theorem dL_refuses_306 : decode cL_refuses 306 = .ok (.iconst 0, 1) := by decide +kernel
theorem dL_refuses_307 : decode cL_refuses 307 = .ok (.bipush 101, 2) := by decide +kernel
theorem dL_refuses_309 : decode cL_refuses 309 = .ok (.iload_n 1, 1) := by decide +kernel
theorem dL_refuses_310 : decode cL_refuses 310 = .ok (.iadd, 1) := by decide +kernel
theorem dL_refuses_311 : decode cL_refuses 311 = .ok (.invokestatic 92, 3) := by decide +kernel
theorem dL_refuses_314 : decode cL_refuses 314 = .ok (.ldc 15, 2) := by decide +kernel
theorem dL_refuses_316 : decode cL_refuses 316 = .ok (.if_icmp .ne 258, 3) := by decide +kernel
theorem dL_refuses_319 : decode cL_refuses 319 = .ok (.aload_n 0, 1) := by decide +kernel
theorem dL_refuses_320 : decode cL_refuses 320 = .ok (.iload_n 1, 1) := by decide +kernel
theorem dL_refuses_321 : decode cL_refuses 321 = .ok (.bipush 24, 2) := by decide +kernel
theorem dL_refuses_323 : decode cL_refuses 323 = .ok (.irem, 1) := by decide +kernel
theorem dL_refuses_324 : decode cL_refuses 324 = .ok (.iconst 0, 1) := by decide +kernel
theorem dL_refuses_325 : decode cL_refuses 325 = .ok (.iconst (-1), 1) := by decide +kernel
theorem dL_refuses_326 : decode cL_refuses 326 = .ok (.iload_n 1, 1) := by decide +kernel
theorem dL_refuses_327 : decode cL_refuses 327 = .ok (.isub, 1) := by decide +kernel
theorem dL_refuses_328 : decode cL_refuses 328 = .ok (.invokestatic 92, 3) := by decide +kernel
theorem dL_refuses_331 : decode cL_refuses 331 = .ok (.ldc 15, 2) := by decide +kernel
theorem dL_refuses_333 : decode cL_refuses 333 = .ok (.if_icmp .ne 241, 3) := by decide +kernel
theorem dL_refuses_336 : decode cL_refuses 336 = .ok (.aload_n 0, 1) := by decide +kernel
theorem dL_refuses_337 : decode cL_refuses 337 = .ok (.iload_n 2, 1) := by decide +kernel
theorem dL_refuses_338 : decode cL_refuses 338 = .ok (.invokestatic 95, 3) := by decide +kernel
theorem dL_refuses_341 : decode cL_refuses 341 = .ok (.ldc 28, 2) := by decide +kernel
theorem dL_refuses_343 : decode cL_refuses 343 = .ok (.if_icmp .ne 231, 3) := by decide +kernel
theorem dL_refuses_346 : decode cL_refuses 346 = .ok (.aload_n 0, 1) := by decide +kernel
theorem dL_refuses_347 : decode cL_refuses 347 = .ok (.iload_n 2, 1) := by decide +kernel
theorem dL_refuses_348 : decode cL_refuses 348 = .ok (.invokestatic 98, 3) := by decide +kernel
theorem dL_refuses_351 : decode cL_refuses 351 = .ok (.ldc 28, 2) := by decide +kernel
theorem dL_refuses_353 : decode cL_refuses 353 = .ok (.if_icmp .ne 221, 3) := by decide +kernel
theorem dL_refuses_356 : decode cL_refuses 356 = .ok (.aload_n 0, 1) := by decide +kernel
theorem dL_refuses_357 : decode cL_refuses 357 = .ok (.iload_n 2, 1) := by decide +kernel
theorem dL_refuses_358 : decode cL_refuses 358 = .ok (.invokestatic 100, 3) := by decide +kernel
theorem dL_refuses_361 : decode cL_refuses 361 = .ok (.ldc 28, 2) := by decide +kernel
theorem dL_refuses_363 : decode cL_refuses 363 = .ok (.if_icmp .ne 211, 3) := by decide +kernel
theorem dL_refuses_366 : decode cL_refuses 366 = .ok (.aload_n 0, 1) := by decide +kernel
theorem dL_refuses_367 : decode cL_refuses 367 = .ok (.iload_n 2, 1) := by decide +kernel
theorem dL_refuses_368 : decode cL_refuses 368 = .ok (.invokestatic 102, 3) := by decide +kernel
theorem dL_refuses_371 : decode cL_refuses 371 = .ok (.ldc 28, 2) := by decide +kernel
theorem dL_refuses_373 : decode cL_refuses 373 = .ok (.if_icmp .ne 201, 3) := by decide +kernel
theorem dL_refuses_376 : decode cL_refuses 376 = .ok (.aload_n 0, 1) := by decide +kernel
theorem dL_refuses_377 : decode cL_refuses 377 = .ok (.iload_n 2, 1) := by decide +kernel
theorem dL_refuses_378 : decode cL_refuses 378 = .ok (.invokestatic 104, 3) := by decide +kernel
theorem dL_refuses_381 : decode cL_refuses 381 = .ok (.ldc 28, 2) := by decide +kernel
theorem dL_refuses_383 : decode cL_refuses 383 = .ok (.if_icmp .ne 191, 3) := by decide +kernel
theorem dL_refuses_386 : decode cL_refuses 386 = .ok (.aload_n 0, 1) := by decide +kernel
theorem dL_refuses_387 : decode cL_refuses 387 = .ok (.iload_n 2, 1) := by decide +kernel
theorem dL_refuses_388 : decode cL_refuses 388 = .ok (.invokestatic 106, 3) := by decide +kernel
theorem dL_refuses_391 : decode cL_refuses 391 = .ok (.ldc 28, 2) := by decide +kernel
theorem dL_refuses_393 : decode cL_refuses 393 = .ok (.if_icmp .ne 181, 3) := by decide +kernel
theorem dL_refuses_396 : decode cL_refuses 396 = .ok (.aload_n 0, 1) := by decide +kernel
theorem dL_refuses_397 : decode cL_refuses 397 = .ok (.iload_n 2, 1) := by decide +kernel
theorem dL_refuses_398 : decode cL_refuses 398 = .ok (.invokestatic 108, 3) := by decide +kernel
theorem dL_refuses_401 : decode cL_refuses 401 = .ok (.ldc 28, 2) := by decide +kernel
theorem dL_refuses_403 : decode cL_refuses 403 = .ok (.if_icmp .ne 171, 3) := by decide +kernel
theorem dL_refuses_406 : decode cL_refuses 406 = .ok (.aload_n 0, 1) := by decide +kernel
theorem dL_refuses_407 : decode cL_refuses 407 = .ok (.iload_n 2, 1) := by decide +kernel
theorem dL_refuses_408 : decode cL_refuses 408 = .ok (.invokestatic 110, 3) := by decide +kernel
theorem dL_refuses_411 : decode cL_refuses 411 = .ok (.ldc 28, 2) := by decide +kernel
theorem dL_refuses_413 : decode cL_refuses 413 = .ok (.if_icmp .ne 161, 3) := by decide +kernel
theorem dL_refuses_416 : decode cL_refuses 416 = .ok (.aload_n 0, 1) := by decide +kernel
theorem dL_refuses_417 : decode cL_refuses 417 = .ok (.iload_n 2, 1) := by decide +kernel
theorem dL_refuses_418 : decode cL_refuses 418 = .ok (.invokestatic 112, 3) := by decide +kernel
theorem dL_refuses_421 : decode cL_refuses 421 = .ok (.ldc 28, 2) := by decide +kernel
theorem dL_refuses_423 : decode cL_refuses 423 = .ok (.if_icmp .ne 151, 3) := by decide +kernel
theorem dL_refuses_426 : decode cL_refuses 426 = .ok (.aload_n 0, 1) := by decide +kernel
theorem dL_refuses_427 : decode cL_refuses 427 = .ok (.bipush 19, 2) := by decide +kernel
theorem dL_refuses_429 : decode cL_refuses 429 = .ok (.iload_n 1, 1) := by decide +kernel
theorem dL_refuses_430 : decode cL_refuses 430 = .ok (.iadd, 1) := by decide +kernel
theorem dL_refuses_431 : decode cL_refuses 431 = .ok (.iconst 0, 1) := by decide +kernel
theorem dL_refuses_432 : decode cL_refuses 432 = .ok (.invokestatic 114, 3) := by decide +kernel
theorem dL_refuses_435 : decode cL_refuses 435 = .ok (.ldc 28, 2) := by decide +kernel
theorem dL_refuses_437 : decode cL_refuses 437 = .ok (.if_icmp .ne 137, 3) := by decide +kernel
theorem dL_refuses_440 : decode cL_refuses 440 = .ok (.aload_n 0, 1) := by decide +kernel
theorem dL_refuses_441 : decode cL_refuses 441 = .ok (.iconst 0, 1) := by decide +kernel
theorem dL_refuses_442 : decode cL_refuses 442 = .ok (.bipush 10, 2) := by decide +kernel
theorem dL_refuses_444 : decode cL_refuses 444 = .ok (.iload_n 1, 1) := by decide +kernel
theorem dL_refuses_445 : decode cL_refuses 445 = .ok (.iadd, 1) := by decide +kernel
theorem dL_refuses_446 : decode cL_refuses 446 = .ok (.invokestatic 114, 3) := by decide +kernel
