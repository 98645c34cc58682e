theorem dL_count_7 : decode cL_count 7 = .ok (.i2l, 1) := by decide +kernel
theorem dL_count_8 : decode cL_count 8 = .ok (.putfield 13, 3) := by decide +kernel
theorem dL_count_11 : decode cL_count 11 = .ok (.goto 7, 3) := by decide +kernel
theorem dL_count_14 : decode cL_count 14 = .ok (.astore 4, 2) := by decide +kernel
theorem dL_count_16 : decode cL_count 16 = .ok (.iconst 1, 1) := by decide +kernel
theorem dL_count_17 : decode cL_count 17 = .ok (.ireturn, 1) := by decide +kernel
theorem dL_count_18 : decode cL_count 18 = .ok (.iconst 0, 1) := by decide +kernel
theorem dL_count_19 : decode cL_count 19 = .ok (.ireturn, 1) := by decide +kernel
set_option maxRecDepth 20000 in
theorem ggL_find_X3_find : GoodIn wsL_find wsX3_find := goodIn_ca (goodIn_r _ [6, 7, 8, 9, 10, 5, 11, 12, 13, 14, 15, 16, 17, 18, 19, 20, 23, 24, 25, 26, 27, 28, 29, 30, 31, 32, 33] (by decide +kernel) (by decide +kernel)) (goodIn_sub (fun _ h => List.mem_cons_of_mem _ (List.mem_append_right _ h)) (by decide +kernel))
set_option maxRecDepth 20000 in
theorem gL_find_X3_find : GoodIn wsL_find (wsV RL 57 RX3 yX3_find wsX3_find) := goodIn_app (goodIn_of _ (by decide +kernel)) ggL_find_X3_find
theorem dL_find_0 : decode cL_find 0 = .ok (.aload 4, 2) := by decide +kernel
theorem dL_find_2 : decode cL_find 2 = .ok (.aload_n 0, 1) := by decide +kernel
theorem dL_find_3 : decode cL_find 3 = .ok (.iload_n 1, 1) := by decide +kernel
theorem dL_find_4 : decode cL_find 4 = .ok (.iload_n 2, 1) := by decide +kernel
theorem dL_find_5 : decode cL_find 5 = .ok (.iload_n 3, 1) := by decide +kernel
theorem dL_find_6 : decode cL_find 6 = .ok (.invokevirtual 57, 3) := by decide +kernel
theorem dL_find_9 : decode cL_find 9 = .ok (.i2l, 1) := by decide +kernel
theorem dL_find_10 : decode cL_find 10 = .ok (.putfield 13, 3) := by decide +kernel
theorem dL_find_13 : decode cL_find 13 = .ok (.goto 7, 3) := by decide +kernel
theorem dL_find_16 : decode cL_find 16 = .ok (.astore 5, 2) := by decide +kernel
theorem dL_find_18 : decode cL_find 18 = .ok (.iconst 1, 1) := by decide +kernel
theorem dL_find_19 : decode cL_find 19 = .ok (.ireturn, 1) := by decide +kernel
theorem dL_find_20 : decode cL_find 20 = .ok (.iconst 0, 1) := by decide +kernel
theorem dL_find_21 : decode cL_find 21 = .ok (.ireturn, 1) := by decide +kernel
set_option maxRecDepth 20000 in
theorem ggL_rule_X3_rule : GoodIn wsL_rule wsX3_rule := goodIn_ca (goodIn_r _ [6, 7, 8, 9, 5, 10, 11, 12, 13, 14, 15, 16, 17, 18, 19, 20, 21, 22, 23, 24, 25, 26, 27, 28, 29, 30, 31, 32, 33, 34, 35, 36, 37, 38, 39, 40, 41, 42, 43, 44, 47, 48, 49, 50, 51, 52, 53, 54, 55, 56, 57, 58, 59, 60, 61, 62, 63, 64, 65] (by decide +kernel) (by decide +kernel)) (goodIn_sub (fun _ h => List.mem_cons_of_mem _ (List.mem_append_right _ h)) (by decide +kernel))
set_option maxRecDepth 20000 in
theorem gL_rule_X3_rule : GoodIn wsL_rule (wsV RL 61 RX3 yX3_rule wsX3_rule) := goodIn_app (goodIn_of _ (by decide +kernel)) ggL_rule_X3_rule
theorem dL_rule_0 : decode cL_rule 0 = .ok (.aload_n 3, 1) := by decide +kernel
theorem dL_rule_1 : decode cL_rule 1 = .ok (.aload_n 0, 1) := by decide +kernel
theorem dL_rule_2 : decode cL_rule 2 = .ok (.iload_n 1, 1) := by decide +kernel
theorem dL_rule_3 : decode cL_rule 3 = .ok (.iload_n 2, 1) := by decide +kernel
theorem dL_rule_4 : decode cL_rule 4 = .ok (.invokevirtual 61, 3) := by decide +kernel
theorem dL_rule_7 : decode cL_rule 7 = .ok (.i2l, 1) := by decide +kernel
theorem dL_rule_8 : decode cL_rule 8 = .ok (.putfield 13, 3) := by decide +kernel
theorem dL_rule_11 : decode cL_rule 11 = .ok (.goto 7, 3) := by decide +kernel
theorem dL_rule_14 : decode cL_rule 14 = .ok (.astore 4, 2) := by decide +kernel
theorem dL_rule_16 : decode cL_rule 16 = .ok (.iconst 1, 1) := by decide +kernel
theorem dL_rule_17 : decode cL_rule 17 = .ok (.ireturn, 1) := by decide +kernel
theorem dL_rule_18 : decode cL_rule 18 = .ok (.iconst 0, 1) := by decide +kernel
theorem dL_rule_19 : decode cL_rule 19 = .ok (.ireturn, 1) := by decide +kernel
set_option maxRecDepth 20000 in
theorem ggL_falling_X3_falling : GoodIn wsL_falling wsX3_falling := goodIn_ca (goodIn_r _ [6, 7, 8, 9, 5, 10, 11, 12, 13, 14, 15, 16, 17, 18, 19, 20, 21, 22, 23, 24, 25, 26, 27, 28, 29, 30, 31, 32, 33, 34, 35, 36, 37, 38, 39, 40, 41, 42, 43, 44, 45, 46, 47, 48, 49, 50, 51, 52, 55, 56, 57, 58, 59, 60, 61, 62, 63, 64, 65, 66, 67, 68, 69, 70, 71, 72, 73] (by decide +kernel) (by decide +kernel)) (goodIn_sub (fun _ h => List.mem_cons_of_mem _ (List.mem_append_right _ h)) (by decide +kernel))
set_option maxRecDepth 20000 in
theorem gL_falling_X3_falling : GoodIn wsL_falling (wsV RL 64 RX3 yX3_falling wsX3_falling) := goodIn_app (goodIn_of _ (by decide +kernel)) ggL_falling_X3_falling
theorem dL_falling_0 : decode cL_falling 0 = .ok (.aload_n 3, 1) := by decide +kernel
theorem dL_falling_1 : decode cL_falling 1 = .ok (.aload_n 0, 1) := by decide +kernel
theorem dL_falling_2 : decode cL_falling 2 = .ok (.iload_n 1, 1) := by decide +kernel
theorem dL_falling_3 : decode cL_falling 3 = .ok (.iload_n 2, 1) := by decide +kernel
theorem dL_falling_4 : decode cL_falling 4 = .ok (.invokevirtual 64, 3) := by decide +kernel
theorem dL_falling_7 : decode cL_falling 7 = .ok (.i2l, 1) := by decide +kernel
theorem dL_falling_8 : decode cL_falling 8 = .ok (.putfield 13, 3) := by decide +kernel
theorem dL_falling_11 : decode cL_falling 11 = .ok (.goto 7, 3) := by decide +kernel
theorem dL_falling_14 : decode cL_falling 14 = .ok (.astore 4, 2) := by decide +kernel
theorem dL_falling_16 : decode cL_falling 16 = .ok (.iconst 1, 1) := by decide +kernel
theorem dL_falling_17 : decode cL_falling 17 = .ok (.ireturn, 1) := by decide +kernel
theorem dL_falling_18 : decode cL_falling 18 = .ok (.iconst 0, 1) := by decide +kernel
theorem dL_falling_19 : decode cL_falling 19 = .ok (.ireturn, 1) := by decide +kernel
set_option maxRecDepth 20000 in
theorem ggL_drop_X3_drop : GoodIn wsL_drop wsX3_drop := goodIn_ca (goodIn_r _ [6, 7, 8, 9, 10, 11, 5, 12, 13, 14, 15, 16, 17, 18, 19, 20, 21, 22, 23, 24, 25, 26, 27, 28, 29, 30, 31, 32, 33, 34, 37, 38, 39, 40, 41, 42, 43, 44, 45, 46, 47, 48, 49, 50, 51, 52, 53, 54, 55] (by decide +kernel) (by decide +kernel)) (goodIn_sub (fun _ h => List.mem_cons_of_mem _ (List.mem_append_right _ h)) (by decide +kernel))
set_option maxRecDepth 20000 in
theorem gL_drop_X3_drop : GoodIn wsL_drop (wsV RL 67 RX3 yX3_drop wsX3_drop) := goodIn_app (goodIn_of _ (by decide +kernel)) ggL_drop_X3_drop
theorem dL_drop_0 : decode cL_drop 0 = .ok (.aload_n 2, 1) := by decide +kernel
theorem dL_drop_1 : decode cL_drop 1 = .ok (.aload_n 0, 1) := by decide +kernel
theorem dL_drop_2 : decode cL_drop 2 = .ok (.iload_n 1, 1) := by decide +kernel
theorem dL_drop_3 : decode cL_drop 3 = .ok (.invokevirtual 67, 3) := by decide +kernel
theorem dL_drop_13 : decode cL_drop 13 = .ok (.astore_n 3, 1) := by decide +kernel
theorem dL_drop_14 : decode cL_drop 14 = .ok (.iconst 1, 1) := by decide +kernel
theorem dL_drop_15 : decode cL_drop 15 = .ok (.ireturn, 1) := by decide +kernel
set_option maxRecDepth 20000 in
theorem ggL_flip_X3_flip : GoodIn wsL_flip wsX3_flip := goodIn_ca (goodIn_r _ [6, 7, 8, 9, 10, 11, 12, 5, 13, 14, 15, 16, 17, 18, 19, 20, 21, 22, 23, 24, 25, 26, 27, 28, 29, 30, 31, 32, 33, 34, 35, 36, 37, 38, 39, 40, 41, 42, 43, 44, 45, 46, 47, 48, 49, 52, 53, 54, 55, 56, 57, 58, 59, 60, 61, 62, 63, 64, 65, 66, 67, 68, 69, 70] (by decide +kernel) (by decide +kernel)) (goodIn_sub (fun _ h => List.mem_cons_of_mem _ (List.mem_append_right _ h)) (by decide +kernel))
set_option maxRecDepth 20000 in
theorem gL_flip_X3_flip : GoodIn wsL_flip (wsV RL 70 RX3 yX3_flip wsX3_flip) := goodIn_app (goodIn_of _ (by decide +kernel)) ggL_flip_X3_flip
theorem dL_flip_0 : decode cL_flip 0 = .ok (.aload_n 2, 1) := by decide +kernel
theorem dL_flip_1 : decode cL_flip 1 = .ok (.aload_n 0, 1) := by decide +kernel
theorem dL_flip_2 : decode cL_flip 2 = .ok (.iload_n 1, 1) := by decide +kernel
theorem dL_flip_3 : decode cL_flip 3 = .ok (.invokevirtual 70, 3) := by decide +kernel
theorem dL_flip_13 : decode cL_flip 13 = .ok (.astore_n 3, 1) := by decide +kernel
theorem dL_flip_14 : decode cL_flip 14 = .ok (.iconst 1, 1) := by decide +kernel
theorem dL_flip_15 : decode cL_flip 15 = .ok (.ireturn, 1) := by decide +kernel
set_option maxRecDepth 20000 in
theorem ggL_side_X3_side : GoodIn wsL_side wsX3_side := goodIn_ca (goodIn_r _ [6, 7, 8, 9, 10, 11, 12, 13, 5, 14, 15, 16, 17, 18, 19, 20, 21, 22, 23, 24, 25, 26, 27, 28, 29, 30, 31, 32, 35, 36, 37, 38, 39, 40, 41, 42, 43, 44, 45, 46, 47, 48, 49, 50, 51, 52, 53] (by decide +kernel) (by decide +kernel)) (goodIn_sub (fun _ h => List.mem_cons_of_mem _ (List.mem_append_right _ h)) (by decide +kernel))
set_option maxRecDepth 20000 in
theorem gL_side_X3_side : GoodIn wsL_side (wsV RL 73 RX3 yX3_side wsX3_side) := goodIn_app (goodIn_of _ (by decide +kernel)) ggL_side_X3_side
theorem dL_side_0 : decode cL_side 0 = .ok (.aload 4, 2) := by decide +kernel
theorem dL_side_2 : decode cL_side 2 = .ok (.aload_n 0, 1) := by decide +kernel
theorem dL_side_3 : decode cL_side 3 = .ok (.iload_n 1, 1) := by decide +kernel
theorem dL_side_4 : decode cL_side 4 = .ok (.iload_n 2, 1) := by decide +kernel
theorem dL_side_5 : decode cL_side 5 = .ok (.iload_n 3, 1) := by decide +kernel
theorem dL_side_6 : decode cL_side 6 = .ok (.invokevirtual 73, 3) := by decide +kernel
theorem dL_side_16 : decode cL_side 16 = .ok (.astore 5, 2) := by decide +kernel
theorem dL_side_18 : decode cL_side 18 = .ok (.iconst 1, 1) := by decide +kernel
theorem dL_side_19 : decode cL_side 19 = .ok (.ireturn, 1) := by decide +kernel
set_option maxRecDepth 20000 in
theorem ggL_ruleText_X3_ruleText : GoodIn wsL_ruleText wsX3_ruleText := goodIn_ca (goodIn_r _ [6, 7, 8, 9, 10, 11, 12, 13, 14, 15, 5, 16, 17, 18, 19, 20, 21, 22, 23, 24, 25, 26, 27, 28, 29, 30, 31, 32, 33, 34, 35, 36, 37, 38, 39, 40, 41, 42, 43, 44, 45, 46, 47, 48, 49, 50, 51, 52, 53, 54, 55, 56, 57, 58, 59, 60, 61, 62, 63, 64, 65, 66, 67, 68, 69, 70, 71, 72, 73, 74, 75, 76, 77, 78, 79, 80, 81, 82, 83, 84, 85, 86, 87, 88, 89, 90, 91, 92, 93, 94, 95, 96, 97, 98, 99, 100, 101, 102, 103, 104, 105, 106, 107, 108, 109, 110, 111, 112, 113, 114, 115, 116, 117, 118, 119, 120, 121, 122, 123, 124, 125, 126, 127, 128, 129, 130, 131, 132, 133, 134, 135, 136, 137, 138, 139, 140, 141, 142, 143, 144, 145, 146, 147, 148, 149, 150, 151, 152, 153, 154, 155, 156, 157, 158, 159, 160, 161, 162, 163, 164, 165, 166, 167, 168, 169, 170, 171, 172, 173, 174, 175, 176, 177, 178, 179, 180, 181, 182, 183, 184, 185, 186, 187, 188, 189, 190, 191, 192, 193, 194, 195, 196, 197, 198, 199, 200, 201, 202, 203, 204, 205, 206, 207, 210, 211, 212, 213, 214, 215, 216, 217, 218, 219, 220, 221, 222, 223, 224, 225, 226, 227, 228, 229, 230, 231, 232, 233, 234, 235, 236] (by decide +kernel) (by decide +kernel)) (goodIn_sub (fun _ h => List.mem_cons_of_mem _ (List.mem_append_right _ h)) (by decide +kernel))
set_option maxRecDepth 20000 in
theorem gL_ruleText_X3_ruleText : GoodIn wsL_ruleText (wsV RL 76 RX3 yX3_ruleText wsX3_ruleText) := goodIn_app (goodIn_of _ (by decide +kernel)) ggL_ruleText_X3_ruleText
theorem dL_ruleText_0 : decode cL_ruleText 0 = .ok (.aload_n 2, 1) := by decide +kernel
theorem dL_ruleText_1 : decode cL_ruleText 1 = .ok (.aload_n 0, 1) := by decide +kernel
theorem dL_ruleText_2 : decode cL_ruleText 2 = .ok (.iload_n 1, 1) := by decide +kernel
theorem dL_ruleText_3 : decode cL_ruleText 3 = .ok (.invokevirtual 76, 3) := by decide +kernel
theorem dL_ruleText_12 : decode cL_ruleText 12 = .ok (.astore_n 3, 1) := by decide +kernel
theorem dL_ruleText_13 : decode cL_ruleText 13 = .ok (.iconst 1, 1) := by decide +kernel
theorem dL_ruleText_14 : decode cL_ruleText 14 = .ok (.ireturn, 1) := by decide +kernel
set_option maxRecDepth 20000 in
theorem ggL_falls_X3_falls : GoodIn wsL_falls wsX3_falls := goodIn_ca (goodIn_r _ [6, 7, 8, 9, 10, 5, 11, 12, 13, 14, 15, 16, 17, 18, 19, 20, 21, 22, 23, 24, 25, 26, 27, 28, 31, 32, 33, 34, 35, 36, 37, 38, 39, 40, 41, 42, 43, 44, 45, 46, 47, 48, 49] (by decide +kernel) (by decide +kernel)) (goodIn_sub (fun _ h => List.mem_cons_of_mem _ (List.mem_append_right _ h)) (by decide +kernel))
set_option maxRecDepth 20000 in
theorem gL_falls_X3_falls : GoodIn wsL_falls (wsV RL 79 RX3 yX3_falls wsX3_falls) := goodIn_app (goodIn_of _ (by decide +kernel)) ggL_falls_X3_falls
theorem dL_falls_0 : decode cL_falls 0 = .ok (.aload_n 2, 1) := by decide +kernel
theorem dL_falls_1 : decode cL_falls 1 = .ok (.aload_n 0, 1) := by decide +kernel
theorem dL_falls_2 : decode cL_falls 2 = .ok (.iload_n 1, 1) := by decide +kernel
theorem dL_falls_3 : decode cL_falls 3 = .ok (.invokevirtual 79, 3) := by decide +kernel
theorem dL_falls_20 : decode cL_falls 20 = .ok (.astore_n 3, 1) := by decide +kernel
theorem dL_falls_21 : decode cL_falls 21 = .ok (.iconst 1, 1) := by decide +kernel
theorem dL_falls_22 : decode cL_falls 22 = .ok (.ireturn, 1) := by decide +kernel
set_option maxRecDepth 20000 in
theorem ggL_step_X3_step : GoodIn wsL_step wsX3_step := goodIn_ca (goodIn_ca (goodIn_r _ [7, 8, 9, 10, 11, 6, 12, 13, 14, 15, 16, 17, 18, 19, 20, 21, 22, 23, 24, 25, 26, 27, 28, 29, 30, 31, 32, 33, 34, 35, 36, 37, 38, 39, 40, 41, 42, 43, 44, 45, 46, 47, 48, 49, 50, 51, 52, 53, 54, 55, 56, 57, 58, 59, 60, 61, 62, 63, 64, 65, 66, 67, 68, 69, 70, 71, 72, 73, 74, 75, 76, 77, 78, 79, 80, 83, 84, 85, 86, 87, 88, 89, 90, 91, 92, 93, 94, 95, 96, 97, 98, 99, 100, 101] (by decide +kernel) (by decide +kernel)) (goodIn_sub (fun _ h => List.mem_cons_of_mem _ (List.mem_append_left _ (List.mem_append_right _ h))) (by decide +kernel))) (goodIn_sub (fun _ h => List.mem_cons_of_mem _ (List.mem_append_right _ h)) (by decide +kernel))
set_option maxRecDepth 20000 in
theorem gL_step_X3_step : GoodIn wsL_step (wsV RL 83 RX3 yX3_step wsX3_step) := goodIn_app (goodIn_of _ (by decide +kernel)) ggL_step_X3_step
theorem dL_step_0 : decode cL_step 0 = .ok (.aload_n 3, 1) := by decide +kernel
theorem dL_step_1 : decode cL_step 1 = .ok (.aload_n 0, 1) := by decide +kernel
theorem dL_step_2 : decode cL_step 2 = .ok (.iload_n 1, 1) := by decide +kernel
theorem dL_step_3 : decode cL_step 3 = .ok (.iload_n 2, 1) := by decide +kernel
theorem dL_step_4 : decode cL_step 4 = .ok (.invokevirtual 83, 3) := by decide +kernel
theorem dL_step_7 : decode cL_step 7 = .ok (.i2l, 1) := by decide +kernel
theorem dL_step_8 : decode cL_step 8 = .ok (.putfield 13, 3) := by decide +kernel
theorem dL_step_11 : decode cL_step 11 = .ok (.goto 11, 3) := by decide +kernel
theorem dL_step_14 : decode cL_step 14 = .ok (.astore 4, 2) := by decide +kernel
theorem dL_step_16 : decode cL_step 16 = .ok (.iconst 1, 1) := by decide +kernel
theorem dL_step_17 : decode cL_step 17 = .ok (.ireturn, 1) := by decide +kernel
theorem dL_step_18 : decode cL_step 18 = .ok (.astore 4, 2) := by decide +kernel
theorem dL_step_20 : decode cL_step 20 = .ok (.iconst 2, 1) := by decide +kernel
theorem dL_step_21 : decode cL_step 21 = .ok (.ireturn, 1) := by decide +kernel
theorem dL_step_22 : decode cL_step 22 = .ok (.iconst 0, 1) := by decide +kernel
theorem dL_step_23 : decode cL_step 23 = .ok (.ireturn, 1) := by decide +kernel
set_option maxRecDepth 20000 in
theorem ggL_run_X3_run : GoodIn wsL_run wsX3_run := goodIn_ca (goodIn_ca (goodIn_r _ [7, 8, 9, 10, 11, 12, 13, 14, 6, 15, 16, 17, 18, 19, 20, 21, 22, 23, 24, 25, 26, 27, 28, 29, 30, 31, 32, 33, 34, 35, 36, 37, 38, 39, 40, 41, 42, 43, 44, 45, 46, 47, 48, 49, 50, 51, 52, 53, 54, 55, 56, 57, 58, 59, 60, 61, 62, 63, 64, 65, 66, 67, 68, 69, 70, 71, 72, 73, 74, 77, 78, 79, 80, 81, 82, 83, 84, 85, 86, 87, 88, 89, 90, 91, 92, 93, 94, 95] (by decide +kernel) (by decide +kernel)) (goodIn_sub (fun _ h => List.mem_cons_of_mem _ (List.mem_append_left _ (List.mem_append_right _ h))) (by decide +kernel))) (goodIn_sub (fun _ h => List.mem_cons_of_mem _ (List.mem_append_right _ h)) (by decide +kernel))
set_option maxRecDepth 20000 in
theorem gL_run_X3_run : GoodIn wsL_run (wsV RL 86 RX3 yX3_run wsX3_run) := goodIn_app (goodIn_of _ (by decide +kernel)) ggL_run_X3_run
theorem dL_run_0 : decode cL_run 0 = .ok (.aload 4, 2) := by decide +kernel
theorem dL_run_2 : decode cL_run 2 = .ok (.aload_n 0, 1) := by decide +kernel
theorem dL_run_3 : decode cL_run 3 = .ok (.iload_n 1, 1) := by decide +kernel
theorem dL_run_4 : decode cL_run 4 = .ok (.iload_n 2, 1) := by decide +kernel
theorem dL_run_5 : decode cL_run 5 = .ok (.iload_n 3, 1) := by decide +kernel
theorem dL_run_6 : decode cL_run 6 = .ok (.invokevirtual 86, 3) := by decide +kernel
theorem dL_run_9 : decode cL_run 9 = .ok (.i2l, 1) := by decide +kernel
theorem dL_run_10 : decode cL_run 10 = .ok (.putfield 13, 3) := by decide +kernel
theorem dL_run_13 : decode cL_run 13 = .ok (.goto 11, 3) := by decide +kernel
theorem dL_run_16 : decode cL_run 16 = .ok (.astore 5, 2) := by decide +kernel
theorem dL_run_18 : decode cL_run 18 = .ok (.iconst 1, 1) := by decide +kernel
theorem dL_run_19 : decode cL_run 19 = .ok (.ireturn, 1) := by decide +kernel
theorem dL_run_20 : decode cL_run 20 = .ok (.astore 5, 2) := by decide +kernel
theorem dL_run_22 : decode cL_run 22 = .ok (.iconst 2, 1) := by decide +kernel
theorem dL_run_23 : decode cL_run 23 = .ok (.ireturn, 1) := by decide +kernel
theorem dL_run_24 : decode cL_run 24 = .ok (.iconst 0, 1) := by decide +kernel
theorem dL_run_25 : decode cL_run 25 = .ok (.ireturn, 1) := by decide +kernel
set_option maxRecDepth 20000 in
theorem ggL_pick_X3_pick : GoodIn wsL_pick wsX3_pick := goodIn_ca (goodIn_r _ [6, 7, 8, 9, 10, 11, 5, 12, 13, 14, 15, 16, 17, 18, 19, 20, 21, 22, 23, 24, 25, 26, 27, 28, 29, 30, 31, 32, 33, 34, 35, 36, 37, 38, 39, 40, 41, 42, 43, 44, 45, 46, 47, 48, 49, 50, 51, 52, 53, 54, 55, 56, 57, 58, 59, 60, 61, 62, 63, 64, 65, 66, 69, 70, 71, 72, 73, 74, 75, 76, 77, 78, 79, 80, 81, 82, 83, 84, 85, 86, 87] (by decide +kernel) (by decide +kernel)) (goodIn_sub (fun _ h => List.mem_cons_of_mem _ (List.mem_append_right _ h)) (by decide +kernel))
set_option maxRecDepth 20000 in
theorem gL_pick_X3_pick : GoodIn wsL_pick (wsV RL 89 RX3 yX3_pick wsX3_pick) := goodIn_app (goodIn_of _ (by decide +kernel)) ggL_pick_X3_pick
theorem dL_pick_0 : decode cL_pick 0 = .ok (.aload_n 3, 1) := by decide +kernel
theorem dL_pick_1 : decode cL_pick 1 = .ok (.aload_n 0, 1) := by decide +kernel
theorem dL_pick_2 : decode cL_pick 2 = .ok (.iload_n 1, 1) := by decide +kernel
theorem dL_pick_3 : decode cL_pick 3 = .ok (.iload_n 2, 1) := by decide +kernel
theorem dL_pick_4 : decode cL_pick 4 = .ok (.invokevirtual 89, 3) := by decide +kernel
theorem dL_pick_7 : decode cL_pick 7 = .ok (.i2l, 1) := by decide +kernel
theorem dL_pick_8 : decode cL_pick 8 = .ok (.putfield 13, 3) := by decide +kernel
theorem dL_pick_11 : decode cL_pick 11 = .ok (.goto 7, 3) := by decide +kernel
theorem dL_pick_14 : decode cL_pick 14 = .ok (.astore 4, 2) := by decide +kernel
theorem dL_pick_16 : decode cL_pick 16 = .ok (.iconst 1, 1) := by decide +kernel
theorem dL_pick_17 : decode cL_pick 17 = .ok (.ireturn, 1) := by decide +kernel
theorem dL_pick_18 : decode cL_pick 18 = .ok (.iconst 0, 1) := by decide +kernel
theorem dL_pick_19 : decode cL_pick 19 = .ok (.ireturn, 1) := by decide +kernel
set_option maxRecDepth 20000 in
theorem ggL_unwind_X3_unwind : GoodIn wsL_unwind wsX3_unwind := goodIn_ca (goodIn_r _ [6, 7, 8, 9, 10, 11, 12, 13, 5, 14, 15, 16, 17, 18, 19, 20, 21, 22, 23, 24, 25, 26, 27, 28, 29, 30, 31, 32, 33, 34, 35, 36, 37, 38, 39, 40, 41, 42, 43, 44, 45, 48, 49, 50, 51, 52, 53, 54, 55, 56, 57, 58, 59, 60, 61, 62, 63, 64, 65, 66] (by decide +kernel) (by decide +kernel)) (goodIn_sub (fun _ h => List.mem_cons_of_mem _ (List.mem_append_right _ h)) (by decide +kernel))
set_option maxRecDepth 20000 in
theorem gL_unwind_X3_unwind : GoodIn wsL_unwind (wsV RL 92 RX3 yX3_unwind wsX3_unwind) := goodIn_app (goodIn_of _ (by decide +kernel)) ggL_unwind_X3_unwind
theorem dL_unwind_0 : decode cL_unwind 0 = .ok (.aload 4, 2) := by decide +kernel
theorem dL_unwind_2 : decode cL_unwind 2 = .ok (.aload_n 0, 1) := by decide +kernel
theorem dL_unwind_3 : decode cL_unwind 3 = .ok (.iload_n 1, 1) := by decide +kernel
theorem dL_unwind_4 : decode cL_unwind 4 = .ok (.iload_n 2, 1) := by decide +kernel
theorem dL_unwind_5 : decode cL_unwind 5 = .ok (.iload_n 3, 1) := by decide +kernel
theorem dL_unwind_6 : decode cL_unwind 6 = .ok (.invokevirtual 92, 3) := by decide +kernel
theorem dL_unwind_16 : decode cL_unwind 16 = .ok (.astore 5, 2) := by decide +kernel
theorem dL_unwind_18 : decode cL_unwind 18 = .ok (.iconst 1, 1) := by decide +kernel
theorem dL_unwind_19 : decode cL_unwind 19 = .ok (.ireturn, 1) := by decide +kernel
set_option maxRecDepth 20000 in
theorem ggL_spots_X3_spots : GoodIn wsL_spots wsX3_spots := goodIn_ca (goodIn_r _ [6, 7, 8, 9, 10, 5, 11, 12, 13, 14, 15, 16, 17, 18, 19, 20, 21, 22, 23, 24, 25, 26, 27, 28, 31, 32, 33, 34, 35, 36, 37, 38, 39, 40, 41, 42, 43, 44, 45, 46, 47, 48, 49] (by decide +kernel) (by decide +kernel)) (goodIn_sub (fun _ h => List.mem_cons_of_mem _ (List.mem_append_right _ h)) (by decide +kernel))
set_option maxRecDepth 20000 in
theorem gL_spots_X3_spots : GoodIn wsL_spots (wsV RL 95 RX3 yX3_spots wsX3_spots) := goodIn_app (goodIn_of _ (by decide +kernel)) ggL_spots_X3_spots
theorem dL_spots_0 : decode cL_spots 0 = .ok (.aload_n 2, 1) := by decide +kernel
theorem dL_spots_1 : decode cL_spots 1 = .ok (.aload_n 0, 1) := by decide +kernel
theorem dL_spots_2 : decode cL_spots 2 = .ok (.iload_n 1, 1) := by decide +kernel
theorem dL_spots_3 : decode cL_spots 3 = .ok (.invokevirtual 95, 3) := by decide +kernel
theorem dL_spots_6 : decode cL_spots 6 = .ok (.i2l, 1) := by decide +kernel
theorem dL_spots_7 : decode cL_spots 7 = .ok (.putfield 13, 3) := by decide +kernel
theorem dL_spots_10 : decode cL_spots 10 = .ok (.goto 6, 3) := by decide +kernel
theorem dL_spots_13 : decode cL_spots 13 = .ok (.astore_n 3, 1) := by decide +kernel
theorem dL_spots_14 : decode cL_spots 14 = .ok (.iconst 1, 1) := by decide +kernel
theorem dL_spots_15 : decode cL_spots 15 = .ok (.ireturn, 1) := by decide +kernel
theorem dL_spots_16 : decode cL_spots 16 = .ok (.iconst 0, 1) := by decide +kernel
theorem dL_spots_17 : decode cL_spots 17 = .ok (.ireturn, 1) := by decide +kernel
set_option maxRecDepth 20000 in
theorem ggL_spot_X3_spot : GoodIn wsL_spot wsX3_spot := goodIn_ca (goodIn_r _ [6, 7, 8, 9, 10, 11, 12, 13, 14, 5, 15, 16, 17, 18, 19, 20, 21, 22, 23, 24, 25, 26, 27, 28, 29, 30, 31, 32, 33, 34, 35, 36, 37, 38, 39, 40, 41, 42, 43, 44, 45, 46, 47, 48, 49, 50, 51, 52, 53, 54, 55, 56, 57, 58, 59, 60, 61, 62, 63, 64, 65, 66, 67, 68, 69, 70, 71, 72, 73, 74, 75, 76, 77, 78, 79, 80, 81, 82, 83, 84, 85, 86, 87, 88, 89, 90, 91, 92, 93, 94, 95, 96, 97, 98, 99, 100, 101, 102, 103, 104, 105, 106, 107, 108, 109, 110, 111, 112, 113, 114, 115, 116, 117, 118, 119, 120, 121, 122, 123, 124, 125, 126, 127, 128, 129, 130, 131, 132, 133, 134, 135, 136, 137, 138, 139, 140, 141, 142, 143, 144, 145, 146, 147, 148, 149, 150, 151, 152, 153, 154, 155, 156, 157, 158, 159, 160, 161, 162, 163, 164, 165, 166, 167, 168, 169, 170, 171, 172, 173, 174, 175, 176, 177, 178, 179, 180, 181, 182, 183, 184, 185, 186, 187, 188, 189, 190, 191, 192, 193, 194, 195, 196, 197, 198, 199, 200, 201, 202, 203, 204, 205, 206, 207, 208, 209, 210, 211, 212, 213, 214, 215, 216, 217, 218, 219, 220, 221, 222, 223, 224, 225, 226, 227, 228, 229, 230, 231, 232, 233, 234, 235, 236, 237, 238, 239, 240, 241, 242, 243, 244, 245, 246, 247, 248, 249, 250, 251, 252, 253, 254, 255, 256, 257, 258, 259, 260, 261, 262, 263, 264, 265, 266, 267, 268, 269, 270, 271, 272, 273, 274, 275, 276, 277, 280, 281, 282, 283, 284, 285, 286, 287, 288, 289, 290, 291, 292, 293, 294, 295, 296, 297, 298, 299, 300, 301, 302, 303, 304, 305, 306] (by decide +kernel) (by decide +kernel)) (goodIn_sub (fun _ h => List.mem_cons_of_mem _ (List.mem_append_right _ h)) (by decide +kernel))
set_option maxRecDepth 20000 in
theorem gL_spot_X3_spot : GoodIn wsL_spot (wsV RL 98 RX3 yX3_spot wsX3_spot) := goodIn_app (goodIn_of _ (by decide +kernel)) ggL_spot_X3_spot
theorem dL_spot_0 : decode cL_spot 0 = .ok (.aload_n 3, 1) := by decide +kernel
theorem dL_spot_1 : decode cL_spot 1 = .ok (.aload_n 0, 1) := by decide +kernel
theorem dL_spot_2 : decode cL_spot 2 = .ok (.iload_n 1, 1) := by decide +kernel
theorem dL_spot_3 : decode cL_spot 3 = .ok (.iload_n 2, 1) := by decide +kernel
theorem dL_spot_4 : decode cL_spot 4 = .ok (.invokevirtual 98, 3) := by decide +kernel
theorem dL_spot_7 : decode cL_spot 7 = .ok (.putfield 47, 3) := by decide +kernel
theorem dL_spot_10 : decode cL_spot 10 = .ok (.goto 7, 3) := by decide +kernel
theorem dL_spot_13 : decode cL_spot 13 = .ok (.astore 4, 2) := by decide +kernel
theorem dL_spot_15 : decode cL_spot 15 = .ok (.iconst 1, 1) := by decide +kernel
theorem dL_spot_16 : decode cL_spot 16 = .ok (.ireturn, 1) := by decide +kernel
theorem dL_spot_17 : decode cL_spot 17 = .ok (.iconst 0, 1) := by decide +kernel
theorem dL_spot_18 : decode cL_spot 18 = .ok (.ireturn, 1) := by decide +kernel
set_option maxRecDepth 20000 in
theorem ggL_isEnd_X3_isEnd : GoodIn wsL_isEnd wsX3_isEnd := goodIn_ca (goodIn_r _ [6, 7, 8, 9, 10, 5, 11, 12, 13, 14, 15, 16, 17, 18, 19, 20, 21, 22, 23, 24, 25, 26, 27, 28, 29, 30, 31, 32, 33, 34, 35, 36, 37, 38, 41, 42, 43, 44, 45, 46, 47, 48, 49, 50, 51, 52, 53, 54, 55, 56, 57, 58, 59] (by decide +kernel) (by decide +kernel)) (goodIn_sub (fun _ h => List.mem_cons_of_mem _ (List.mem_append_right _ h)) (by decide +kernel))
set_option maxRecDepth 20000 in
theorem gL_isEnd_X3_isEnd : GoodIn wsL_isEnd (wsV RL 102 RX3 yX3_isEnd wsX3_isEnd) := goodIn_app (goodIn_of _ (by decide +kernel)) ggL_isEnd_X3_isEnd
theorem dL_isEnd_0 : decode cL_isEnd 0 = .ok (.aload_n 2, 1) := by decide +kernel
theorem dL_isEnd_1 : decode cL_isEnd 1 = .ok (.aload_n 0, 1) := by decide +kernel
theorem dL_isEnd_2 : decode cL_isEnd 2 = .ok (.iload_n 1, 1) := by decide +kernel
theorem dL_isEnd_3 : decode cL_isEnd 3 = .ok (.invokevirtual 102, 3) := by decide +kernel
theorem dL_isEnd_6 : decode cL_isEnd 6 = .ok (.ifCond .eq 7, 3) := by decide +kernel
theorem dL_isEnd_9 : decode cL_isEnd 9 = .ok (.lconst 1, 1) := by decide +kernel
theorem dL_isEnd_10 : decode cL_isEnd 10 = .ok (.goto 4, 3) := by decide +kernel
theorem dL_isEnd_14 : decode cL_isEnd 14 = .ok (.putfield 13, 3) := by decide +kernel
theorem dL_isEnd_17 : decode cL_isEnd 17 = .ok (.goto 6, 3) := by decide +kernel
theorem dL_isEnd_20 : decode cL_isEnd 20 = .ok (.astore_n 3, 1) := by decide +kernel
theorem dL_isEnd_21 : decode cL_isEnd 21 = .ok (.iconst 1, 1) := by decide +kernel
theorem dL_isEnd_22 : decode cL_isEnd 22 = .ok (.ireturn, 1) := by decide +kernel
theorem dL_isEnd_23 : decode cL_isEnd 23 = .ok (.iconst 0, 1) := by decide +kernel
theorem dL_isEnd_24 : decode cL_isEnd 24 = .ok (.ireturn, 1) := by decide +kernel
set_option maxRecDepth 20000 in
theorem ggL_form_X3_form : GoodIn wsL_form wsX3_form := goodIn_ca (goodIn_r _ [6, 7, 8, 9, 10, 11, 5, 12, 13, 14, 15, 16, 17, 18, 19, 20, 21, 22, 23, 24, 25, 26, 27, 28, 29, 30, 31, 32, 33, 34, 35, 36, 37, 38, 39, 40, 41, 42, 43, 44, 45, 46, 47, 48, 49, 50, 51, 52, 53, 54, 55, 56, 57, 58, 59, 60, 61, 62, 63, 64, 65, 66, 67, 68, 69, 70, 71, 72, 73, 74, 75, 76, 77, 78, 79, 80, 81, 82, 83, 84, 85, 86, 87, 88, 89, 90, 91, 92, 93, 94, 95, 96, 97, 98, 99, 100, 101, 102, 103, 104, 105, 106, 107, 108, 109, 110, 111, 112, 113, 114, 115, 116, 117, 118, 119, 120, 121, 122, 123, 124, 125, 126, 127, 128, 129, 130, 131, 132, 133, 134, 135, 136, 137, 138, 139, 140, 141, 142, 143, 144, 145, 146, 147, 148, 149, 150, 151, 152, 153, 154, 155, 156, 157, 158, 159, 160, 161, 162, 163, 164, 165, 166, 167, 168, 169, 170, 171, 172, 173, 174, 175, 176, 177, 178, 179, 180, 181, 182, 183, 184, 185, 186, 187, 188, 189, 190, 191, 192, 193, 194, 195, 196, 197, 198, 199, 200, 201, 202, 203, 204, 205, 206, 207, 208, 209, 210, 211, 212, 213, 214, 215, 216, 217, 218, 219, 220, 221, 222, 223, 224, 225, 226, 227, 228, 229, 230, 231, 232, 233, 234, 235, 236, 237, 238, 239, 240, 241, 242, 243, 244, 245, 246, 247, 248, 251, 252, 253, 254, 255, 256, 257, 258, 259, 260, 261, 262, 263, 264, 265, 266, 267, 268, 269, 270, 271, 272, 273, 274, 275, 276, 277] (by decide +kernel) (by decide +kernel)) (goodIn_sub (fun _ h => List.mem_cons_of_mem _ (List.mem_append_right _ h)) (by decide +kernel))
set_option maxRecDepth 20000 in
theorem gL_form_X3_form : GoodIn wsL_form (wsV RL 105 RX3 yX3_form wsX3_form) := goodIn_app (goodIn_of _ (by decide +kernel)) ggL_form_X3_form
theorem dL_form_0 : decode cL_form 0 = .ok (.aload_n 2, 1) := by decide +kernel
theorem dL_form_1 : decode cL_form 1 = .ok (.aload_n 0, 1) := by decide +kernel
theorem dL_form_2 : decode cL_form 2 = .ok (.iload_n 1, 1) := by decide +kernel
theorem dL_form_3 : decode cL_form 3 = .ok (.invokevirtual 105, 3) := by decide +kernel
theorem dL_form_6 : decode cL_form 6 = .ok (.putfield 47, 3) := by decide +kernel
theorem dL_form_9 : decode cL_form 9 = .ok (.goto 6, 3) := by decide +kernel
theorem dL_form_12 : decode cL_form 12 = .ok (.astore_n 3, 1) := by decide +kernel
theorem dL_form_13 : decode cL_form 13 = .ok (.iconst 1, 1) := by decide +kernel
theorem dL_form_14 : decode cL_form 14 = .ok (.ireturn, 1) := by decide +kernel
theorem dL_form_15 : decode cL_form 15 = .ok (.iconst 0, 1) := by decide +kernel
theorem dL_form_16 : decode cL_form 16 = .ok (.ireturn, 1) := by decide +kernel
set_option maxRecDepth 20000 in
theorem ggL_told_X3_told : GoodIn wsL_told wsX3_told := goodIn_ca (goodIn_r _ [6, 7, 8, 9, 10, 11, 12, 13, 5, 14, 15, 16, 17, 18, 19, 20, 21, 22, 23, 24, 25, 26, 27, 28, 29, 30, 31, 32, 33, 34, 35, 36, 37, 38, 39, 40, 41, 42, 43, 44, 45, 46, 47, 48, 49, 50, 51, 52, 53, 54, 55, 56, 57, 58, 59, 60, 61, 62, 63, 64, 65, 66, 67, 68, 69, 70, 71, 72, 73, 74, 75, 76, 77, 78, 79, 80, 81, 82, 83, 84, 85, 86, 87, 88, 89, 90, 91, 92, 93, 94, 95, 96, 97, 98, 99, 100, 101, 102, 103, 104, 105, 106, 107, 108, 109, 110, 111, 112, 113, 114, 115, 116, 117, 118, 119, 120, 121, 122, 123, 124, 125, 126, 127, 128, 129, 130, 131, 132, 133, 134, 135, 136, 137, 138, 139, 140, 141, 142, 143, 144, 145, 146, 147, 148, 149, 150, 153, 154, 155, 156, 157, 158, 159, 160, 161, 162, 163, 164, 165, 166, 167, 168, 169, 170, 171, 172, 173, 174, 175, 176, 177, 178, 179] (by decide +kernel) (by decide +kernel)) (goodIn_sub (fun _ h => List.mem_cons_of_mem _ (List.mem_append_right _ h)) (by decide +kernel))
set_option maxRecDepth 20000 in
theorem gL_told_X3_told : GoodIn wsL_told (wsV RL 108 RX3 yX3_told wsX3_told) := goodIn_app (goodIn_of _ (by decide +kernel)) ggL_told_X3_told
theorem dL_told_0 : decode cL_told 0 = .ok (.aload_n 3, 1) := by decide +kernel
theorem dL_told_1 : decode cL_told 1 = .ok (.aload_n 0, 1) := by decide +kernel
theorem dL_told_2 : decode cL_told 2 = .ok (.iload_n 1, 1) := by decide +kernel
theorem dL_told_3 : decode cL_told 3 = .ok (.iload_n 2, 1) := by decide +kernel
theorem dL_told_4 : decode cL_told 4 = .ok (.invokevirtual 108, 3) := by decide +kernel
theorem dL_told_7 : decode cL_told 7 = .ok (.i2l, 1) := by decide +kernel
theorem dL_told_8 : decode cL_told 8 = .ok (.putfield 13, 3) := by decide +kernel
theorem dL_told_11 : decode cL_told 11 = .ok (.goto 7, 3) := by decide +kernel
theorem dL_told_14 : decode cL_told 14 = .ok (.astore 4, 2) := by decide +kernel
theorem dL_told_16 : decode cL_told 16 = .ok (.iconst 1, 1) := by decide +kernel
theorem dL_told_17 : decode cL_told 17 = .ok (.ireturn, 1) := by decide +kernel
theorem dL_told_18 : decode cL_told 18 = .ok (.iconst 0, 1) := by decide +kernel
theorem dL_told_19 : decode cL_told 19 = .ok (.ireturn, 1) := by decide +kernel
set_option maxRecDepth 20000 in
theorem ggL_meets_X3_meets : GoodIn wsL_meets wsX3_meets := goodIn_ca (goodIn_r _ [6, 7, 8, 9, 10, 11, 12, 13, 14, 15, 16, 17, 18, 19, 20, 21, 22, 23, 24, 25, 26, 27, 28, 29, 30, 31, 32, 33, 34, 35, 36, 37, 38, 39, 40, 41, 42, 43, 44, 45, 46, 47, 48, 49, 50, 51, 52, 53, 54, 55, 56, 57, 58, 59, 60, 61, 62, 63, 64, 65, 66, 67, 68, 69, 70, 71, 72, 73, 74, 75, 76, 77, 78, 79, 80, 81, 82, 83, 84, 85, 86, 87, 88, 89, 90, 91, 92, 93, 94, 95, 96, 97, 98, 99, 100, 101, 102, 103, 104, 105, 106, 107, 108, 109, 110, 111, 112, 113, 114, 115, 116, 117, 118, 119, 120, 121, 122, 123, 124, 125, 126, 127, 128, 131, 132, 133, 134, 135, 136, 137, 138, 139, 140, 141, 142, 143, 144, 145, 146, 147, 148, 149, 150, 151, 152, 153, 154, 155, 156, 157] (by decide +kernel) (by decide +kernel)) (goodIn_sub (fun _ h => List.mem_cons_of_mem _ (List.mem_append_right _ h)) (by decide +kernel))
set_option maxRecDepth 20000 in
theorem gL_meets_X3_meets : GoodIn wsL_meets (wsV RL 111 RX3 yX3_meets wsX3_meets) := goodIn_app (goodIn_of _ (by decide +kernel)) ggL_meets_X3_meets
theorem dL_meets_0 : decode cL_meets 0 = .ok (.aload_n 2, 1) := by decide +kernel
theorem dL_meets_1 : decode cL_meets 1 = .ok (.aload_n 0, 1) := by decide +kernel
theorem dL_meets_2 : decode cL_meets 2 = .ok (.iload_n 1, 1) := by decide +kernel
theorem dL_meets_3 : decode cL_meets 3 = .ok (.invokevirtual 111, 3) := by decide +kernel
theorem dL_meets_20 : decode cL_meets 20 = .ok (.astore_n 3, 1) := by decide +kernel
theorem dL_meets_21 : decode cL_meets 21 = .ok (.iconst 1, 1) := by decide +kernel
theorem dL_meets_22 : decode cL_meets 22 = .ok (.ireturn, 1) := by decide +kernel
set_option maxRecDepth 20000 in
theorem ggL_house_X3_house : GoodIn wsL_house wsX3_house := goodIn_ca (goodIn_r _ [6, 7, 8, 9, 10, 11, 12, 13, 14, 5, 15, 16, 17, 20, 21, 22, 23, 24, 25, 26, 27, 28, 29, 30] (by decide +kernel) (by decide +kernel)) (goodIn_sub (fun _ h => List.mem_cons_of_mem _ (List.mem_append_right _ h)) (by decide +kernel))
set_option maxRecDepth 20000 in
theorem gL_house_X3_house : GoodIn wsL_house (wsV RL 114 RX3 yX3_house wsX3_house) := goodIn_app (goodIn_of _ (by decide +kernel)) ggL_house_X3_house
theorem dL_house_0 : decode cL_house 0 = .ok (.aload_n 2, 1) := by decide +kernel
theorem dL_house_1 : decode cL_house 1 = .ok (.aload_n 0, 1) := by decide +kernel
theorem dL_house_2 : decode cL_house 2 = .ok (.iload_n 1, 1) := by decide +kernel
theorem dL_house_3 : decode cL_house 3 = .ok (.invokevirtual 114, 3) := by decide +kernel
theorem dL_house_6 : decode cL_house 6 = .ok (.i2l, 1) := by decide +kernel
theorem dL_house_7 : decode cL_house 7 = .ok (.putfield 13, 3) := by decide +kernel
theorem dL_house_10 : decode cL_house 10 = .ok (.goto 6, 3) := by decide +kernel
theorem dL_house_13 : decode cL_house 13 = .ok (.astore_n 3, 1) := by decide +kernel
theorem dL_house_14 : decode cL_house 14 = .ok (.iconst 1, 1) := by decide +kernel
theorem dL_house_15 : decode cL_house 15 = .ok (.ireturn, 1) := by decide +kernel
theorem dL_house_16 : decode cL_house 16 = .ok (.iconst 0, 1) := by decide +kernel
theorem dL_house_17 : decode cL_house 17 = .ok (.ireturn, 1) := by decide +kernel
abbrev vwCl : List vw_C := [(RJ0, TJ0, 4), (RJ4, TJ4, 4), (RJ6, TJ6, 1), (RJx4a65c, TJx4a65c, 3), (RX0, TX0, 8), (RX1, TX1, 8), (RX2, TX2, 2), (RX3, TX3, 9), (RX4, TX4, 2), (RX5, TX5, 7)]
