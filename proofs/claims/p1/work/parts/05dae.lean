theorem dX5_side_17 : decode cX5_side 17 = .ok (.goto 4, 3) := by decide +kernel
theorem dX5_side_21 : decode cX5_side 21 = .ok (.iconst 0, 1) := by decide +kernel
theorem dX5_side_22 : decode cX5_side 22 = .ok (.iconst 0, 1) := by decide +kernel
theorem dX5_side_23 : decode cX5_side 23 = .ok (.invokevirtual 127, 3) := by decide +kernel
theorem dX5_side_26 : decode cX5_side 26 = .ok (.ifCond .eq 5, 3) := by decide +kernel
theorem dX5_side_29 : decode cX5_side 29 = .ok (.iconst 0, 1) := by decide +kernel
theorem dX5_side_30 : decode cX5_side 30 = .ok (.ireturn, 1) := by decide +kernel
set_option maxRecDepth 20000 in
theorem ggX5_rules_Jx4a65c_size_8abf5 : GoodIn wsX5_rules wsJx4a65c_size_8abf5 := goodIn_r _ [7, 8, 16, 17, 18] (by decide +kernel) (by decide +kernel)
set_option maxRecDepth 20000 in
theorem gX5_rules_Jx4a65c_size_8abf5 : GoodIn wsX5_rules (wsV RX5 35 RJx4a65c yJx4a65c_size_8abf5 wsJx4a65c_size_8abf5) := goodIn_app (goodIn_of _ (by decide +kernel)) ggX5_rules_Jx4a65c_size_8abf5
theorem dX5_rules_0 : decode cX5_rules 0 = .ok (.aload_n 0, 1) := by decide +kernel
theorem dX5_rules_1 : decode cX5_rules 1 = .ok (.iconst 0, 1) := by decide +kernel
theorem dX5_rules_2 : decode cX5_rules 2 = .ok (.putfield 27, 3) := by decide +kernel
theorem dX5_rules_5 : decode cX5_rules 5 = .ok (.aload_n 0, 1) := by decide +kernel
theorem dX5_rules_6 : decode cX5_rules 6 = .ok (.getfield 20, 3) := by decide +kernel
theorem dX5_rules_9 : decode cX5_rules 9 = .ok (.invokevirtual 35, 3) := by decide +kernel
theorem dX5_rules_12 : decode cX5_rules 12 = .ok (.ireturn, 1) := by decide +kernel
set_option maxRecDepth 20000 in
theorem ggX5_ruleText_X5_isNoRule : GoodIn wsX5_ruleText wsX5_isNoRule := goodIn_r _ [5, 6, 7, 8, 9, 10, 11, 12, 13, 14, 4, 15, 253, 254, 255, 256, 257, 258, 259, 260, 261, 262] (by decide +kernel) (by decide +kernel)
set_option maxRecDepth 20000 in
theorem gX5_ruleText_X5_isNoRule : GoodIn wsX5_ruleText (wsV RX5 155 RX5 yX5_isNoRule wsX5_isNoRule) := goodIn_app (goodIn_of _ (by decide +kernel)) ggX5_ruleText_X5_isNoRule
set_option maxRecDepth 20000 in
theorem ggX5_ruleText_X5_fails : GoodIn wsX5_ruleText wsX5_fails := goodIn_r _ [19, 20, 253, 254, 255, 256, 257, 258, 259] (by decide +kernel) (by decide +kernel)
set_option maxRecDepth 20000 in
theorem gX5_ruleText_X5_fails : GoodIn wsX5_ruleText (wsV RX5 127 RX5 yX5_fails wsX5_fails) := goodIn_app (goodIn_of _ (by decide +kernel)) ggX5_ruleText_X5_fails
theorem dX5_ruleText_0 : decode cX5_ruleText 0 = .ok (.aload_n 0, 1) := by decide +kernel
theorem dX5_ruleText_1 : decode cX5_ruleText 1 = .ok (.aload_n 0, 1) := by decide +kernel
theorem dX5_ruleText_2 : decode cX5_ruleText 2 = .ok (.iload_n 1, 1) := by decide +kernel
theorem dX5_ruleText_3 : decode cX5_ruleText 3 = .ok (.invokevirtual 155, 3) := by decide +kernel
theorem dX5_ruleText_6 : decode cX5_ruleText 6 = .ok (.iconst 0, 1) := by decide +kernel
theorem dX5_ruleText_7 : decode cX5_ruleText 7 = .ok (.iconst 0, 1) := by decide +kernel
theorem dX5_ruleText_8 : decode cX5_ruleText 8 = .ok (.invokevirtual 127, 3) := by decide +kernel
theorem dX5_ruleText_11 : decode cX5_ruleText 11 = .ok (.ifCond .eq 8, 3) := by decide +kernel
theorem dX5_ruleText_14 : decode cX5_ruleText 14 = .ok (.ldc 9, 2) := by decide +kernel
theorem dX5_ruleText_16 : decode cX5_ruleText 16 = .ok (.goto 8, 3) := by decide +kernel
theorem dX5_ruleText_24 : decode cX5_ruleText 24 = .ok (.areturn, 1) := by decide +kernel
set_option maxRecDepth 20000 in
theorem ggX5_falls_X5_isNoRule : GoodIn wsX5_falls wsX5_isNoRule := goodIn_r _ [5, 6, 7, 8, 9, 10, 11, 12, 13, 14, 4, 15, 93, 94, 95, 96, 97, 98, 99, 100, 101, 102] (by decide +kernel) (by decide +kernel)
set_option maxRecDepth 20000 in
theorem gX5_falls_X5_isNoRule : GoodIn wsX5_falls (wsV RX5 155 RX5 yX5_isNoRule wsX5_isNoRule) := goodIn_app (goodIn_of _ (by decide +kernel)) ggX5_falls_X5_isNoRule
set_option maxRecDepth 20000 in
theorem ggX5_falls_X5_fails : GoodIn wsX5_falls wsX5_fails := goodIn_r _ [19, 20, 93, 94, 95, 96, 97, 98, 99] (by decide +kernel) (by decide +kernel)
set_option maxRecDepth 20000 in
theorem gX5_falls_X5_fails : GoodIn wsX5_falls (wsV RX5 127 RX5 yX5_fails wsX5_fails) := goodIn_app (goodIn_of _ (by decide +kernel)) ggX5_falls_X5_fails
theorem dX5_falls_0 : decode cX5_falls 0 = .ok (.aload_n 0, 1) := by decide +kernel
theorem dX5_falls_1 : decode cX5_falls 1 = .ok (.aload_n 0, 1) := by decide +kernel
theorem dX5_falls_2 : decode cX5_falls 2 = .ok (.iload_n 1, 1) := by decide +kernel
theorem dX5_falls_3 : decode cX5_falls 3 = .ok (.invokevirtual 155, 3) := by decide +kernel
theorem dX5_falls_6 : decode cX5_falls 6 = .ok (.iconst 0, 1) := by decide +kernel
theorem dX5_falls_7 : decode cX5_falls 7 = .ok (.iconst 0, 1) := by decide +kernel
theorem dX5_falls_8 : decode cX5_falls 8 = .ok (.invokevirtual 127, 3) := by decide +kernel
theorem dX5_falls_11 : decode cX5_falls 11 = .ok (.ifCond .ne 15, 3) := by decide +kernel
theorem dX5_falls_26 : decode cX5_falls 26 = .ok (.iconst 0, 1) := by decide +kernel
theorem dX5_falls_27 : decode cX5_falls 27 = .ok (.ireturn, 1) := by decide +kernel
set_option maxRecDepth 20000 in
theorem ggX5_areFalling_X5_areAllFalling : GoodIn wsX5_areFalling wsX5_areAllFalling := goodIn_r _ [6, 7, 8, 9, 10, 11, 12, 13, 14, 15, 16, 5, 17, 18, 19, 20, 21, 22, 23, 24, 25, 26, 27, 28, 29, 30, 31, 32, 33, 34, 35, 36, 37, 38, 39, 40, 41, 42, 43, 44, 45, 46, 47, 48, 49, 50, 51, 52, 53, 54, 55, 56, 57, 58, 59, 60, 61, 62, 63, 64, 65, 66, 67, 68, 69, 70, 71, 72, 73, 74, 75, 76, 77, 78, 79, 80, 81, 82, 83, 84, 85, 86, 87, 88, 89, 90, 91, 92, 93, 94, 95, 96, 97, 98, 99] (by decide +kernel) (by decide +kernel)
set_option maxRecDepth 20000 in
theorem gX5_areFalling_X5_areAllFalling : GoodIn wsX5_areFalling (wsV RX5 174 RX5 yX5_areAllFalling wsX5_areAllFalling) := goodIn_app (goodIn_of _ (by decide +kernel)) ggX5_areFalling_X5_areAllFalling
theorem dX5_areFalling_0 : decode cX5_areFalling 0 = .ok (.aload_n 0, 1) := by decide +kernel
theorem dX5_areFalling_1 : decode cX5_areFalling 1 = .ok (.iconst 0, 1) := by decide +kernel
theorem dX5_areFalling_2 : decode cX5_areFalling 2 = .ok (.putfield 27, 3) := by decide +kernel
theorem dX5_areFalling_5 : decode cX5_areFalling 5 = .ok (.aload_n 0, 1) := by decide +kernel
theorem dX5_areFalling_6 : decode cX5_areFalling 6 = .ok (.invokevirtual 174, 3) := by decide +kernel
theorem dX5_areFalling_9 : decode cX5_areFalling 9 = .ok (.ireturn, 1) := by decide +kernel
set_option maxRecDepth 20000 in
theorem ggX5_step_X5_isNo : GoodIn wsX5_step wsX5_isNo := goodIn_r _ [6, 7, 8, 5, 9] (by decide +kernel) (by decide +kernel)
set_option maxRecDepth 20000 in
theorem gX5_step_X5_isNo : GoodIn wsX5_step (va_wsS RX5 124 yX5_isNo wsX5_isNo) := goodIn_app (goodIn_of _ (by decide +kernel)) ggX5_step_X5_isNo
set_option maxRecDepth 20000 in
theorem ggX5_step_X5_isIn : GoodIn wsX5_step wsX5_isIn := goodIn_r _ [9] (by decide +kernel) (by decide +kernel)
set_option maxRecDepth 20000 in
theorem gX5_step_X5_isIn : GoodIn wsX5_step (va_wsS RX5 31 yX5_isIn wsX5_isIn) := goodIn_app (goodIn_of _ (by decide +kernel)) ggX5_step_X5_isIn
set_option maxRecDepth 20000 in
theorem ggX5_step_X5_fails : GoodIn wsX5_step wsX5_fails := goodIn_r _ [13, 14, 320, 321, 322, 323, 324, 325, 326] (by decide +kernel) (by decide +kernel)
set_option maxRecDepth 20000 in
theorem gX5_step_X5_fails : GoodIn wsX5_step (wsV RX5 127 RX5 yX5_fails wsX5_fails) := goodIn_app (goodIn_of _ (by decide +kernel)) ggX5_step_X5_fails
set_option maxRecDepth 20000 in
theorem ggX5_step_X5_chosen : GoodIn wsX5_step wsX5_chosen := goodIn_r _ [18, 19, 20, 21, 22, 23, 24, 25, 26, 27, 28, 29, 30, 31, 32, 33, 34, 35, 36, 37, 38, 39, 40, 41, 42, 43, 44, 45, 46, 47, 48, 49, 50, 51, 52, 53, 54, 55, 56, 57, 58, 5, 59, 60, 61, 62, 63, 64, 65, 66, 67, 68, 69, 70, 71, 72, 73, 74, 75, 76, 77, 78, 79, 80, 81, 82, 83, 84, 85, 86, 87, 88, 89, 90, 91, 92, 93, 320, 321, 322, 323, 324, 325, 326, 327, 328, 329, 330, 331, 332, 333] (by decide +kernel) (by decide +kernel)
set_option maxRecDepth 20000 in
theorem gX5_step_X5_chosen : GoodIn wsX5_step (wsV RX5 91 RX5 yX5_chosen wsX5_chosen) := goodIn_app (goodIn_of _ (by decide +kernel)) ggX5_step_X5_chosen
theorem dX5_step_0 : decode cX5_step 0 = .ok (.aload_n 0, 1) := by decide +kernel
theorem dX5_step_1 : decode cX5_step 1 = .ok (.iload_n 1, 1) := by decide +kernel
theorem dX5_step_2 : decode cX5_step 2 = .ok (.invokestatic 124, 3) := by decide +kernel
theorem dX5_step_5 : decode cX5_step 5 = .ok (.iload_n 2, 1) := by decide +kernel
theorem dX5_step_6 : decode cX5_step 6 = .ok (.iconst 0, 1) := by decide +kernel
theorem dX5_step_7 : decode cX5_step 7 = .ok (.iconst 2, 1) := by decide +kernel
theorem dX5_step_8 : decode cX5_step 8 = .ok (.invokestatic 31, 3) := by decide +kernel
theorem dX5_step_11 : decode cX5_step 11 = .ok (.ifCond .ne 7, 3) := by decide +kernel
theorem dX5_step_14 : decode cX5_step 14 = .ok (.iconst 1, 1) := by decide +kernel
theorem dX5_step_15 : decode cX5_step 15 = .ok (.goto 4, 3) := by decide +kernel
theorem dX5_step_18 : decode cX5_step 18 = .ok (.iconst 0, 1) := by decide +kernel
theorem dX5_step_19 : decode cX5_step 19 = .ok (.iconst 0, 1) := by decide +kernel
theorem dX5_step_20 : decode cX5_step 20 = .ok (.invokevirtual 127, 3) := by decide +kernel
theorem dX5_step_23 : decode cX5_step 23 = .ok (.ifCond .eq 5, 3) := by decide +kernel
theorem dX5_step_26 : decode cX5_step 26 = .ok (.iconst 0, 1) := by decide +kernel
theorem dX5_step_27 : decode cX5_step 27 = .ok (.ireturn, 1) := by decide +kernel
theorem dX5_step_28 : decode cX5_step 28 = .ok (.aload_n 0, 1) := by decide +kernel
theorem dX5_step_29 : decode cX5_step 29 = .ok (.aload_n 0, 1) := by decide +kernel
theorem dX5_step_30 : decode cX5_step 30 = .ok (.getfield 11, 3) := by decide +kernel
theorem dX5_step_33 : decode cX5_step 33 = .ok (.iload_n 1, 1) := by decide +kernel
theorem dX5_step_34 : decode cX5_step 34 = .ok (.aaload, 1) := by decide +kernel
theorem dX5_step_35 : decode cX5_step 35 = .ok (.iload_n 2, 1) := by decide +kernel
theorem dX5_step_36 : decode cX5_step 36 = .ok (.invokevirtual 91, 3) := by decide +kernel
theorem dX5_step_39 : decode cX5_step 39 = .ok (.astore_n 3, 1) := by decide +kernel
theorem dX5_step_40 : decode cX5_step 40 = .ok (.aload_n 3, 1) := by decide +kernel
theorem dX5_step_41 : decode cX5_step 41 = .ok (.ifnonnull 5, 3) := by decide +kernel
theorem dX5_step_44 : decode cX5_step 44 = .ok (.iconst (-1), 1) := by decide +kernel
theorem dX5_step_45 : decode cX5_step 45 = .ok (.ireturn, 1) := by decide +kernel
set_option maxRecDepth 20000 in
theorem ggX5_run_X5_isNo : GoodIn wsX5_run wsX5_isNo := goodIn_r _ [7, 8, 9, 6, 10] (by decide +kernel) (by decide +kernel)
set_option maxRecDepth 20000 in
theorem gX5_run_X5_isNo : GoodIn wsX5_run (va_wsS RX5 124 yX5_isNo wsX5_isNo) := goodIn_app (goodIn_of _ (by decide +kernel)) ggX5_run_X5_isNo
set_option maxRecDepth 20000 in
theorem ggX5_run_X5_isIn : GoodIn wsX5_run wsX5_isIn := goodIn_r _ [10] (by decide +kernel) (by decide +kernel)
set_option maxRecDepth 20000 in
theorem gX5_run_X5_isIn : GoodIn wsX5_run (va_wsS RX5 31 yX5_isIn wsX5_isIn) := goodIn_app (goodIn_of _ (by decide +kernel)) ggX5_run_X5_isIn
set_option maxRecDepth 20000 in
theorem ggX5_run_X5_fails : GoodIn wsX5_run wsX5_fails := goodIn_r _ [14, 15, 319, 320, 321, 322, 323, 324, 325] (by decide +kernel) (by decide +kernel)
set_option maxRecDepth 20000 in
theorem gX5_run_X5_fails : GoodIn wsX5_run (wsV RX5 127 RX5 yX5_fails wsX5_fails) := goodIn_app (goodIn_of _ (by decide +kernel)) ggX5_run_X5_fails
set_option maxRecDepth 20000 in
theorem ggX5_run_X5_rewritten : GoodIn wsX5_run wsX5_rewritten := goodIn_r _ [19, 20, 21, 22, 6, 23, 24, 25, 1, 26, 27, 28, 29, 30, 31, 32, 33, 34, 35, 36, 37, 38, 39, 40, 41, 42, 43, 44, 45, 46, 47, 48, 49, 50, 51, 52, 53, 54, 55, 56, 57, 58, 59, 60, 61, 62, 63, 64, 65, 66, 67, 68, 69, 70, 71, 72, 73, 74, 75, 76, 77, 78, 79, 80, 81, 82, 83, 84, 85, 86, 87, 88, 89, 90, 91, 92, 93, 94, 95, 96, 97, 98, 99, 100, 101, 102, 103, 104, 105, 106, 107, 108, 109, 110, 111, 112, 113, 114, 115, 116, 117, 118, 119, 120, 121, 122, 123, 124, 125, 126, 127, 128, 129, 130, 131, 132, 133, 134, 135, 136, 137, 138, 139, 140, 141, 142, 143, 144, 145, 146, 147, 148, 149, 150, 151, 152, 153, 154, 155, 156, 157, 158, 159, 160, 161, 162, 163, 164, 165, 166, 167, 168, 169, 170, 171, 172, 173, 174, 175, 176, 177, 178, 179, 180, 181, 182, 183, 184, 185, 186, 187, 188, 189, 190, 191, 192, 193, 194, 195, 196, 197, 198, 199, 200, 201, 202, 203, 204, 205, 206, 207, 208, 209, 210, 211, 212, 213, 214, 215, 216, 217, 218, 219, 220, 221, 222, 223, 224, 225, 226, 227, 228, 229, 230, 231, 232, 233, 234, 235, 236, 237, 238, 239, 240, 241, 242, 243, 244, 245, 246, 247, 248, 249, 250, 251, 252, 253, 254, 255, 256, 257, 258, 259, 260, 261, 262, 263, 264, 265, 266, 267, 268, 269, 270, 271, 272, 273, 274, 275, 276, 277, 278, 279, 280, 281, 282, 283, 284, 285, 286, 287, 288, 289, 290, 291, 292, 293, 294, 295, 296, 297, 298, 299, 300, 301, 302, 303, 304, 305, 306, 307, 308, 309, 310, 311, 312, 313, 314, 315, 316, 317, 318, 319, 320, 321, 322, 323, 324, 325, 326, 327, 328, 329, 330, 331, 332, 333, 334, 335, 336] (by decide +kernel) (by decide +kernel)
set_option maxRecDepth 20000 in
theorem gX5_run_X5_rewritten : GoodIn wsX5_run (wsV RX5 99 RX5 yX5_rewritten wsX5_rewritten) := goodIn_app (goodIn_of _ (by decide +kernel)) ggX5_run_X5_rewritten
theorem dX5_run_0 : decode cX5_run 0 = .ok (.aload_n 0, 1) := by decide +kernel
theorem dX5_run_1 : decode cX5_run 1 = .ok (.iload_n 1, 1) := by decide +kernel
theorem dX5_run_2 : decode cX5_run 2 = .ok (.invokestatic 124, 3) := by decide +kernel
theorem dX5_run_5 : decode cX5_run 5 = .ok (.iload_n 2, 1) := by decide +kernel
theorem dX5_run_6 : decode cX5_run 6 = .ok (.iconst 0, 1) := by decide +kernel
theorem dX5_run_7 : decode cX5_run 7 = .ok (.iconst 2, 1) := by decide +kernel
theorem dX5_run_8 : decode cX5_run 8 = .ok (.invokestatic 31, 3) := by decide +kernel
theorem dX5_run_11 : decode cX5_run 11 = .ok (.ifCond .eq 13, 3) := by decide +kernel
theorem dX5_run_14 : decode cX5_run 14 = .ok (.iload_n 3, 1) := by decide +kernel
theorem dX5_run_15 : decode cX5_run 15 = .ok (.iconst 1, 1) := by decide +kernel
theorem dX5_run_16 : decode cX5_run 16 = .ok (.bipush 40, 2) := by decide +kernel
theorem dX5_run_18 : decode cX5_run 18 = .ok (.invokestatic 31, 3) := by decide +kernel
theorem dX5_run_21 : decode cX5_run 21 = .ok (.ifCond .ne 7, 3) := by decide +kernel
theorem dX5_run_24 : decode cX5_run 24 = .ok (.iconst 1, 1) := by decide +kernel
theorem dX5_run_25 : decode cX5_run 25 = .ok (.goto 4, 3) := by decide +kernel
theorem dX5_run_28 : decode cX5_run 28 = .ok (.iconst 0, 1) := by decide +kernel
theorem dX5_run_29 : decode cX5_run 29 = .ok (.iconst 0, 1) := by decide +kernel
theorem dX5_run_30 : decode cX5_run 30 = .ok (.invokevirtual 127, 3) := by decide +kernel
theorem dX5_run_33 : decode cX5_run 33 = .ok (.ifCond .eq 5, 3) := by decide +kernel
theorem dX5_run_36 : decode cX5_run 36 = .ok (.iconst 0, 1) := by decide +kernel
theorem dX5_run_37 : decode cX5_run 37 = .ok (.ireturn, 1) := by decide +kernel
theorem dX5_run_38 : decode cX5_run 38 = .ok (.iconst 1, 1) := by decide +kernel
theorem dX5_run_39 : decode cX5_run 39 = .ok (.newarray .int, 2) := by decide +kernel
theorem dX5_run_41 : decode cX5_run 41 = .ok (.dup, 1) := by decide +kernel
theorem dX5_run_42 : decode cX5_run 42 = .ok (.iconst 0, 1) := by decide +kernel
theorem dX5_run_43 : decode cX5_run 43 = .ok (.iconst 0, 1) := by decide +kernel
theorem dX5_run_44 : decode cX5_run 44 = .ok (.iastore, 1) := by decide +kernel
theorem dX5_run_45 : decode cX5_run 45 = .ok (.astore 4, 2) := by decide +kernel
theorem dX5_run_47 : decode cX5_run 47 = .ok (.aload_n 0, 1) := by decide +kernel
theorem dX5_run_48 : decode cX5_run 48 = .ok (.getfield 11, 3) := by decide +kernel
theorem dX5_run_51 : decode cX5_run 51 = .ok (.iload_n 1, 1) := by decide +kernel
theorem dX5_run_52 : decode cX5_run 52 = .ok (.aload_n 0, 1) := by decide +kernel
theorem dX5_run_53 : decode cX5_run 53 = .ok (.aload_n 0, 1) := by decide +kernel
theorem dX5_run_54 : decode cX5_run 54 = .ok (.getfield 11, 3) := by decide +kernel
theorem dX5_run_57 : decode cX5_run 57 = .ok (.iload_n 1, 1) := by decide +kernel
theorem dX5_run_58 : decode cX5_run 58 = .ok (.aaload, 1) := by decide +kernel
theorem dX5_run_59 : decode cX5_run 59 = .ok (.iload_n 2, 1) := by decide +kernel
theorem dX5_run_60 : decode cX5_run 60 = .ok (.iload_n 3, 1) := by decide +kernel
theorem dX5_run_61 : decode cX5_run 61 = .ok (.aload 4, 2) := by decide +kernel
theorem dX5_run_63 : decode cX5_run 63 = .ok (.invokevirtual 99, 3) := by decide +kernel
theorem dX5_run_66 : decode cX5_run 66 = .ok (.aastore, 1) := by decide +kernel
theorem dX5_run_67 : decode cX5_run 67 = .ok (.aload_n 0, 1) := by decide +kernel
theorem dX5_run_68 : decode cX5_run 68 = .ok (.dup, 1) := by decide +kernel
theorem dX5_run_69 : decode cX5_run 69 = .ok (.getfield 177, 3) := by decide +kernel
theorem dX5_run_72 : decode cX5_run 72 = .ok (.aload 4, 2) := by decide +kernel
theorem dX5_run_74 : decode cX5_run 74 = .ok (.iconst 0, 1) := by decide +kernel
theorem dX5_run_75 : decode cX5_run 75 = .ok (.iaload, 1) := by decide +kernel
theorem dX5_run_76 : decode cX5_run 76 = .ok (.iadd, 1) := by decide +kernel
theorem dX5_run_77 : decode cX5_run 77 = .ok (.putfield 177, 3) := by decide +kernel
theorem dX5_run_80 : decode cX5_run 80 = .ok (.aload 4, 2) := by decide +kernel
theorem dX5_run_82 : decode cX5_run 82 = .ok (.iconst 0, 1) := by decide +kernel
theorem dX5_run_83 : decode cX5_run 83 = .ok (.iaload, 1) := by decide +kernel
theorem dX5_run_84 : decode cX5_run 84 = .ok (.ireturn, 1) := by decide +kernel
set_option maxRecDepth 20000 in
theorem ggX5_pick_X5_isNo : GoodIn wsX5_pick wsX5_isNo := goodIn_r _ [7, 8, 9, 6, 10] (by decide +kernel) (by decide +kernel)
set_option maxRecDepth 20000 in
theorem gX5_pick_X5_isNo : GoodIn wsX5_pick (va_wsS RX5 124 yX5_isNo wsX5_isNo) := goodIn_app (goodIn_of _ (by decide +kernel)) ggX5_pick_X5_isNo
set_option maxRecDepth 20000 in
theorem ggX5_pick_X5_fails : GoodIn wsX5_pick wsX5_fails := goodIn_r _ [14, 15, 370, 371, 372, 373, 374, 375, 376] (by decide +kernel) (by decide +kernel)
set_option maxRecDepth 20000 in
theorem gX5_pick_X5_fails : GoodIn wsX5_pick (wsV RX5 127 RX5 yX5_fails wsX5_fails) := goodIn_app (goodIn_of _ (by decide +kernel)) ggX5_pick_X5_fails
set_option maxRecDepth 20000 in
theorem ggX5_pick_X5_spotsOf : GoodIn wsX5_pick wsX5_spotsOf := goodIn_r _ [19, 20, 21, 22, 23, 24, 25, 26, 27, 28, 29, 30, 31, 32, 33, 34, 35, 36, 37, 38, 39, 40, 41, 42, 43, 44, 45, 46, 47, 48, 49, 50, 51, 52, 53, 54, 55, 56, 57, 58, 59, 60, 61, 62, 63, 64, 65, 66, 67, 68, 69, 70, 71, 72, 73, 74, 75, 76, 77, 6, 78, 79, 80, 81, 82, 83, 84, 85, 86, 87, 88, 89, 90, 91, 92, 93, 94, 95, 96, 97, 98, 99, 100, 101, 102, 103, 104, 105, 106, 107, 108, 109, 110, 111, 112, 113, 114, 115, 116, 117, 118, 119, 120, 121, 122, 123, 124, 125, 126, 127, 128, 129, 130, 131, 132, 133, 134, 135, 136, 137, 138, 139, 140, 141, 142, 143, 144, 145, 146, 147, 148, 149, 150, 151, 152, 153, 154, 155, 156, 157, 158, 159, 160, 161, 162, 163, 164, 377, 378, 379, 370, 371, 372, 373, 374, 375, 376, 380, 381, 382, 383] (by decide +kernel) (by decide +kernel)
set_option maxRecDepth 20000 in
theorem gX5_pick_X5_spotsOf : GoodIn wsX5_pick (wsV RX5 180 RX5 yX5_spotsOf wsX5_spotsOf) := goodIn_app (goodIn_of _ (by decide +kernel)) ggX5_pick_X5_spotsOf
set_option maxRecDepth 20000 in
theorem ggX5_pick_Jx4a65c_size_8abf5 : GoodIn wsX5_pick wsJx4a65c_size_8abf5 := goodIn_r _ [58, 59, 377, 378, 379] (by decide +kernel) (by decide +kernel)
set_option maxRecDepth 20000 in
theorem gX5_pick_Jx4a65c_size_8abf5 : GoodIn wsX5_pick (wsV RX5 35 RJx4a65c yJx4a65c_size_8abf5 wsJx4a65c_size_8abf5) := goodIn_app (goodIn_of _ (by decide +kernel)) ggX5_pick_Jx4a65c_size_8abf5
set_option maxRecDepth 20000 in
theorem ggX5_pick_X5_isIn : GoodIn wsX5_pick wsX5_isIn := goodIn_r _ [10] (by decide +kernel) (by decide +kernel)
set_option maxRecDepth 20000 in
theorem gX5_pick_X5_isIn : GoodIn wsX5_pick (va_wsS RX5 31 yX5_isIn wsX5_isIn) := goodIn_app (goodIn_of _ (by decide +kernel)) ggX5_pick_X5_isIn
set_option maxRecDepth 20000 in
theorem ggX5_pick_X5_refuse : GoodIn wsX5_pick wsX5_refuse := goodIn_r _ [368, 369, 370, 371, 372, 373, 374, 375, 376] (by decide +kernel) (by decide +kernel)
set_option maxRecDepth 20000 in
theorem gX5_pick_X5_refuse : GoodIn wsX5_pick (wsV RX5 131 RX5 yX5_refuse wsX5_refuse) := goodIn_app (goodIn_of _ (by decide +kernel)) ggX5_pick_X5_refuse
theorem dX5_pick_0 : decode cX5_pick 0 = .ok (.aload_n 0, 1) := by decide +kernel
theorem dX5_pick_1 : decode cX5_pick 1 = .ok (.iload_n 1, 1) := by decide +kernel
theorem dX5_pick_2 : decode cX5_pick 2 = .ok (.invokestatic 124, 3) := by decide +kernel
theorem dX5_pick_5 : decode cX5_pick 5 = .ok (.iconst 0, 1) := by decide +kernel
theorem dX5_pick_6 : decode cX5_pick 6 = .ok (.iconst 0, 1) := by decide +kernel
theorem dX5_pick_7 : decode cX5_pick 7 = .ok (.invokevirtual 127, 3) := by decide +kernel
theorem dX5_pick_10 : decode cX5_pick 10 = .ok (.ifCond .eq 5, 3) := by decide +kernel
theorem dX5_pick_13 : decode cX5_pick 13 = .ok (.iconst 0, 1) := by decide +kernel
theorem dX5_pick_14 : decode cX5_pick 14 = .ok (.ireturn, 1) := by decide +kernel
theorem dX5_pick_15 : decode cX5_pick 15 = .ok (.aload_n 0, 1) := by decide +kernel
theorem dX5_pick_16 : decode cX5_pick 16 = .ok (.aload_n 0, 1) := by decide +kernel
theorem dX5_pick_17 : decode cX5_pick 17 = .ok (.getfield 11, 3) := by decide +kernel
theorem dX5_pick_20 : decode cX5_pick 20 = .ok (.iload_n 1, 1) := by decide +kernel
theorem dX5_pick_21 : decode cX5_pick 21 = .ok (.aaload, 1) := by decide +kernel
theorem dX5_pick_22 : decode cX5_pick 22 = .ok (.invokevirtual 180, 3) := by decide +kernel
theorem dX5_pick_25 : decode cX5_pick 25 = .ok (.astore_n 3, 1) := by decide +kernel
theorem dX5_pick_26 : decode cX5_pick 26 = .ok (.iload_n 2, 1) := by decide +kernel
theorem dX5_pick_27 : decode cX5_pick 27 = .ok (.iconst 0, 1) := by decide +kernel
theorem dX5_pick_28 : decode cX5_pick 28 = .ok (.aload_n 3, 1) := by decide +kernel
theorem dX5_pick_29 : decode cX5_pick 29 = .ok (.invokevirtual 35, 3) := by decide +kernel
theorem dX5_pick_32 : decode cX5_pick 32 = .ok (.iconst 1, 1) := by decide +kernel
theorem dX5_pick_33 : decode cX5_pick 33 = .ok (.isub, 1) := by decide +kernel
theorem dX5_pick_34 : decode cX5_pick 34 = .ok (.invokestatic 31, 3) := by decide +kernel
theorem dX5_pick_37 : decode cX5_pick 37 = .ok (.ifCond .eq 29, 3) := by decide +kernel
theorem dX5_pick_66 : decode cX5_pick 66 = .ok (.aload_n 0, 1) := by decide +kernel
theorem dX5_pick_67 : decode cX5_pick 67 = .ok (.invokevirtual 131, 3) := by decide +kernel
theorem dX5_pick_70 : decode cX5_pick 70 = .ok (.ireturn, 1) := by decide +kernel
set_option maxRecDepth 20000 in
theorem ggX5_unwind_X5_isNo : GoodIn wsX5_unwind wsX5_isNo := goodIn_r _ [9, 10, 11, 8, 12] (by decide +kernel) (by decide +kernel)
set_option maxRecDepth 20000 in
theorem gX5_unwind_X5_isNo : GoodIn wsX5_unwind (va_wsS RX5 124 yX5_isNo wsX5_isNo) := goodIn_app (goodIn_of _ (by decide +kernel)) ggX5_unwind_X5_isNo
set_option maxRecDepth 20000 in
theorem ggX5_unwind_X5_isNoRule : GoodIn wsX5_unwind wsX5_isNoRule := goodIn_r _ [16, 5, 17, 18, 19, 20, 21, 22, 10, 11, 8, 12, 388, 389, 390, 391, 392, 393, 394, 395, 396, 397] (by decide +kernel) (by decide +kernel)
set_option maxRecDepth 20000 in
theorem gX5_unwind_X5_isNoRule : GoodIn wsX5_unwind (wsV RX5 155 RX5 yX5_isNoRule wsX5_isNoRule) := goodIn_app (goodIn_of _ (by decide +kernel)) ggX5_unwind_X5_isNoRule
set_option maxRecDepth 20000 in
theorem ggX5_unwind_X5_fails : GoodIn wsX5_unwind wsX5_fails := goodIn_r _ [26, 27, 388, 389, 390, 391, 392, 393, 394] (by decide +kernel) (by decide +kernel)
set_option maxRecDepth 20000 in
theorem gX5_unwind_X5_fails : GoodIn wsX5_unwind (wsV RX5 127 RX5 yX5_fails wsX5_fails) := goodIn_app (goodIn_of _ (by decide +kernel)) ggX5_unwind_X5_fails
theorem dX5_unwind_0 : decode cX5_unwind 0 = .ok (.aload_n 0, 1) := by decide +kernel
theorem dX5_unwind_1 : decode cX5_unwind 1 = .ok (.iload_n 1, 1) := by decide +kernel
theorem dX5_unwind_2 : decode cX5_unwind 2 = .ok (.invokestatic 124, 3) := by decide +kernel
theorem dX5_unwind_5 : decode cX5_unwind 5 = .ok (.ifCond .ne 11, 3) := by decide +kernel
theorem dX5_unwind_8 : decode cX5_unwind 8 = .ok (.aload_n 0, 1) := by decide +kernel
theorem dX5_unwind_9 : decode cX5_unwind 9 = .ok (.iload_n 2, 1) := by decide +kernel
theorem dX5_unwind_10 : decode cX5_unwind 10 = .ok (.invokevirtual 155, 3) := by decide +kernel
theorem dX5_unwind_13 : decode cX5_unwind 13 = .ok (.ifCond .eq 7, 3) := by decide +kernel
theorem dX5_unwind_16 : decode cX5_unwind 16 = .ok (.iconst 1, 1) := by decide +kernel
theorem dX5_unwind_17 : decode cX5_unwind 17 = .ok (.goto 4, 3) := by decide +kernel
theorem dX5_unwind_21 : decode cX5_unwind 21 = .ok (.iconst 0, 1) := by decide +kernel
theorem dX5_unwind_22 : decode cX5_unwind 22 = .ok (.iconst 0, 1) := by decide +kernel
theorem dX5_unwind_23 : decode cX5_unwind 23 = .ok (.invokevirtual 127, 3) := by decide +kernel
theorem dX5_unwind_26 : decode cX5_unwind 26 = .ok (.ifCond .eq 5, 3) := by decide +kernel
theorem dX5_unwind_29 : decode cX5_unwind 29 = .ok (.iconst 0, 1) := by decide +kernel
theorem dX5_unwind_30 : decode cX5_unwind 30 = .ok (.ireturn, 1) := by decide +kernel
set_option maxRecDepth 20000 in
theorem ggX5_spots_X5_isNo : GoodIn wsX5_spots wsX5_isNo := goodIn_r _ [5, 6, 7, 4, 8] (by decide +kernel) (by decide +kernel)
set_option maxRecDepth 20000 in
theorem gX5_spots_X5_isNo : GoodIn wsX5_spots (va_wsS RX5 124 yX5_isNo wsX5_isNo) := goodIn_app (goodIn_of _ (by decide +kernel)) ggX5_spots_X5_isNo
set_option maxRecDepth 20000 in
theorem ggX5_spots_X5_fails : GoodIn wsX5_spots wsX5_fails := goodIn_r _ [12, 13, 163, 164, 165, 166, 167, 168, 169] (by decide +kernel) (by decide +kernel)
set_option maxRecDepth 20000 in
theorem gX5_spots_X5_fails : GoodIn wsX5_spots (wsV RX5 127 RX5 yX5_fails wsX5_fails) := goodIn_app (goodIn_of _ (by decide +kernel)) ggX5_spots_X5_fails
set_option maxRecDepth 20000 in
theorem ggX5_spots_X5_spotsOf : GoodIn wsX5_spots wsX5_spotsOf := goodIn_r _ [17, 18, 19, 20, 21, 22, 23, 24, 25, 26, 27, 28, 29, 30, 31, 32, 33, 34, 35, 36, 37, 38, 39, 40, 41, 42, 43, 44, 45, 46, 47, 48, 49, 50, 51, 52, 53, 54, 55, 56, 57, 58, 59, 60, 61, 62, 63, 64, 65, 66, 67, 68, 69, 70, 71, 72, 73, 74, 75, 4, 76, 77, 78, 79, 80, 81, 82, 83, 84, 85, 86, 87, 88, 89, 90, 91, 92, 93, 94, 95, 96, 97, 98, 99, 100, 101, 102, 103, 104, 105, 106, 107, 108, 109, 110, 111, 112, 113, 114, 115, 116, 117, 118, 119, 120, 121, 122, 123, 124, 125, 126, 127, 128, 129, 130, 131, 132, 133, 134, 135, 136, 137, 138, 139, 140, 141, 142, 143, 144, 145, 146, 147, 148, 149, 150, 151, 152, 153, 154, 155, 156, 157, 158, 159, 160, 161, 162, 170, 171, 172, 163, 164, 165, 166, 167, 168, 169, 173, 174, 175, 176] (by decide +kernel) (by decide +kernel)
set_option maxRecDepth 20000 in
theorem gX5_spots_X5_spotsOf : GoodIn wsX5_spots (wsV RX5 180 RX5 yX5_spotsOf wsX5_spotsOf) := goodIn_app (goodIn_of _ (by decide +kernel)) ggX5_spots_X5_spotsOf
set_option maxRecDepth 20000 in
theorem ggX5_spots_Jx4a65c_size_8abf5 : GoodIn wsX5_spots wsJx4a65c_size_8abf5 := goodIn_r _ [56, 57, 170, 171, 172] (by decide +kernel) (by decide +kernel)
set_option maxRecDepth 20000 in
theorem gX5_spots_Jx4a65c_size_8abf5 : GoodIn wsX5_spots (wsV RX5 35 RJx4a65c yJx4a65c_size_8abf5 wsJx4a65c_size_8abf5) := goodIn_app (goodIn_of _ (by decide +kernel)) ggX5_spots_Jx4a65c_size_8abf5
theorem dX5_spots_0 : decode cX5_spots 0 = .ok (.aload_n 0, 1) := by decide +kernel
theorem dX5_spots_1 : decode cX5_spots 1 = .ok (.iload_n 1, 1) := by decide +kernel
theorem dX5_spots_2 : decode cX5_spots 2 = .ok (.invokestatic 124, 3) := by decide +kernel
theorem dX5_spots_5 : decode cX5_spots 5 = .ok (.iconst 0, 1) := by decide +kernel
theorem dX5_spots_6 : decode cX5_spots 6 = .ok (.iconst 0, 1) := by decide +kernel
theorem dX5_spots_7 : decode cX5_spots 7 = .ok (.invokevirtual 127, 3) := by decide +kernel
theorem dX5_spots_10 : decode cX5_spots 10 = .ok (.ifCond .eq 7, 3) := by decide +kernel
theorem dX5_spots_13 : decode cX5_spots 13 = .ok (.iconst 0, 1) := by decide +kernel
theorem dX5_spots_14 : decode cX5_spots 14 = .ok (.goto 16, 3) := by decide +kernel
theorem dX5_spots_17 : decode cX5_spots 17 = .ok (.aload_n 0, 1) := by decide +kernel
theorem dX5_spots_18 : decode cX5_spots 18 = .ok (.aload_n 0, 1) := by decide +kernel
theorem dX5_spots_19 : decode cX5_spots 19 = .ok (.getfield 11, 3) := by decide +kernel
theorem dX5_spots_22 : decode cX5_spots 22 = .ok (.iload_n 1, 1) := by decide +kernel
theorem dX5_spots_23 : decode cX5_spots 23 = .ok (.aaload, 1) := by decide +kernel
theorem dX5_spots_24 : decode cX5_spots 24 = .ok (.invokevirtual 180, 3) := by decide +kernel
theorem dX5_spots_27 : decode cX5_spots 27 = .ok (.invokevirtual 35, 3) := by decide +kernel
theorem dX5_spots_30 : decode cX5_spots 30 = .ok (.ireturn, 1) := by decide +kernel
set_option maxRecDepth 20000 in
theorem ggX5_spot_X5_isNo : GoodIn wsX5_spot wsX5_isNo := goodIn_r _ [9, 10, 11, 8, 12] (by decide +kernel) (by decide +kernel)
set_option maxRecDepth 20000 in
theorem gX5_spot_X5_isNo : GoodIn wsX5_spot (va_wsS RX5 124 yX5_isNo wsX5_isNo) := goodIn_app (goodIn_of _ (by decide +kernel)) ggX5_spot_X5_isNo
set_option maxRecDepth 20000 in
theorem ggX5_spot_X5_fails : GoodIn wsX5_spot wsX5_fails := goodIn_r _ [16, 17, 389, 390, 391, 392, 393, 394, 395] (by decide +kernel) (by decide +kernel)
set_option maxRecDepth 20000 in
theorem gX5_spot_X5_fails : GoodIn wsX5_spot (wsV RX5 127 RX5 yX5_fails wsX5_fails) := goodIn_app (goodIn_of _ (by decide +kernel)) ggX5_spot_X5_fails
set_option maxRecDepth 20000 in
theorem ggX5_spot_X5_spotsOf : GoodIn wsX5_spot wsX5_spotsOf := goodIn_r _ [21, 22, 23, 24, 25, 26, 27, 28, 29, 30, 31, 32, 33, 34, 35, 36, 37, 38, 39, 40, 41, 42, 43, 44, 45, 46, 47, 48, 49, 50, 51, 52, 53, 54, 55, 56, 57, 58, 59, 60, 61, 62, 63, 64, 65, 66, 67, 68, 69, 70, 71, 72, 73, 74, 75, 76, 77, 78, 79, 8, 80, 81, 82, 83, 84, 85, 86, 87, 88, 89, 90, 91, 92, 93, 94, 95, 96, 97, 98, 99, 100, 101, 102, 103, 104, 105, 106, 107, 108, 109, 110, 111, 112, 113, 114, 115, 116, 117, 118, 119, 120, 121, 122, 123, 124, 125, 126, 127, 128, 129, 130, 131, 132, 133, 134, 135, 136, 137, 138, 139, 140, 141, 142, 143, 144, 145, 146, 147, 148, 149, 150, 151, 152, 153, 154, 155, 156, 157, 158, 159, 160, 161, 162, 163, 164, 165, 166, 400, 401, 402, 389, 390, 391, 392, 393, 394, 395, 403, 404, 405, 406] (by decide +kernel) (by decide +kernel)
set_option maxRecDepth 20000 in
theorem gX5_spot_X5_spotsOf : GoodIn wsX5_spot (wsV RX5 180 RX5 yX5_spotsOf wsX5_spotsOf) := goodIn_app (goodIn_of _ (by decide +kernel)) ggX5_spot_X5_spotsOf
set_option maxRecDepth 20000 in
theorem ggX5_spot_Jx4a65c_size_8abf5 : GoodIn wsX5_spot wsJx4a65c_size_8abf5 := goodIn_r _ [60, 61, 400, 401, 402] (by decide +kernel) (by decide +kernel)
set_option maxRecDepth 20000 in
theorem gX5_spot_Jx4a65c_size_8abf5 : GoodIn wsX5_spot (wsV RX5 35 RJx4a65c yJx4a65c_size_8abf5 wsJx4a65c_size_8abf5) := goodIn_app (goodIn_of _ (by decide +kernel)) ggX5_spot_Jx4a65c_size_8abf5
set_option maxRecDepth 20000 in
theorem ggX5_spot_X5_isIn : GoodIn wsX5_spot wsX5_isIn := goodIn_r _ [12] (by decide +kernel) (by decide +kernel)
set_option maxRecDepth 20000 in
theorem gX5_spot_X5_isIn : GoodIn wsX5_spot (va_wsS RX5 31 yX5_isIn wsX5_isIn) := goodIn_app (goodIn_of _ (by decide +kernel)) ggX5_spot_X5_isIn
theorem dX5_spot_0 : decode cX5_spot 0 = .ok (.aload_n 0, 1) := by decide +kernel
theorem dX5_spot_1 : decode cX5_spot 1 = .ok (.iload_n 1, 1) := by decide +kernel
theorem dX5_spot_2 : decode cX5_spot 2 = .ok (.invokestatic 124, 3) := by decide +kernel
theorem dX5_spot_5 : decode cX5_spot 5 = .ok (.iconst 0, 1) := by decide +kernel
theorem dX5_spot_6 : decode cX5_spot 6 = .ok (.iconst 0, 1) := by decide +kernel
theorem dX5_spot_7 : decode cX5_spot 7 = .ok (.invokevirtual 127, 3) := by decide +kernel
theorem dX5_spot_10 : decode cX5_spot 10 = .ok (.ifCond .eq 6, 3) := by decide +kernel
theorem dX5_spot_13 : decode cX5_spot 13 = .ok (.ldc 9, 2) := by decide +kernel
theorem dX5_spot_15 : decode cX5_spot 15 = .ok (.areturn, 1) := by decide +kernel
theorem dX5_spot_16 : decode cX5_spot 16 = .ok (.aload_n 0, 1) := by decide +kernel
theorem dX5_spot_17 : decode cX5_spot 17 = .ok (.aload_n 0, 1) := by decide +kernel
theorem dX5_spot_18 : decode cX5_spot 18 = .ok (.getfield 11, 3) := by decide +kernel
theorem dX5_spot_21 : decode cX5_spot 21 = .ok (.iload_n 1, 1) := by decide +kernel
theorem dX5_spot_22 : decode cX5_spot 22 = .ok (.aaload, 1) := by decide +kernel
theorem dX5_spot_23 : decode cX5_spot 23 = .ok (.invokevirtual 180, 3) := by decide +kernel
theorem dX5_spot_26 : decode cX5_spot 26 = .ok (.astore_n 3, 1) := by decide +kernel
theorem dX5_spot_27 : decode cX5_spot 27 = .ok (.iload_n 2, 1) := by decide +kernel
theorem dX5_spot_28 : decode cX5_spot 28 = .ok (.iconst 0, 1) := by decide +kernel
theorem dX5_spot_29 : decode cX5_spot 29 = .ok (.aload_n 3, 1) := by decide +kernel
theorem dX5_spot_30 : decode cX5_spot 30 = .ok (.invokevirtual 35, 3) := by decide +kernel
theorem dX5_spot_33 : decode cX5_spot 33 = .ok (.iconst 1, 1) := by decide +kernel
theorem dX5_spot_34 : decode cX5_spot 34 = .ok (.isub, 1) := by decide +kernel
theorem dX5_spot_35 : decode cX5_spot 35 = .ok (.invokestatic 31, 3) := by decide +kernel
theorem dX5_spot_38 : decode cX5_spot 38 = .ok (.ifCond .ne 6, 3) := by decide +kernel
theorem dX5_spot_41 : decode cX5_spot 41 = .ok (.ldc 9, 2) := by decide +kernel
theorem dX5_spot_43 : decode cX5_spot 43 = .ok (.areturn, 1) := by decide +kernel
set_option maxRecDepth 20000 in
theorem ggX5_isEnd_X5_isNo : GoodIn wsX5_isEnd wsX5_isNo := goodIn_r _ [5, 6, 7, 4, 8] (by decide +kernel) (by decide +kernel)
set_option maxRecDepth 20000 in
theorem gX5_isEnd_X5_isNo : GoodIn wsX5_isEnd (va_wsS RX5 124 yX5_isNo wsX5_isNo) := goodIn_app (goodIn_of _ (by decide +kernel)) ggX5_isEnd_X5_isNo
set_option maxRecDepth 20000 in
theorem ggX5_isEnd_X5_fails : GoodIn wsX5_isEnd wsX5_fails := goodIn_r _ [12, 13, 97, 98, 99, 100, 101, 102, 103] (by decide +kernel) (by decide +kernel)
set_option maxRecDepth 20000 in
theorem gX5_isEnd_X5_fails : GoodIn wsX5_isEnd (wsV RX5 127 RX5 yX5_fails wsX5_fails) := goodIn_app (goodIn_of _ (by decide +kernel)) ggX5_isEnd_X5_fails
set_option maxRecDepth 20000 in
theorem ggX5_isEnd_X5_isEndNow : GoodIn wsX5_isEnd wsX5_isEndNow := goodIn_r _ [17, 18, 19, 20, 4, 21, 22, 23, 24, 25, 26, 27, 28, 29, 30, 31, 32, 33, 34, 35, 36, 37, 38, 39, 40, 41, 42, 43, 44, 45, 46, 47, 48, 49, 50, 51, 52, 53, 54, 55, 56, 57, 58, 59, 60, 61, 62, 63, 64, 65, 66, 67, 68, 69, 70, 71, 72, 73, 74, 75, 76, 77, 78, 79, 80, 81, 82, 83, 84, 85, 86, 87, 88, 89, 90, 91, 92, 93, 94, 95, 96, 97, 98, 99, 100, 101, 102, 103, 104, 105, 106, 107, 108, 109, 110] (by decide +kernel) (by decide +kernel)
set_option maxRecDepth 20000 in
theorem gX5_isEnd_X5_isEndNow : GoodIn wsX5_isEnd (wsV RX5 191 RX5 yX5_isEndNow wsX5_isEndNow) := goodIn_app (goodIn_of _ (by decide +kernel)) ggX5_isEnd_X5_isEndNow
theorem dX5_isEnd_0 : decode cX5_isEnd 0 = .ok (.aload_n 0, 1) := by decide +kernel
theorem dX5_isEnd_1 : decode cX5_isEnd 1 = .ok (.iload_n 1, 1) := by decide +kernel
theorem dX5_isEnd_2 : decode cX5_isEnd 2 = .ok (.invokestatic 124, 3) := by decide +kernel
theorem dX5_isEnd_5 : decode cX5_isEnd 5 = .ok (.iconst 0, 1) := by decide +kernel
theorem dX5_isEnd_6 : decode cX5_isEnd 6 = .ok (.iconst 0, 1) := by decide +kernel
theorem dX5_isEnd_7 : decode cX5_isEnd 7 = .ok (.invokevirtual 127, 3) := by decide +kernel
theorem dX5_isEnd_10 : decode cX5_isEnd 10 = .ok (.ifCond .ne 20, 3) := by decide +kernel
theorem dX5_isEnd_13 : decode cX5_isEnd 13 = .ok (.aload_n 0, 1) := by decide +kernel
theorem dX5_isEnd_14 : decode cX5_isEnd 14 = .ok (.aload_n 0, 1) := by decide +kernel
theorem dX5_isEnd_15 : decode cX5_isEnd 15 = .ok (.getfield 11, 3) := by decide +kernel
theorem dX5_isEnd_18 : decode cX5_isEnd 18 = .ok (.iload_n 1, 1) := by decide +kernel
theorem dX5_isEnd_19 : decode cX5_isEnd 19 = .ok (.aaload, 1) := by decide +kernel
theorem dX5_isEnd_20 : decode cX5_isEnd 20 = .ok (.invokevirtual 191, 3) := by decide +kernel
theorem dX5_isEnd_23 : decode cX5_isEnd 23 = .ok (.ifCond .eq 7, 3) := by decide +kernel
theorem dX5_isEnd_26 : decode cX5_isEnd 26 = .ok (.iconst 1, 1) := by decide +kernel
theorem dX5_isEnd_27 : decode cX5_isEnd 27 = .ok (.goto 4, 3) := by decide +kernel
theorem dX5_isEnd_30 : decode cX5_isEnd 30 = .ok (.iconst 0, 1) := by decide +kernel
theorem dX5_isEnd_31 : decode cX5_isEnd 31 = .ok (.ireturn, 1) := by decide +kernel
set_option maxRecDepth 20000 in
theorem ggX5_form_X5_isNo : GoodIn wsX5_form wsX5_isNo := goodIn_r _ [5, 6, 7, 4, 8] (by decide +kernel) (by decide +kernel)
set_option maxRecDepth 20000 in
theorem gX5_form_X5_isNo : GoodIn wsX5_form (va_wsS RX5 124 yX5_isNo wsX5_isNo) := goodIn_app (goodIn_of _ (by decide +kernel)) ggX5_form_X5_isNo
set_option maxRecDepth 20000 in
theorem ggX5_form_X5_fails : GoodIn wsX5_form wsX5_fails := goodIn_r _ [12, 13, 322, 323, 324, 325, 326, 327, 328] (by decide +kernel) (by decide +kernel)
set_option maxRecDepth 20000 in
theorem gX5_form_X5_fails : GoodIn wsX5_form (wsV RX5 127 RX5 yX5_fails wsX5_fails) := goodIn_app (goodIn_of _ (by decide +kernel)) ggX5_form_X5_fails
set_option maxRecDepth 20000 in
theorem ggX5_form_X5_formOf : GoodIn wsX5_form wsX5_formOf := goodIn_r _ [17, 18, 19, 20, 21, 4, 22, 23, 24, 25, 26, 27, 28, 29, 30, 31, 32, 33, 34, 35, 36, 37, 38, 39, 40, 41, 42, 43, 44, 45, 46, 47, 48, 49, 50, 51, 52, 53, 54, 55, 56, 57, 58, 59, 60, 61, 62, 63, 64, 65, 66, 67, 68, 69, 70, 71, 72, 73, 74, 75, 76, 77, 78, 79, 80, 81, 82, 83, 84, 85, 86, 87, 88, 89, 90, 91, 92, 93, 94, 95, 96, 97, 98, 99, 100, 101, 102, 103, 104, 105, 106, 107, 108, 109, 110, 111, 112, 113, 114, 115, 116, 117, 118, 119, 120, 121, 122, 123, 124, 125, 126, 127, 128, 129, 130, 131, 132, 133, 134, 135, 136, 137, 138, 139, 140, 141, 142, 143, 144, 145, 146, 147, 148, 149, 150, 151, 152, 153, 154, 155, 156, 157, 158, 159, 160, 161, 162, 163, 164, 165, 166, 167, 168, 169, 170, 171, 172, 173, 174, 175, 176, 177, 178, 179, 180, 181, 182, 183, 184, 185, 186, 187, 188, 189, 190, 191, 192, 193, 194, 195, 196, 197, 198, 199, 200, 201, 202, 203, 204, 205, 206, 207, 208, 209, 210, 211, 212, 213, 214, 215, 216, 217, 218, 219, 220, 221, 222, 223, 224, 225, 226, 227, 228, 229, 230, 231, 232, 233, 234, 235, 236, 237, 238, 239, 240, 241, 242, 243, 244, 245, 246, 247, 248, 249, 250, 251, 252, 253, 254, 255, 256, 257, 258, 259, 260, 261, 262, 263, 264, 265, 266, 267, 268, 269, 270, 271, 272, 273, 274, 275, 276, 277, 278, 279, 280, 281, 282, 283, 284, 285, 286, 287, 288, 289, 290, 291, 292, 293, 294, 295, 296, 297, 298, 299, 300, 301, 302, 303, 304, 305, 306, 307, 308, 309, 310, 311, 312, 313, 314, 315, 316, 317, 318, 319, 320, 321, 322, 323, 324, 325, 326, 327, 328, 329, 330, 331, 332, 333, 334, 335, 336, 337, 338, 339] (by decide +kernel) (by decide +kernel)
set_option maxRecDepth 20000 in
theorem gX5_form_X5_formOf : GoodIn wsX5_form (wsV RX5 103 RX5 yX5_formOf wsX5_formOf) := goodIn_app (goodIn_of _ (by decide +kernel)) ggX5_form_X5_formOf
theorem dX5_form_0 : decode cX5_form 0 = .ok (.aload_n 0, 1) := by decide +kernel
theorem dX5_form_1 : decode cX5_form 1 = .ok (.iload_n 1, 1) := by decide +kernel
theorem dX5_form_2 : decode cX5_form 2 = .ok (.invokestatic 124, 3) := by decide +kernel
theorem dX5_form_5 : decode cX5_form 5 = .ok (.iconst 0, 1) := by decide +kernel
theorem dX5_form_6 : decode cX5_form 6 = .ok (.iconst 0, 1) := by decide +kernel
theorem dX5_form_7 : decode cX5_form 7 = .ok (.invokevirtual 127, 3) := by decide +kernel
theorem dX5_form_10 : decode cX5_form 10 = .ok (.ifCond .eq 8, 3) := by decide +kernel
theorem dX5_form_13 : decode cX5_form 13 = .ok (.ldc 9, 2) := by decide +kernel
theorem dX5_form_15 : decode cX5_form 15 = .ok (.goto 13, 3) := by decide +kernel
theorem dX5_form_18 : decode cX5_form 18 = .ok (.aload_n 0, 1) := by decide +kernel
theorem dX5_form_19 : decode cX5_form 19 = .ok (.aload_n 0, 1) := by decide +kernel
theorem dX5_form_20 : decode cX5_form 20 = .ok (.getfield 11, 3) := by decide +kernel
theorem dX5_form_23 : decode cX5_form 23 = .ok (.iload_n 1, 1) := by decide +kernel
theorem dX5_form_24 : decode cX5_form 24 = .ok (.aaload, 1) := by decide +kernel
theorem dX5_form_25 : decode cX5_form 25 = .ok (.invokevirtual 103, 3) := by decide +kernel
theorem dX5_form_28 : decode cX5_form 28 = .ok (.areturn, 1) := by decide +kernel
set_option maxRecDepth 20000 in
theorem ggX5_told_X5_isNo : GoodIn wsX5_told wsX5_isNo := goodIn_r _ [5, 6, 7, 4, 8] (by decide +kernel) (by decide +kernel)
set_option maxRecDepth 20000 in
theorem gX5_told_X5_isNo : GoodIn wsX5_told (va_wsS RX5 124 yX5_isNo wsX5_isNo) := goodIn_app (goodIn_of _ (by decide +kernel)) ggX5_told_X5_isNo
set_option maxRecDepth 20000 in
theorem ggX5_told_X5_fails : GoodIn wsX5_told wsX5_fails := goodIn_r _ [12, 13, 408, 409, 410, 411, 412, 413, 414] (by decide +kernel) (by decide +kernel)
set_option maxRecDepth 20000 in
theorem gX5_told_X5_fails : GoodIn wsX5_told (wsV RX5 127 RX5 yX5_fails wsX5_fails) := goodIn_app (goodIn_of _ (by decide +kernel)) ggX5_told_X5_fails
set_option maxRecDepth 20000 in
theorem ggX5_told_X5_formOf : GoodIn wsX5_told wsX5_formOf := goodIn_r _ [17, 18, 19, 20, 21, 4, 22, 23, 24, 25, 26, 27, 28, 29, 30, 31, 32, 33, 34, 35, 36, 37, 38, 39, 40, 41, 42, 43, 44, 45, 46, 47, 48, 49, 50, 51, 52, 53, 54, 55, 56, 57, 58, 59, 60, 61, 62, 63, 64, 65, 66, 67, 68, 69, 70, 71, 72, 73, 74, 75, 76, 77, 78, 79, 80, 81, 82, 83, 84, 85, 86, 87, 88, 89, 90, 91, 92, 93, 94, 95, 96, 97, 98, 99, 100, 101, 102, 103, 104, 105, 106, 107, 108, 109, 110, 111, 112, 113, 114, 115, 116, 117, 118, 119, 120, 121, 122, 123, 124, 125, 126, 127, 128, 129, 130, 131, 132, 133, 134, 135, 136, 137, 138, 139, 140, 141, 142, 143, 144, 145, 146, 147, 148, 149, 150, 151, 152, 153, 154, 155, 156, 157, 158, 159, 160, 161, 162, 163, 164, 165, 166, 167, 168, 169, 170, 171, 172, 173, 174, 175, 176, 177, 178, 179, 180, 181, 182, 183, 184, 185, 186, 187, 188, 189, 190, 191, 192, 193, 194, 195, 196, 197, 198, 199, 200, 201, 202, 203, 204, 205, 206, 207, 208, 209, 210, 211, 212, 213, 214, 215, 216, 217, 218, 219, 220, 221, 222, 223, 224, 225, 226, 227, 228, 229, 230, 231, 232, 233, 234, 235, 236, 237, 238, 239, 240, 241, 242, 243, 244, 245, 246, 247, 248, 249, 250, 251, 252, 253, 254, 255, 256, 257, 258, 259, 260, 261, 262, 263, 264, 265, 266, 267, 268, 269, 270, 271, 272, 273, 274, 275, 276, 277, 278, 279, 280, 281, 282, 283, 284, 285, 286, 287, 288, 289, 290, 291, 292, 293, 294, 295, 296, 297, 298, 299, 300, 301, 302, 303, 304, 305, 306, 307, 308, 309, 310, 311, 312, 313, 314, 315, 316, 317, 318, 319, 320, 321, 408, 409, 410, 411, 412, 413, 414, 415, 416, 417, 418, 419, 420, 421, 422, 423, 424, 425] (by decide +kernel) (by decide +kernel)
set_option maxRecDepth 20000 in
theorem gX5_told_X5_formOf : GoodIn wsX5_told (wsV RX5 103 RX5 yX5_formOf wsX5_formOf) := goodIn_app (goodIn_of _ (by decide +kernel)) ggX5_told_X5_formOf
set_option maxRecDepth 20000 in
theorem ggX5_told_J0_equals_9ea2d : GoodIn wsX5_told wsJ0_equals_9ea2d := goodIn_r _ [325, 326, 45, 46, 40, 327, 328, 77, 329, 418, 419, 420, 421] (by decide +kernel) (by decide +kernel)
set_option maxRecDepth 20000 in
theorem gX5_told_J0_equals_9ea2d : GoodIn wsX5_told (wsV RX5 107 RJ0 yJ0_equals_9ea2d wsJ0_equals_9ea2d) := goodIn_app (goodIn_of _ (by decide +kernel)) ggX5_told_J0_equals_9ea2d
theorem dX5_told_0 : decode cX5_told 0 = .ok (.aload_n 0, 1) := by decide +kernel
theorem dX5_told_1 : decode cX5_told 1 = .ok (.iload_n 1, 1) := by decide +kernel
theorem dX5_told_2 : decode cX5_told 2 = .ok (.invokestatic 124, 3) := by decide +kernel
theorem dX5_told_5 : decode cX5_told 5 = .ok (.ifCond .ne 10, 3) := by decide +kernel
theorem dX5_told_8 : decode cX5_told 8 = .ok (.iload_n 2, 1) := by decide +kernel
theorem dX5_told_9 : decode cX5_told 9 = .ok (.invokestatic 124, 3) := by decide +kernel
theorem dX5_told_12 : decode cX5_told 12 = .ok (.ifCond .eq 7, 3) := by decide +kernel
theorem dX5_told_15 : decode cX5_told 15 = .ok (.iconst 1, 1) := by decide +kernel
theorem dX5_told_16 : decode cX5_told 16 = .ok (.goto 4, 3) := by decide +kernel
theorem dX5_told_19 : decode cX5_told 19 = .ok (.iconst 0, 1) := by decide +kernel
theorem dX5_told_20 : decode cX5_told 20 = .ok (.iconst 0, 1) := by decide +kernel
theorem dX5_told_21 : decode cX5_told 21 = .ok (.iconst 0, 1) := by decide +kernel
theorem dX5_told_22 : decode cX5_told 22 = .ok (.invokevirtual 127, 3) := by decide +kernel
theorem dX5_told_25 : decode cX5_told 25 = .ok (.ifCond .eq 5, 3) := by decide +kernel
theorem dX5_told_28 : decode cX5_told 28 = .ok (.iconst 0, 1) := by decide +kernel
theorem dX5_told_29 : decode cX5_told 29 = .ok (.ireturn, 1) := by decide +kernel
theorem dX5_told_30 : decode cX5_told 30 = .ok (.aload_n 0, 1) := by decide +kernel
theorem dX5_told_31 : decode cX5_told 31 = .ok (.aload_n 0, 1) := by decide +kernel
theorem dX5_told_32 : decode cX5_told 32 = .ok (.getfield 11, 3) := by decide +kernel
theorem dX5_told_35 : decode cX5_told 35 = .ok (.iload_n 1, 1) := by decide +kernel
theorem dX5_told_36 : decode cX5_told 36 = .ok (.aaload, 1) := by decide +kernel
theorem dX5_told_37 : decode cX5_told 37 = .ok (.invokevirtual 103, 3) := by decide +kernel
theorem dX5_told_40 : decode cX5_told 40 = .ok (.astore_n 3, 1) := by decide +kernel
theorem dX5_told_41 : decode cX5_told 41 = .ok (.aload_n 0, 1) := by decide +kernel
theorem dX5_told_42 : decode cX5_told 42 = .ok (.aload_n 0, 1) := by decide +kernel
theorem dX5_told_43 : decode cX5_told 43 = .ok (.getfield 11, 3) := by decide +kernel
theorem dX5_told_46 : decode cX5_told 46 = .ok (.iload_n 2, 1) := by decide +kernel
theorem dX5_told_47 : decode cX5_told 47 = .ok (.aaload, 1) := by decide +kernel
theorem dX5_told_48 : decode cX5_told 48 = .ok (.invokevirtual 103, 3) := by decide +kernel
theorem dX5_told_51 : decode cX5_told 51 = .ok (.astore 4, 2) := by decide +kernel
theorem dX5_told_53 : decode cX5_told 53 = .ok (.aload_n 3, 1) := by decide +kernel
theorem dX5_told_54 : decode cX5_told 54 = .ok (.aload 4, 2) := by decide +kernel
theorem dX5_told_56 : decode cX5_told 56 = .ok (.invokevirtual 107, 3) := by decide +kernel
theorem dX5_told_59 : decode cX5_told 59 = .ok (.ifCond .eq 5, 3) := by decide +kernel
theorem dX5_told_62 : decode cX5_told 62 = .ok (.iconst 1, 1) := by decide +kernel
theorem dX5_told_63 : decode cX5_told 63 = .ok (.ireturn, 1) := by decide +kernel
set_option maxRecDepth 20000 in
theorem ggX5_peaks_X5_allPeaks : GoodIn wsX5_peaks wsX5_allPeaks := goodIn_r _ [6, 7, 8, 9, 10, 11, 12, 13, 14, 15, 16, 17, 18, 19, 20, 21, 22, 23, 24, 25, 26, 27, 28, 29, 30, 31, 32, 33, 34, 35, 36, 37, 38, 39, 40, 41, 42, 43, 44, 45, 46, 47, 48, 49, 50, 51, 52, 53, 54, 55, 56, 57, 58, 59, 60, 61, 62, 63, 64, 65, 66, 67, 68, 69, 70, 71, 72, 73, 74, 75, 76, 77, 78, 79, 80, 81, 82, 83, 84, 85, 86, 87, 88, 89, 90, 91, 92, 93, 94, 95, 96, 97, 98, 99, 100, 101, 102, 103, 104, 105, 106, 107, 108, 109, 110, 111, 112, 113, 114, 115, 116, 117, 118, 119, 120, 121, 122, 123, 124, 125, 126, 127, 128, 129, 130, 131, 132, 133, 134, 135, 136, 137, 138, 139, 140, 141, 142, 143, 144, 145, 146, 147, 148, 149, 150, 151, 152, 153, 154, 155, 156, 157, 158, 159, 5, 160, 161, 162, 163, 164, 165, 166, 167, 168, 169, 170, 171, 172, 173, 174, 175, 176, 177, 178, 179, 180, 181, 182, 183, 184, 185, 186, 187, 188, 189, 190, 191, 192, 193, 194, 195, 196, 197, 198, 199, 200, 201, 202, 203, 204, 205, 206, 207, 208, 209, 210, 211, 212, 213, 214, 215, 216, 217, 218, 219, 220, 221, 222, 223, 224, 225, 226, 227, 228, 229, 230, 231, 232, 233, 234, 235, 236, 237, 238, 239, 240, 241, 242, 243, 244, 245, 246, 247, 248, 249, 250, 251, 252, 253, 254, 255, 256, 257, 258, 259, 260, 261, 262, 263, 264, 265, 266, 267, 268, 269, 270, 271, 272, 273, 274, 275, 276, 277, 278, 279, 280, 281, 282, 283, 284, 285, 286, 287, 288, 289, 290, 291, 292, 293, 294, 295, 296, 297, 298, 299, 300, 301, 302, 303, 304, 305, 306, 307, 308, 309, 310, 311, 312, 313, 314, 315, 316, 317, 318, 319, 320, 321, 322, 323, 324, 325, 326, 327, 328, 329, 330, 331, 332, 333, 334, 335, 336, 337, 338, 339, 340, 341, 342, 343, 344, 345, 346, 347, 355, 356, 357, 348, 349, 350, 351, 352, 353, 354, 358, 359, 360, 361, 362, 363, 364, 365] (by decide +kernel) (by decide +kernel)
set_option maxRecDepth 20000 in
theorem gX5_peaks_X5_allPeaks : GoodIn wsX5_peaks (wsV RX5 110 RX5 yX5_allPeaks wsX5_allPeaks) := goodIn_app (goodIn_of _ (by decide +kernel)) ggX5_peaks_X5_allPeaks
set_option maxRecDepth 20000 in
theorem ggX5_peaks_Jx4a65c_size_8abf5 : GoodIn wsX5_peaks wsJx4a65c_size_8abf5 := goodIn_r _ [37, 38, 355, 356, 357] (by decide +kernel) (by decide +kernel)
set_option maxRecDepth 20000 in
theorem gX5_peaks_Jx4a65c_size_8abf5 : GoodIn wsX5_peaks (wsV RX5 35 RJx4a65c yJx4a65c_size_8abf5 wsJx4a65c_size_8abf5) := goodIn_app (goodIn_of _ (by decide +kernel)) ggX5_peaks_Jx4a65c_size_8abf5
theorem dX5_peaks_0 : decode cX5_peaks 0 = .ok (.aload_n 0, 1) := by decide +kernel
theorem dX5_peaks_1 : decode cX5_peaks 1 = .ok (.iconst 0, 1) := by decide +kernel
theorem dX5_peaks_2 : decode cX5_peaks 2 = .ok (.putfield 27, 3) := by decide +kernel
theorem dX5_peaks_5 : decode cX5_peaks 5 = .ok (.aload_n 0, 1) := by decide +kernel
theorem dX5_peaks_6 : decode cX5_peaks 6 = .ok (.invokevirtual 110, 3) := by decide +kernel
theorem dX5_peaks_9 : decode cX5_peaks 9 = .ok (.invokevirtual 35, 3) := by decide +kernel
theorem dX5_peaks_12 : decode cX5_peaks 12 = .ok (.ireturn, 1) := by decide +kernel
set_option maxRecDepth 20000 in
theorem ggX5_peak_X5_allPeaks : GoodIn wsX5_peak wsX5_allPeaks := goodIn_r _ [10, 11, 12, 13, 14, 15, 16, 3, 4, 5, 17, 18, 19, 20, 21, 22, 23, 24, 25, 26, 27, 28, 29, 30, 31, 32, 33, 34, 35, 36, 37, 38, 39, 40, 41, 42, 43, 44, 45, 46, 47, 48, 49, 50, 51, 52, 53, 54, 55, 56, 57, 58, 59, 60, 61, 62, 63, 64, 65, 66, 67, 68, 69, 70, 71, 72, 73, 74, 75, 76, 77, 78, 79, 80, 81, 82, 83, 84, 85, 86, 87, 88, 89, 90, 91, 92, 93, 94, 95, 96, 97, 98, 99, 100, 101, 102, 103, 104, 105, 106, 107, 108, 109, 110, 111, 112, 113, 114, 115, 116, 117, 118, 119, 120, 121, 122, 123, 124, 125, 126, 127, 128, 129, 130, 131, 132, 133, 134, 135, 136, 137, 138, 139, 140, 141, 142, 143, 144, 145, 146, 147, 148, 149, 150, 151, 152, 153, 154, 155, 156, 157, 158, 159, 160, 9, 161, 162, 163, 164, 165, 166, 167, 168, 169, 170, 171, 172, 173, 174, 175, 176, 177, 178, 179, 180, 181, 182, 183, 184, 185, 186, 187, 188, 189, 190, 191, 192, 193, 194, 195, 196, 197, 198, 199, 200, 201, 202, 203, 204, 205, 206, 207, 208, 209, 210, 211, 212, 213, 214, 215, 216, 217, 218, 219, 220, 221, 222, 223, 224, 225, 226, 227, 228, 229, 230, 231, 232, 233, 234, 235, 236, 237, 238, 239, 240, 241, 242, 243, 244, 245, 246, 247, 248, 249, 250, 251, 252, 253, 254, 255, 256, 257, 258, 259, 260, 261, 262, 263, 264, 265, 266, 267, 268, 269, 270, 271, 272, 273, 274, 275, 276, 277, 278, 279, 280, 281, 282, 283, 284, 285, 286, 287, 288, 289, 290, 291, 292, 293, 294, 295, 296, 297, 298, 299, 300, 301, 302, 303, 304, 305, 306, 307, 308, 309, 310, 311, 312, 313, 314, 315, 316, 317, 318, 319, 320, 321, 322, 323, 324, 325, 326, 327, 328, 329, 330, 331, 332, 333, 334, 335, 336, 337, 338, 339, 340, 341, 342, 343, 344, 345, 346, 347, 348, 363, 364, 365, 352, 353, 354, 355, 356, 357, 358, 359, 360, 361, 362, 366, 367, 368, 369] (by decide +kernel) (by decide +kernel)
set_option maxRecDepth 20000 in
theorem gX5_peak_X5_allPeaks : GoodIn wsX5_peak (wsV RX5 110 RX5 yX5_allPeaks wsX5_allPeaks) := goodIn_app (goodIn_of _ (by decide +kernel)) ggX5_peak_X5_allPeaks
set_option maxRecDepth 20000 in
theorem ggX5_peak_Jx4a65c_size_8abf5 : GoodIn wsX5_peak wsJx4a65c_size_8abf5 := goodIn_r _ [38, 39, 363, 364, 365] (by decide +kernel) (by decide +kernel)
set_option maxRecDepth 20000 in
theorem gX5_peak_Jx4a65c_size_8abf5 : GoodIn wsX5_peak (wsV RX5 35 RJx4a65c yJx4a65c_size_8abf5 wsJx4a65c_size_8abf5) := goodIn_app (goodIn_of _ (by decide +kernel)) ggX5_peak_Jx4a65c_size_8abf5
set_option maxRecDepth 20000 in
theorem ggX5_peak_X5_isIn : GoodIn wsX5_peak wsX5_isIn := goodIn_r _ [351] (by decide +kernel) (by decide +kernel)
set_option maxRecDepth 20000 in
theorem gX5_peak_X5_isIn : GoodIn wsX5_peak (va_wsS RX5 31 yX5_isIn wsX5_isIn) := goodIn_app (goodIn_of _ (by decide +kernel)) ggX5_peak_X5_isIn
theorem dX5_peak_0 : decode cX5_peak 0 = .ok (.aload_n 0, 1) := by decide +kernel
theorem dX5_peak_1 : decode cX5_peak 1 = .ok (.iconst 0, 1) := by decide +kernel
theorem dX5_peak_2 : decode cX5_peak 2 = .ok (.putfield 27, 3) := by decide +kernel
theorem dX5_peak_5 : decode cX5_peak 5 = .ok (.aload_n 0, 1) := by decide +kernel
theorem dX5_peak_6 : decode cX5_peak 6 = .ok (.invokevirtual 110, 3) := by decide +kernel
theorem dX5_peak_9 : decode cX5_peak 9 = .ok (.astore_n 2, 1) := by decide +kernel
theorem dX5_peak_10 : decode cX5_peak 10 = .ok (.iload_n 1, 1) := by decide +kernel
theorem dX5_peak_11 : decode cX5_peak 11 = .ok (.iconst 0, 1) := by decide +kernel
theorem dX5_peak_12 : decode cX5_peak 12 = .ok (.aload_n 2, 1) := by decide +kernel
theorem dX5_peak_13 : decode cX5_peak 13 = .ok (.invokevirtual 35, 3) := by decide +kernel
theorem dX5_peak_16 : decode cX5_peak 16 = .ok (.iconst 1, 1) := by decide +kernel
theorem dX5_peak_17 : decode cX5_peak 17 = .ok (.isub, 1) := by decide +kernel
theorem dX5_peak_18 : decode cX5_peak 18 = .ok (.invokestatic 31, 3) := by decide +kernel
theorem dX5_peak_21 : decode cX5_peak 21 = .ok (.ifCond .ne 6, 3) := by decide +kernel
theorem dX5_peak_24 : decode cX5_peak 24 = .ok (.ldc 9, 2) := by decide +kernel
theorem dX5_peak_26 : decode cX5_peak 26 = .ok (.areturn, 1) := by decide +kernel
set_option maxRecDepth 20000 in
theorem ggX5_meets_X5_allPeaks : GoodIn wsX5_meets wsX5_allPeaks := goodIn_r _ [6, 7, 8, 9, 10, 11, 12, 13, 14, 15, 16, 17, 18, 19, 20, 21, 22, 23, 24, 25, 26, 27, 28, 29, 30, 31, 32, 33, 34, 35, 36, 37, 38, 39, 40, 41, 42, 43, 44, 45, 46, 47, 48, 49, 50, 51, 52, 53, 54, 55, 56, 57, 58, 59, 60, 61, 62, 63, 64, 65, 66, 67, 68, 69, 70, 71, 72, 73, 74, 75, 76, 77, 78, 79, 80, 81, 82, 83, 84, 85, 86, 87, 88, 89, 90, 91, 92, 93, 94, 95, 96, 97, 98, 99, 100, 101, 102, 103, 104, 105, 106, 107, 108, 109, 110, 111, 112, 113, 114, 115, 116, 117, 118, 119, 120, 121, 122, 123, 124, 125, 126, 127, 128, 129, 130, 131, 132, 133, 134, 135, 136, 137, 138, 139, 140, 141, 142, 143, 144, 145, 146, 147, 148, 149, 150, 151, 152, 153, 154, 155, 156, 157, 158, 159, 5, 160, 161, 162, 163, 164, 165, 166, 167, 168, 169, 170, 171, 172, 173, 174, 175, 176, 177, 178, 179, 180, 181, 182, 183, 184, 185, 186, 187, 188, 189, 190, 191, 192, 193, 194, 195, 196, 197, 198, 199, 200, 201, 202, 203, 204, 205, 206, 207, 208, 209, 210, 211, 212, 213, 214, 215, 216, 217, 218, 219, 220, 221, 222, 223, 224, 225, 226, 227, 228, 229, 230, 231, 232, 233, 234, 235, 236, 237, 238, 239, 240, 241, 242, 243, 244, 245, 246, 247, 248, 249, 250, 251, 252, 253, 254, 255, 256, 257, 258, 259, 260, 261, 262, 263, 264, 265, 266, 267, 268, 269, 270, 271, 272, 273, 274, 275, 276, 277, 278, 279, 280, 281, 282, 283, 284, 285, 286, 287, 288, 289, 290, 291, 292, 293, 294, 295, 296, 297, 298, 299, 300, 301, 302, 303, 304, 305, 306, 307, 308, 309, 310, 311, 312, 313, 314, 315, 316, 317, 318, 319, 320, 321, 322, 323, 324, 325, 326, 327, 328, 329, 330, 331, 332, 333, 334, 335, 336, 337, 338, 339, 340, 341, 342, 343, 344, 345, 346, 347, 385, 386, 387, 388, 389, 390, 391, 392, 393, 394, 395, 396, 397, 398, 399, 400, 401, 402] (by decide +kernel) (by decide +kernel)
set_option maxRecDepth 20000 in
theorem gX5_meets_X5_allPeaks : GoodIn wsX5_meets (wsV RX5 110 RX5 yX5_allPeaks wsX5_allPeaks) := goodIn_app (goodIn_of _ (by decide +kernel)) ggX5_meets_X5_allPeaks
set_option maxRecDepth 20000 in
theorem ggX5_meets_Jx4a65c_size_8abf5 : GoodIn wsX5_meets wsJx4a65c_size_8abf5 := goodIn_r _ [37, 38, 385, 386, 387] (by decide +kernel) (by decide +kernel)
set_option maxRecDepth 20000 in
theorem gX5_meets_Jx4a65c_size_8abf5 : GoodIn wsX5_meets (wsV RX5 35 RJx4a65c yJx4a65c_size_8abf5 wsJx4a65c_size_8abf5) := goodIn_app (goodIn_of _ (by decide +kernel)) ggX5_meets_Jx4a65c_size_8abf5
set_option maxRecDepth 20000 in
theorem ggX5_meets_X5_isIn : GoodIn wsX5_meets wsX5_isIn := goodIn_r _ [350] (by decide +kernel) (by decide +kernel)
set_option maxRecDepth 20000 in
theorem gX5_meets_X5_isIn : GoodIn wsX5_meets (va_wsS RX5 31 yX5_isIn wsX5_isIn) := goodIn_app (goodIn_of _ (by decide +kernel)) ggX5_meets_X5_isIn
set_option maxRecDepth 20000 in
theorem ggX5_meets_X5_fails : GoodIn wsX5_meets wsX5_fails := goodIn_r _ [354, 355, 388, 389, 390, 391, 392, 393, 394] (by decide +kernel) (by decide +kernel)
set_option maxRecDepth 20000 in
theorem gX5_meets_X5_fails : GoodIn wsX5_meets (wsV RX5 127 RX5 yX5_fails wsX5_fails) := goodIn_app (goodIn_of _ (by decide +kernel)) ggX5_meets_X5_fails
theorem dX5_meets_0 : decode cX5_meets 0 = .ok (.aload_n 0, 1) := by decide +kernel
theorem dX5_meets_1 : decode cX5_meets 1 = .ok (.invokevirtual 110, 3) := by decide +kernel
theorem dX5_meets_4 : decode cX5_meets 4 = .ok (.astore_n 2, 1) := by decide +kernel
theorem dX5_meets_5 : decode cX5_meets 5 = .ok (.aload_n 0, 1) := by decide +kernel
theorem dX5_meets_6 : decode cX5_meets 6 = .ok (.iload_n 1, 1) := by decide +kernel
theorem dX5_meets_7 : decode cX5_meets 7 = .ok (.iconst 0, 1) := by decide +kernel
theorem dX5_meets_8 : decode cX5_meets 8 = .ok (.aload_n 2, 1) := by decide +kernel
theorem dX5_meets_9 : decode cX5_meets 9 = .ok (.invokevirtual 35, 3) := by decide +kernel
theorem dX5_meets_12 : decode cX5_meets 12 = .ok (.iconst 1, 1) := by decide +kernel
theorem dX5_meets_13 : decode cX5_meets 13 = .ok (.isub, 1) := by decide +kernel
theorem dX5_meets_14 : decode cX5_meets 14 = .ok (.invokestatic 31, 3) := by decide +kernel
theorem dX5_meets_17 : decode cX5_meets 17 = .ok (.ifCond .ne 7, 3) := by decide +kernel
theorem dX5_meets_20 : decode cX5_meets 20 = .ok (.iconst 1, 1) := by decide +kernel
theorem dX5_meets_21 : decode cX5_meets 21 = .ok (.goto 4, 3) := by decide +kernel
theorem dX5_meets_25 : decode cX5_meets 25 = .ok (.iconst 0, 1) := by decide +kernel
theorem dX5_meets_26 : decode cX5_meets 26 = .ok (.iconst 0, 1) := by decide +kernel
theorem dX5_meets_27 : decode cX5_meets 27 = .ok (.invokevirtual 127, 3) := by decide +kernel
theorem dX5_meets_30 : decode cX5_meets 30 = .ok (.ifCond .ne 22, 3) := by decide +kernel
theorem dX5_meets_52 : decode cX5_meets 52 = .ok (.iconst 0, 1) := by decide +kernel
theorem dX5_meets_53 : decode cX5_meets 53 = .ok (.ireturn, 1) := by decide +kernel
set_option maxRecDepth 20000 in
theorem ggX5_unmet_X5_unmetNow : GoodIn wsX5_unmet wsX5_unmetNow := goodIn_r _ [6, 7, 8, 9, 10, 5, 11, 12, 13, 14, 15, 16, 17, 18, 19, 20, 21, 22, 23, 24, 25, 26, 27, 28, 29, 30, 31, 32, 33, 34, 35, 36, 37, 38, 39, 40, 41, 42, 43, 44, 45, 46, 47, 48, 49, 50, 51, 52, 53, 54, 55, 56, 57, 58, 59, 60, 61, 62, 63, 64, 65, 66, 67, 68, 69, 70, 71, 72, 73, 74, 75, 76, 77, 78, 79, 80, 81, 82, 83, 84, 85, 86, 87, 88, 89, 90, 91, 92, 93, 94, 95, 96, 97, 98, 99, 100, 101, 102, 103, 104, 105, 106, 107, 108, 109, 110, 111, 112, 113, 114, 115, 116, 117, 118, 119, 120, 121, 122, 123, 124, 125, 126, 127, 128, 129, 130, 131, 132, 133, 134, 135, 136, 137, 138, 139, 140, 141, 142, 143, 144, 145, 146, 147, 148, 149, 150, 151, 152, 153, 154, 155, 156, 157, 158, 159, 160, 161, 162, 163, 164, 165, 166, 167, 168, 169, 170, 171, 172, 173, 174, 175, 176, 177, 178, 179, 180, 181, 182, 183, 184, 185, 186, 187, 188, 189, 190, 191, 192, 193, 194, 195, 196, 197, 198, 199, 200, 201, 202, 203, 204, 205, 206, 207, 208, 209, 210, 211, 212, 213, 214, 215, 216, 217, 218, 219, 220, 221, 222, 223, 224, 225, 226, 227, 228, 229, 230, 231, 232, 233, 234, 235, 236, 237, 238, 239, 240, 241, 242, 243, 244, 245, 246, 247, 248, 249, 250, 251, 252, 253, 254, 255, 256, 257, 258, 259, 260, 261, 262, 263, 264, 265, 266, 267, 268, 269, 270, 271, 272, 273, 274, 275, 276, 277, 278, 279, 280, 281, 282, 283, 284, 285, 286, 287, 288, 289, 290, 291, 292, 293, 294, 295, 296, 297, 298, 299, 300, 301, 302, 303, 304, 305, 306, 307, 308, 309, 310, 311, 312, 313, 314, 315, 316, 317, 318, 319, 320, 321, 322, 323, 324, 325, 326, 327, 328, 329, 330, 331, 332, 333, 334, 335, 336, 337, 338, 339, 340, 341, 342, 343, 344, 345, 346, 347, 348, 349, 350, 351, 352, 353, 354, 355, 356, 357, 358, 359, 360, 361, 362, 363, 364, 365, 366, 367, 368, 369, 370, 371, 372, 373, 374, 375, 376, 377, 378, 379, 380, 381, 389, 390, 391, 382, 383, 384, 385, 386, 387, 388, 392, 393, 394, 395, 396, 397, 398, 399] (by decide +kernel) (by decide +kernel)
set_option maxRecDepth 20000 in
theorem gX5_unmet_X5_unmetNow : GoodIn wsX5_unmet (wsV RX5 195 RX5 yX5_unmetNow wsX5_unmetNow) := goodIn_app (goodIn_of _ (by decide +kernel)) ggX5_unmet_X5_unmetNow
theorem dX5_unmet_0 : decode cX5_unmet 0 = .ok (.aload_n 0, 1) := by decide +kernel
theorem dX5_unmet_1 : decode cX5_unmet 1 = .ok (.iconst 0, 1) := by decide +kernel
theorem dX5_unmet_2 : decode cX5_unmet 2 = .ok (.putfield 27, 3) := by decide +kernel
theorem dX5_unmet_5 : decode cX5_unmet 5 = .ok (.aload_n 0, 1) := by decide +kernel
theorem dX5_unmet_6 : decode cX5_unmet 6 = .ok (.invokevirtual 195, 3) := by decide +kernel
theorem dX5_unmet_9 : decode cX5_unmet 9 = .ok (.ireturn, 1) := by decide +kernel
set_option maxRecDepth 20000 in
theorem ggX5_complete_X5_unmetNow : GoodIn wsX5_complete wsX5_unmetNow := goodIn_r _ [7, 2, 8, 9, 10, 6, 11, 12, 13, 14, 15, 16, 17, 18, 19, 20, 21, 22, 23, 24, 25, 26, 27, 28, 29, 30, 31, 32, 33, 34, 35, 36, 37, 38, 39, 40, 41, 42, 43, 44, 45, 46, 47, 48, 49, 50, 51, 52, 53, 54, 55, 56, 57, 58, 59, 60, 61, 62, 63, 64, 65, 66, 67, 68, 69, 70, 71, 72, 73, 74, 75, 76, 77, 78, 79, 80, 81, 82, 83, 84, 85, 86, 87, 88, 89, 90, 91, 92, 93, 94, 95, 96, 97, 98, 99, 100, 101, 102, 103, 104, 105, 106, 107, 108, 109, 110, 111, 112, 113, 114, 115, 116, 117, 118, 119, 120, 121, 122, 123, 124, 125, 126, 127, 128, 129, 130, 131, 132, 133, 134, 135, 136, 137, 138, 139, 140, 141, 142, 143, 144, 145, 146, 147, 148, 149, 150, 151, 152, 153, 154, 155, 156, 157, 158, 159, 160, 161, 162, 163, 164, 165, 166, 167, 168, 169, 170, 171, 172, 173, 174, 175, 176, 177, 178, 179, 180, 181, 182, 183, 184, 185, 186, 187, 188, 189, 190, 191, 192, 193, 194, 195, 196, 197, 198, 199, 200, 201, 202, 203, 204, 205, 206, 207, 208, 209, 210, 211, 212, 213, 214, 215, 216, 217, 218, 219, 220, 221, 222, 223, 224, 225, 226, 227, 228, 229, 230, 231, 232, 233, 234, 235, 236, 237, 238, 239, 240, 241, 242, 243, 244, 245, 246, 247, 248, 249, 250, 251, 252, 253, 254, 255, 256, 257, 258, 259, 260, 261, 262, 263, 264, 265, 266, 267, 268, 269, 270, 271, 272, 273, 274, 275, 276, 277, 278, 279, 280, 281, 282, 283, 284, 285, 286, 287, 288, 289, 290, 291, 292, 293, 294, 295, 296, 297, 298, 299, 300, 301, 302, 303, 304, 305, 306, 307, 308, 309, 310, 311, 312, 313, 314, 315, 316, 317, 318, 319, 320, 321, 322, 323, 324, 325, 326, 327, 328, 329, 330, 331, 332, 333, 334, 335, 336, 337, 338, 339, 340, 341, 342, 343, 344, 345, 346, 347, 348, 349, 350, 351, 352, 353, 354, 355, 356, 357, 358, 359, 360, 361, 362, 363, 364, 365, 366, 367, 368, 369, 370, 371, 372, 373, 374, 375, 376, 377, 378, 379, 380, 381, 405, 406, 407, 398, 399, 400, 401, 402, 403, 404, 408, 409, 410, 411, 412, 413, 414, 415] (by decide +kernel) (by decide +kernel)
set_option maxRecDepth 20000 in
theorem gX5_complete_X5_unmetNow : GoodIn wsX5_complete (wsV RX5 195 RX5 yX5_unmetNow wsX5_unmetNow) := goodIn_app (goodIn_of _ (by decide +kernel)) ggX5_complete_X5_unmetNow
theorem dX5_complete_0 : decode cX5_complete 0 = .ok (.aload_n 0, 1) := by decide +kernel
theorem dX5_complete_1 : decode cX5_complete 1 = .ok (.iconst 0, 1) := by decide +kernel
theorem dX5_complete_2 : decode cX5_complete 2 = .ok (.putfield 27, 3) := by decide +kernel
theorem dX5_complete_5 : decode cX5_complete 5 = .ok (.aload_n 0, 1) := by decide +kernel
theorem dX5_complete_6 : decode cX5_complete 6 = .ok (.invokevirtual 195, 3) := by decide +kernel
theorem dX5_complete_9 : decode cX5_complete 9 = .ok (.istore_n 1, 1) := by decide +kernel
theorem dX5_complete_10 : decode cX5_complete 10 = .ok (.iload_n 1, 1) := by decide +kernel
theorem dX5_complete_11 : decode cX5_complete 11 = .ok (.iconst (-1), 1) := by decide +kernel
theorem dX5_complete_12 : decode cX5_complete 12 = .ok (.if_icmp .ne 5, 3) := by decide +kernel
theorem dX5_complete_15 : decode cX5_complete 15 = .ok (.iconst (-1), 1) := by decide +kernel
theorem dX5_complete_16 : decode cX5_complete 16 = .ok (.ireturn, 1) := by decide +kernel
set_option maxRecDepth 20000 in
theorem ggX5_tidy_Jx4a65c_size_8abf5 : GoodIn wsX5_tidy wsJx4a65c_size_8abf5 := goodIn_r _ [9, 10, 376, 377, 378] (by decide +kernel) (by decide +kernel)
set_option maxRecDepth 20000 in
theorem gX5_tidy_Jx4a65c_size_8abf5 : GoodIn wsX5_tidy (wsV RX5 35 RJx4a65c yJx4a65c_size_8abf5 wsJx4a65c_size_8abf5) := goodIn_app (goodIn_of _ (by decide +kernel)) ggX5_tidy_Jx4a65c_size_8abf5
theorem dX5_tidy_0 : decode cX5_tidy 0 = .ok (.aload_n 0, 1) := by decide +kernel
theorem dX5_tidy_1 : decode cX5_tidy 1 = .ok (.iconst 0, 1) := by decide +kernel
theorem dX5_tidy_2 : decode cX5_tidy 2 = .ok (.putfield 27, 3) := by decide +kernel
theorem dX5_tidy_5 : decode cX5_tidy 5 = .ok (.iconst 0, 1) := by decide +kernel
theorem dX5_tidy_6 : decode cX5_tidy 6 = .ok (.istore_n 1, 1) := by decide +kernel
theorem dX5_tidy_7 : decode cX5_tidy 7 = .ok (.aload_n 0, 1) := by decide +kernel
theorem dX5_tidy_8 : decode cX5_tidy 8 = .ok (.getfield 20, 3) := by decide +kernel
theorem dX5_tidy_11 : decode cX5_tidy 11 = .ok (.invokevirtual 35, 3) := by decide +kernel
theorem dX5_tidy_14 : decode cX5_tidy 14 = .ok (.iconst 1, 1) := by decide +kernel
theorem dX5_tidy_15 : decode cX5_tidy 15 = .ok (.isub, 1) := by decide +kernel
theorem dX5_tidy_16 : decode cX5_tidy 16 = .ok (.istore_n 2, 1) := by decide +kernel
theorem dX5_tidy_17 : decode cX5_tidy 17 = .ok (.iload_n 2, 1) := by decide +kernel
theorem dX5_tidy_18 : decode cX5_tidy 18 = .ok (.ifCond .lt 149, 3) := by decide +kernel
theorem dX5_tidy_167 : decode cX5_tidy 167 = .ok (.iload_n 1, 1) := by decide +kernel
theorem dX5_tidy_168 : decode cX5_tidy 168 = .ok (.ireturn, 1) := by decide +kernel
set_option maxRecDepth 20000 in
theorem ggX5_houseNow_J0_length_8abf5 : GoodIn wsX5_houseNow wsJ0_length_8abf5 := goodIn_r _ [10, 11, 12, 13, 14, 9, 15, 16, 17, 25, 26, 27, 28] (by decide +kernel) (by decide +kernel)
set_option maxRecDepth 20000 in
theorem gX5_houseNow_J0_length_8abf5 : GoodIn wsX5_houseNow (wsV RX5 42 RJ0 yJ0_length_8abf5 wsJ0_length_8abf5) := goodIn_app (goodIn_of _ (by decide +kernel)) ggX5_houseNow_J0_length_8abf5
theorem dX5_houseNow_0 : decode cX5_houseNow 0 = .ok (.iconst 0, 1) := by decide +kernel
theorem dX5_houseNow_1 : decode cX5_houseNow 1 = .ok (.istore_n 2, 1) := by decide +kernel
theorem dX5_houseNow_2 : decode cX5_houseNow 2 = .ok (.aload_n 0, 1) := by decide +kernel
theorem dX5_houseNow_3 : decode cX5_houseNow 3 = .ok (.getfield 11, 3) := by decide +kernel
theorem dX5_houseNow_6 : decode cX5_houseNow 6 = .ok (.astore_n 3, 1) := by decide +kernel
theorem dX5_houseNow_7 : decode cX5_houseNow 7 = .ok (.aload_n 3, 1) := by decide +kernel
theorem dX5_houseNow_8 : decode cX5_houseNow 8 = .ok (.arraylength, 1) := by decide +kernel
theorem dX5_houseNow_9 : decode cX5_houseNow 9 = .ok (.istore 4, 2) := by decide +kernel
theorem dX5_houseNow_11 : decode cX5_houseNow 11 = .ok (.iconst 0, 1) := by decide +kernel
theorem dX5_houseNow_12 : decode cX5_houseNow 12 = .ok (.istore 5, 2) := by decide +kernel
theorem dX5_houseNow_14 : decode cX5_houseNow 14 = .ok (.iload 5, 2) := by decide +kernel
theorem dX5_houseNow_16 : decode cX5_houseNow 16 = .ok (.iload 4, 2) := by decide +kernel
theorem dX5_houseNow_18 : decode cX5_houseNow 18 = .ok (.if_icmp .ge 23, 3) := by decide +kernel
theorem dX5_houseNow_21 : decode cX5_houseNow 21 = .ok (.aload_n 3, 1) := by decide +kernel
theorem dX5_houseNow_22 : decode cX5_houseNow 22 = .ok (.iload 5, 2) := by decide +kernel
theorem dX5_houseNow_24 : decode cX5_houseNow 24 = .ok (.aaload, 1) := by decide +kernel
theorem dX5_houseNow_25 : decode cX5_houseNow 25 = .ok (.astore 6, 2) := by decide +kernel
theorem dX5_houseNow_27 : decode cX5_houseNow 27 = .ok (.iload_n 2, 1) := by decide +kernel
theorem dX5_houseNow_28 : decode cX5_houseNow 28 = .ok (.aload 6, 2) := by decide +kernel
theorem dX5_houseNow_30 : decode cX5_houseNow 30 = .ok (.invokevirtual 42, 3) := by decide +kernel
theorem dX5_houseNow_33 : decode cX5_houseNow 33 = .ok (.iadd, 1) := by decide +kernel
theorem dX5_houseNow_34 : decode cX5_houseNow 34 = .ok (.istore_n 2, 1) := by decide +kernel
theorem dX5_houseNow_35 : decode cX5_houseNow 35 = .ok (.iinc 5 1, 3) := by decide +kernel
theorem dX5_houseNow_38 : decode cX5_houseNow 38 = .ok (.goto (-24), 3) := by decide +kernel
theorem dX5_houseNow_41 : decode cX5_houseNow 41 = .ok (.iconst 4, 1) := by decide +kernel
theorem dX5_houseNow_42 : decode cX5_houseNow 42 = .ok (.newarray .int, 2) := by decide +kernel
theorem dX5_houseNow_44 : decode cX5_houseNow 44 = .ok (.dup, 1) := by decide +kernel
theorem dX5_houseNow_45 : decode cX5_houseNow 45 = .ok (.iconst 0, 1) := by decide +kernel
theorem dX5_houseNow_46 : decode cX5_houseNow 46 = .ok (.aload_n 0, 1) := by decide +kernel
theorem dX5_houseNow_47 : decode cX5_houseNow 47 = .ok (.getfield 39, 3) := by decide +kernel
theorem dX5_houseNow_50 : decode cX5_houseNow 50 = .ok (.iastore, 1) := by decide +kernel
theorem dX5_houseNow_51 : decode cX5_houseNow 51 = .ok (.dup, 1) := by decide +kernel
theorem dX5_houseNow_52 : decode cX5_houseNow 52 = .ok (.iconst 1, 1) := by decide +kernel
theorem dX5_houseNow_53 : decode cX5_houseNow 53 = .ok (.aload_n 0, 1) := by decide +kernel
theorem dX5_houseNow_54 : decode cX5_houseNow 54 = .ok (.getfield 205, 3) := by decide +kernel
theorem dX5_houseNow_57 : decode cX5_houseNow 57 = .ok (.iastore, 1) := by decide +kernel
theorem dX5_houseNow_58 : decode cX5_houseNow 58 = .ok (.dup, 1) := by decide +kernel
theorem dX5_houseNow_59 : decode cX5_houseNow 59 = .ok (.iconst 2, 1) := by decide +kernel
theorem dX5_houseNow_60 : decode cX5_houseNow 60 = .ok (.iload_n 2, 1) := by decide +kernel
theorem dX5_houseNow_61 : decode cX5_houseNow 61 = .ok (.iastore, 1) := by decide +kernel
theorem dX5_houseNow_62 : decode cX5_houseNow 62 = .ok (.dup, 1) := by decide +kernel
theorem dX5_houseNow_63 : decode cX5_houseNow 63 = .ok (.iconst 3, 1) := by decide +kernel
theorem dX5_houseNow_64 : decode cX5_houseNow 64 = .ok (.aload_n 0, 1) := by decide +kernel
theorem dX5_houseNow_65 : decode cX5_houseNow 65 = .ok (.getfield 177, 3) := by decide +kernel
theorem dX5_houseNow_68 : decode cX5_houseNow 68 = .ok (.iastore, 1) := by decide +kernel
theorem dX5_houseNow_69 : decode cX5_houseNow 69 = .ok (.astore_n 3, 1) := by decide +kernel
theorem dX5_houseNow_70 : decode cX5_houseNow 70 = .ok (.aload_n 3, 1) := by decide +kernel
theorem dX5_houseNow_71 : decode cX5_houseNow 71 = .ok (.iload_n 1, 1) := by decide +kernel
theorem dX5_houseNow_72 : decode cX5_houseNow 72 = .ok (.iaload, 1) := by decide +kernel
theorem dX5_houseNow_73 : decode cX5_houseNow 73 = .ok (.ireturn, 1) := by decide +kernel
set_option maxRecDepth 20000 in
theorem ggX5_house_X5_isIn : GoodIn wsX5_house wsX5_isIn := goodIn_r _ [4] (by decide +kernel) (by decide +kernel)
set_option maxRecDepth 20000 in
theorem gX5_house_X5_isIn : GoodIn wsX5_house (va_wsS RX5 31 yX5_isIn wsX5_isIn) := goodIn_app (goodIn_of _ (by decide +kernel)) ggX5_house_X5_isIn
set_option maxRecDepth 20000 in
theorem ggX5_house_X5_fails : GoodIn wsX5_house wsX5_fails := goodIn_r _ [8, 9, 31, 32, 33, 34, 35, 36, 37] (by decide +kernel) (by decide +kernel)
set_option maxRecDepth 20000 in
theorem gX5_house_X5_fails : GoodIn wsX5_house (wsV RX5 127 RX5 yX5_fails wsX5_fails) := goodIn_app (goodIn_of _ (by decide +kernel)) ggX5_house_X5_fails
set_option maxRecDepth 20000 in
theorem ggX5_house_X5_houseNow : GoodIn wsX5_house wsX5_houseNow := goodIn_r _ [13, 14, 15, 16, 17, 18, 19, 20, 21, 22, 23, 24, 25, 26, 27, 28, 29, 30, 31, 32, 33, 34, 35, 36, 37, 38, 39, 40, 41] (by decide +kernel) (by decide +kernel)
set_option maxRecDepth 20000 in
theorem gX5_house_X5_houseNow : GoodIn wsX5_house (wsV RX5 208 RX5 yX5_houseNow wsX5_houseNow) := goodIn_app (goodIn_of _ (by decide +kernel)) ggX5_house_X5_houseNow
theorem dX5_house_0 : decode cX5_house 0 = .ok (.aload_n 0, 1) := by decide +kernel
theorem dX5_house_1 : decode cX5_house 1 = .ok (.iload_n 1, 1) := by decide +kernel
theorem dX5_house_2 : decode cX5_house 2 = .ok (.iconst 0, 1) := by decide +kernel
theorem dX5_house_3 : decode cX5_house 3 = .ok (.iconst 3, 1) := by decide +kernel
theorem dX5_house_4 : decode cX5_house 4 = .ok (.invokestatic 31, 3) := by decide +kernel
theorem dX5_house_7 : decode cX5_house 7 = .ok (.ifCond .ne 7, 3) := by decide +kernel
theorem dX5_house_10 : decode cX5_house 10 = .ok (.iconst 1, 1) := by decide +kernel
theorem dX5_house_11 : decode cX5_house 11 = .ok (.goto 4, 3) := by decide +kernel
theorem dX5_house_14 : decode cX5_house 14 = .ok (.iconst 0, 1) := by decide +kernel
theorem dX5_house_15 : decode cX5_house 15 = .ok (.iconst 0, 1) := by decide +kernel
theorem dX5_house_16 : decode cX5_house 16 = .ok (.iconst 0, 1) := by decide +kernel
theorem dX5_house_17 : decode cX5_house 17 = .ok (.invokevirtual 127, 3) := by decide +kernel
theorem dX5_house_20 : decode cX5_house 20 = .ok (.ifCond .eq 7, 3) := by decide +kernel
theorem dX5_house_23 : decode cX5_house 23 = .ok (.iconst 0, 1) := by decide +kernel
theorem dX5_house_24 : decode cX5_house 24 = .ok (.goto 8, 3) := by decide +kernel
theorem dX5_house_27 : decode cX5_house 27 = .ok (.aload_n 0, 1) := by decide +kernel
theorem dX5_house_28 : decode cX5_house 28 = .ok (.iload_n 1, 1) := by decide +kernel
theorem dX5_house_29 : decode cX5_house 29 = .ok (.invokevirtual 208, 3) := by decide +kernel
theorem dX5_house_32 : decode cX5_house 32 = .ok (.ireturn, 1) := by decide +kernel
theorem dX5_knock_0 : decode cX5_knock 0 = .ok (.aload_n 0, 1) := by decide +kernel
theorem dX5_knock_1 : decode cX5_knock 1 = .ok (.iconst 0, 1) := by decide +kernel
theorem dX5_knock_2 : decode cX5_knock 2 = .ok (.putfield 27, 3) := by decide +kernel
theorem dX5_knock_5 : decode cX5_knock 5 = .ok (.aload_n 0, 1) := by decide +kernel
theorem dX5_knock_6 : decode cX5_knock 6 = .ok (.dup, 1) := by decide +kernel
theorem dX5_knock_7 : decode cX5_knock 7 = .ok (.getfield 205, 3) := by decide +kernel
theorem dX5_knock_10 : decode cX5_knock 10 = .ok (.iconst 1, 1) := by decide +kernel
theorem dX5_knock_11 : decode cX5_knock 11 = .ok (.iadd, 1) := by decide +kernel
theorem dX5_knock_12 : decode cX5_knock 12 = .ok (.putfield 205, 3) := by decide +kernel
theorem dX5_knock_15 : decode cX5_knock 15 = .ok (.aload_n 0, 1) := by decide +kernel
theorem dX5_knock_16 : decode cX5_knock 16 = .ok (.getfield 205, 3) := by decide +kernel
theorem dX5_knock_19 : decode cX5_knock 19 = .ok (.ireturn, 1) := by decide +kernel
theorem dX5_isSound_0 : decode cX5_isSound 0 = .ok (.aload_n 0, 1) := by decide +kernel
theorem dX5_isSound_1 : decode cX5_isSound 1 = .ok (.iconst 0, 1) := by decide +kernel
theorem dX5_isSound_2 : decode cX5_isSound 2 = .ok (.putfield 27, 3) := by decide +kernel
theorem dX5_isSound_5 : decode cX5_isSound 5 = .ok (.iconst 1, 1) := by decide +kernel
theorem dX5_isSound_6 : decode cX5_isSound 6 = .ok (.ireturn, 1) := by decide +kernel
set_option maxRecDepth 20000 in
theorem ggX5_add_J0_length_8abf5 : GoodIn wsX5_add wsJ0_length_8abf5 := goodIn_r _ [6, 7, 8, 9, 10, 5, 11, 12, 13, 51, 52, 53, 54] (by decide +kernel) (by decide +kernel)
set_option maxRecDepth 20000 in
theorem gX5_add_J0_length_8abf5 : GoodIn wsX5_add (wsV RX5 42 RJ0 yJ0_length_8abf5 wsJ0_length_8abf5) := goodIn_app (goodIn_of _ (by decide +kernel)) ggX5_add_J0_length_8abf5
theorem dX5_add_0 : decode cX5_add 0 = .ok (.lload_n 0, 1) := by decide +kernel
theorem dX5_add_1 : decode cX5_add 1 = .ok (.lstore_n 3, 1) := by decide +kernel
theorem dX5_add_2 : decode cX5_add 2 = .ok (.iconst 0, 1) := by decide +kernel
theorem dX5_add_3 : decode cX5_add 3 = .ok (.istore 5, 2) := by decide +kernel
theorem dX5_add_5 : decode cX5_add 5 = .ok (.iload 5, 2) := by decide +kernel
theorem dX5_add_7 : decode cX5_add 7 = .ok (.aload_n 2, 1) := by decide +kernel
theorem dX5_add_8 : decode cX5_add 8 = .ok (.invokevirtual 42, 3) := by decide +kernel
theorem dX5_add_11 : decode cX5_add 11 = .ok (.if_icmp .ge 23, 3) := by decide +kernel
theorem dX5_add_34 : decode cX5_add 34 = .ok (.lload_n 3, 1) := by decide +kernel
theorem dX5_add_35 : decode cX5_add 35 = .ok (.lreturn, 1) := by decide +kernel
set_option maxRecDepth 20000 in
theorem ggX5_digest_X5_houseNow : GoodIn wsX5_digest wsX5_houseNow := goodIn_r _ [10, 4, 11, 12, 13, 14, 15, 16, 17, 18, 19, 20, 21, 22, 23, 24, 25, 26, 417, 418, 419, 420, 421, 422, 423, 424, 425, 426, 427] (by decide +kernel) (by decide +kernel)
set_option maxRecDepth 20000 in
theorem gX5_digest_X5_houseNow : GoodIn wsX5_digest (wsV RX5 208 RX5 yX5_houseNow wsX5_houseNow) := goodIn_app (goodIn_of _ (by decide +kernel)) ggX5_digest_X5_houseNow
set_option maxRecDepth 20000 in
theorem ggX5_digest_X5_add : GoodIn wsX5_digest wsX5_add := goodIn_r _ [29, 3, 15, 16, 17, 18, 19, 20, 21, 22, 23, 24, 25, 26, 30, 31, 32, 33, 34, 35, 36, 37, 38, 39, 40, 41, 42, 43, 44, 45, 46, 47, 48, 49, 50, 51, 52, 53, 54, 55, 56, 57, 58, 59, 60, 61, 62, 63, 64, 65, 66, 424, 425, 426, 427] (by decide +kernel) (by decide +kernel)
set_option maxRecDepth 20000 in
theorem gX5_digest_X5_add : GoodIn wsX5_digest (va_wsS RX5 216 yX5_add wsX5_add) := goodIn_app (goodIn_of _ (by decide +kernel)) ggX5_digest_X5_add
set_option maxRecDepth 20000 in
theorem ggX5_digest_X5_spotsOf : GoodIn wsX5_digest wsX5_spotsOf := goodIn_r _ [70, 71, 72, 73, 5, 74, 11, 75, 76, 77, 78, 79, 80, 81, 82, 83, 84, 85, 86, 87, 88, 89, 90, 91, 15, 16, 17, 18, 19, 20, 21, 22, 23, 24, 25, 26, 92, 93, 94, 95, 96, 97, 98, 99, 100, 101, 102, 103, 104, 105, 47, 48, 49, 106, 107, 108, 109, 110, 111, 9, 112, 30, 31, 32, 33, 34, 35, 36, 37, 38, 39, 40, 41, 42, 43, 44, 45, 46, 50, 51, 52, 53, 54, 55, 56, 57, 58, 59, 60, 61, 62, 63, 64, 65, 66, 113, 114, 115, 116, 117, 118, 119, 120, 121, 122, 123, 124, 125, 126, 127, 128, 129, 130, 131, 132, 133, 134, 135, 136, 137, 138, 139, 140, 141, 142, 143, 144, 145, 146, 147, 148, 149, 150, 151, 152, 153, 154, 155, 156, 157, 158, 159, 160, 161, 162, 163, 164, 428, 429, 430, 417, 418, 419, 420, 421, 422, 423, 424, 425, 426, 427] (by decide +kernel) (by decide +kernel)
set_option maxRecDepth 20000 in
theorem gX5_digest_X5_spotsOf : GoodIn wsX5_digest (wsV RX5 180 RX5 yX5_spotsOf wsX5_spotsOf) := goodIn_app (goodIn_of _ (by decide +kernel)) ggX5_digest_X5_spotsOf
set_option maxRecDepth 20000 in
theorem ggX5_digest_Jx4a65c_size_8abf5 : GoodIn wsX5_digest wsJx4a65c_size_8abf5 := goodIn_r _ [95, 96, 428, 429, 430] (by decide +kernel) (by decide +kernel)
set_option maxRecDepth 20000 in
theorem gX5_digest_Jx4a65c_size_8abf5 : GoodIn wsX5_digest (wsV RX5 35 RJx4a65c yJx4a65c_size_8abf5 wsJx4a65c_size_8abf5) := goodIn_app (goodIn_of _ (by decide +kernel)) ggX5_digest_Jx4a65c_size_8abf5
set_option maxRecDepth 20000 in
theorem ggX5_digest_X5_formOf : GoodIn wsX5_digest wsX5_formOf := goodIn_r _ [168, 11, 169, 170, 171, 9, 172, 173, 174, 175, 176, 5, 74, 92, 93, 94, 73, 95, 96, 15, 16, 17, 18, 19, 20, 21, 22, 23, 24, 25, 26, 97, 98, 99, 100, 101, 102, 103, 104, 105, 47, 48, 49, 106, 107, 108, 109, 79, 110, 111, 112, 30, 31, 32, 33, 34, 35, 36, 37, 38, 39, 40, 41, 42, 43, 44, 45, 46, 50, 51, 52, 53, 54, 55, 56, 57, 58, 59, 60, 61, 62, 63, 64, 65, 66, 177, 178, 179, 180, 181, 182, 183, 184, 185, 186, 187, 188, 189, 190, 191, 192, 193, 194, 195, 90, 91, 196, 197, 198, 199, 200, 201, 202, 203, 204, 205, 206, 207, 208, 209, 210, 211, 212, 213, 214, 215, 216, 217, 218, 219, 220, 221, 222, 223, 224, 147, 225, 226, 227, 228, 229, 230, 231, 232, 233, 234, 158, 159, 133, 160, 161, 162, 163, 164, 235, 236, 237, 238, 239, 240, 241, 242, 243, 244, 245, 246, 247, 248, 249, 250, 251, 252, 253, 254, 255, 256, 257, 258, 259, 260, 261, 262, 263, 264, 265, 266, 267, 268, 269, 270, 271, 272, 273, 274, 275, 276, 277, 278, 279, 280, 281, 282, 283, 284, 285, 286, 287, 288, 289, 290, 291, 292, 293, 294, 137, 138, 139, 140, 132, 134, 141, 142, 143, 144, 295, 296, 297, 298, 299, 300, 301, 302, 303, 304, 305, 306, 307, 308, 309, 310, 311, 312, 313, 314, 315, 316, 317, 318, 319, 320, 321, 322, 323, 324, 325, 326, 327, 328, 329, 330, 331, 332, 333, 334, 335, 336, 337, 338, 339, 340, 341, 342, 343, 344, 345, 346, 347, 348, 349, 350, 351, 352, 353, 354, 355, 356, 357, 358, 359, 360, 361, 362, 363, 364, 365, 366, 367, 368, 369, 370, 371, 372, 373, 374, 375, 376, 417, 418, 419, 420, 421, 422, 423, 428, 429, 430, 424, 425, 426, 427, 431, 432, 433, 434] (by decide +kernel) (by decide +kernel)
set_option maxRecDepth 20000 in
theorem gX5_digest_X5_formOf : GoodIn wsX5_digest (wsV RX5 103 RX5 yX5_formOf wsX5_formOf) := goodIn_app (goodIn_of _ (by decide +kernel)) ggX5_digest_X5_formOf
set_option maxRecDepth 20000 in
theorem ggX5_digest_X5_areAllFalling : GoodIn wsX5_digest wsX5_areAllFalling := goodIn_r _ [384, 5, 92, 93, 94, 73, 95, 96, 385, 386, 387, 9, 388, 181, 74, 97, 98, 99, 100, 101, 102, 103, 104, 105, 47, 48, 49, 106, 107, 108, 109, 79, 389, 390, 391, 15, 16, 17, 18, 19, 20, 21, 22, 23, 24, 25, 26, 30, 31, 32, 33, 34, 35, 36, 37, 38, 39, 40, 41, 42, 43, 44, 45, 46, 50, 51, 52, 53, 54, 55, 56, 57, 58, 59, 60, 61, 62, 63, 64, 65, 66, 417, 418, 419, 420, 421, 422, 423, 428, 429, 430, 424, 425, 426, 427] (by decide +kernel) (by decide +kernel)
set_option maxRecDepth 20000 in
theorem gX5_digest_X5_areAllFalling : GoodIn wsX5_digest (wsV RX5 174 RX5 yX5_areAllFalling wsX5_areAllFalling) := goodIn_app (goodIn_of _ (by decide +kernel)) ggX5_digest_X5_areAllFalling
set_option maxRecDepth 20000 in
theorem ggX5_digest_X5_one : GoodIn wsX5_digest wsX5_one := goodIn_r _ [394] (by decide +kernel) (by decide +kernel)
set_option maxRecDepth 20000 in
theorem gX5_digest_X5_one : GoodIn wsX5_digest (va_wsS RX5 165 yX5_one wsX5_one) := goodIn_app (goodIn_of _ (by decide +kernel)) ggX5_digest_X5_one
set_option maxRecDepth 20000 in
theorem ggX5_digest_X5_allPeaks : GoodIn wsX5_digest wsX5_allPeaks := goodIn_r _ [398, 71, 72, 73, 5, 74, 399, 185, 186, 187, 181, 75, 76, 77, 78, 79, 80, 81, 82, 83, 84, 85, 86, 87, 88, 89, 90, 91, 92, 93, 94, 95, 96, 97, 98, 99, 100, 101, 102, 103, 104, 105, 47, 48, 49, 106, 107, 108, 109, 15, 16, 17, 18, 19, 20, 21, 22, 23, 24, 25, 26, 207, 208, 209, 210, 211, 212, 213, 214, 45, 215, 216, 217, 34, 35, 36, 37, 218, 219, 40, 220, 221, 222, 223, 224, 147, 225, 226, 227, 228, 229, 230, 231, 232, 233, 234, 197, 158, 159, 133, 160, 161, 162, 163, 164, 235, 236, 237, 238, 239, 240, 241, 242, 243, 244, 52, 245, 246, 247, 248, 249, 250, 251, 252, 253, 254, 255, 256, 57, 58, 59, 257, 258, 259, 260, 261, 262, 61, 62, 63, 64, 65, 66, 203, 204, 205, 206, 263, 264, 265, 266, 267, 110, 111, 9, 112, 30, 31, 32, 33, 38, 39, 41, 42, 43, 44, 46, 50, 51, 53, 54, 55, 56, 60, 342, 343, 344, 345, 346, 188, 189, 190, 191, 192, 193, 194, 195, 196, 198, 199, 200, 201, 202, 268, 269, 270, 271, 272, 273, 274, 275, 276, 277, 278, 279, 280, 281, 282, 283, 284, 285, 286, 287, 288, 289, 290, 291, 292, 293, 294, 137, 138, 139, 140, 132, 134, 141, 142, 143, 144, 295, 296, 297, 298, 299, 300, 301, 302, 303, 304, 305, 306, 307, 308, 309, 310, 311, 312, 313, 314, 315, 316, 317, 318, 319, 320, 321, 322, 323, 324, 325, 326, 327, 328, 329, 330, 331, 332, 333, 334, 335, 336, 337, 338, 339, 340, 341, 347, 348, 349, 350, 351, 352, 353, 354, 355, 356, 357, 358, 359, 360, 361, 362, 363, 364, 365, 366, 367, 368, 369, 370, 371, 372, 373, 374, 375, 376, 113, 114, 115, 116, 117, 118, 119, 120, 121, 122, 123, 124, 125, 126, 127, 128, 129, 130, 131, 135, 136, 145, 146, 148, 149, 150, 151, 152, 153, 154, 155, 156, 157, 182, 183, 184, 428, 429, 430, 417, 418, 419, 420, 421, 422, 423, 431, 432, 433, 434, 424, 425, 426, 427] (by decide +kernel) (by decide +kernel)
set_option maxRecDepth 20000 in
theorem gX5_digest_X5_allPeaks : GoodIn wsX5_digest (wsV RX5 110 RX5 yX5_allPeaks wsX5_allPeaks) := goodIn_app (goodIn_of _ (by decide +kernel)) ggX5_digest_X5_allPeaks
set_option maxRecDepth 20000 in
theorem ggX5_digest_X5_unmetNow : GoodIn wsX5_digest wsX5_unmetNow := goodIn_r _ [403, 404, 395, 396, 397, 9, 398, 71, 72, 73, 5, 74, 399, 185, 186, 187, 181, 75, 76, 77, 78, 79, 80, 81, 82, 83, 84, 85, 86, 87, 88, 89, 90, 91, 92, 93, 94, 95, 96, 97, 98, 99, 100, 101, 102, 103, 104, 105, 47, 48, 49, 106, 107, 108, 109, 15, 16, 17, 18, 19, 20, 21, 22, 23, 24, 25, 26, 207, 208, 209, 210, 211, 212, 213, 214, 45, 215, 216, 217, 34, 35, 36, 37, 218, 219, 40, 220, 221, 222, 223, 224, 147, 225, 226, 227, 228, 229, 230, 231, 232, 233, 234, 197, 158, 159, 133, 160, 161, 162, 163, 164, 235, 236, 237, 238, 239, 240, 241, 242, 243, 244, 52, 245, 246, 247, 248, 249, 250, 251, 252, 253, 254, 255, 256, 57, 58, 59, 257, 258, 259, 260, 261, 262, 61, 62, 63, 64, 65, 66, 203, 204, 205, 206, 263, 264, 265, 266, 267, 110, 111, 112, 30, 31, 32, 33, 38, 39, 41, 42, 43, 44, 46, 50, 51, 53, 54, 55, 56, 60, 342, 343, 344, 345, 346, 188, 189, 190, 191, 192, 193, 194, 195, 196, 198, 199, 200, 201, 202, 268, 269, 270, 271, 272, 273, 274, 275, 276, 277, 278, 279, 280, 281, 282, 283, 284, 285, 286, 287, 288, 289, 290, 291, 292, 293, 294, 137, 138, 139, 140, 132, 134, 141, 142, 143, 144, 295, 296, 297, 298, 299, 300, 301, 302, 303, 304, 305, 306, 307, 308, 309, 310, 311, 312, 313, 314, 315, 316, 317, 318, 319, 320, 321, 322, 323, 324, 325, 326, 327, 328, 329, 330, 331, 332, 333, 334, 335, 336, 337, 338, 339, 340, 341, 347, 348, 349, 350, 351, 352, 353, 354, 355, 356, 357, 358, 359, 360, 361, 362, 363, 364, 365, 366, 367, 368, 369, 370, 371, 372, 373, 374, 375, 376, 113, 114, 115, 116, 117, 118, 119, 120, 121, 122, 123, 124, 125, 126, 127, 128, 129, 130, 131, 135, 136, 145, 146, 148, 149, 150, 151, 152, 153, 154, 155, 156, 157, 182, 183, 184, 405, 406, 407, 408, 165, 166, 167, 168, 11, 169, 170, 171, 172, 173, 174, 175, 176, 177, 178, 179, 180, 409, 410, 411, 412, 413, 414, 415, 416, 428, 429, 430, 417, 418, 419, 420, 421, 422, 423, 431, 432, 433, 434, 424, 425, 426, 427] (by decide +kernel) (by decide +kernel)
set_option maxRecDepth 20000 in
theorem gX5_digest_X5_unmetNow : GoodIn wsX5_digest (wsV RX5 195 RX5 yX5_unmetNow wsX5_unmetNow) := goodIn_app (goodIn_of _ (by decide +kernel)) ggX5_digest_X5_unmetNow
theorem dX5_digest_0 : decode cX5_digest 0 = .ok (.aload_n 0, 1) := by decide +kernel
theorem dX5_digest_1 : decode cX5_digest 1 = .ok (.iconst 0, 1) := by decide +kernel
theorem dX5_digest_2 : decode cX5_digest 2 = .ok (.putfield 27, 3) := by decide +kernel
theorem dX5_digest_5 : decode cX5_digest 5 = .ok (.ldc2_w 214, 3) := by decide +kernel
theorem dX5_digest_8 : decode cX5_digest 8 = .ok (.lstore_n 1, 1) := by decide +kernel
theorem dX5_digest_9 : decode cX5_digest 9 = .ok (.iconst 0, 1) := by decide +kernel
theorem dX5_digest_10 : decode cX5_digest 10 = .ok (.istore_n 3, 1) := by decide +kernel
theorem dX5_digest_11 : decode cX5_digest 11 = .ok (.iload_n 3, 1) := by decide +kernel
theorem dX5_digest_12 : decode cX5_digest 12 = .ok (.iconst 4, 1) := by decide +kernel
theorem dX5_digest_13 : decode cX5_digest 13 = .ok (.if_icmp .ge 22, 3) := by decide +kernel
theorem dX5_digest_16 : decode cX5_digest 16 = .ok (.lload_n 1, 1) := by decide +kernel
theorem dX5_digest_17 : decode cX5_digest 17 = .ok (.ldc2_w 212, 3) := by decide +kernel
theorem dX5_digest_20 : decode cX5_digest 20 = .ok (.lmul, 1) := by decide +kernel
theorem dX5_digest_21 : decode cX5_digest 21 = .ok (.aload_n 0, 1) := by decide +kernel
theorem dX5_digest_22 : decode cX5_digest 22 = .ok (.iload_n 3, 1) := by decide +kernel
theorem dX5_digest_23 : decode cX5_digest 23 = .ok (.invokevirtual 208, 3) := by decide +kernel
theorem dX5_digest_26 : decode cX5_digest 26 = .ok (.i2l, 1) := by decide +kernel
theorem dX5_digest_27 : decode cX5_digest 27 = .ok (.ladd, 1) := by decide +kernel
theorem dX5_digest_28 : decode cX5_digest 28 = .ok (.lstore_n 1, 1) := by decide +kernel
theorem dX5_digest_29 : decode cX5_digest 29 = .ok (.iinc 3 1, 3) := by decide +kernel
theorem dX5_digest_32 : decode cX5_digest 32 = .ok (.goto (-21), 3) := by decide +kernel
theorem dX5_digest_35 : decode cX5_digest 35 = .ok (.aload_n 0, 1) := by decide +kernel
theorem dX5_digest_36 : decode cX5_digest 36 = .ok (.getfield 11, 3) := by decide +kernel
theorem dX5_digest_39 : decode cX5_digest 39 = .ok (.astore_n 3, 1) := by decide +kernel
theorem dX5_digest_40 : decode cX5_digest 40 = .ok (.aload_n 3, 1) := by decide +kernel
theorem dX5_digest_41 : decode cX5_digest 41 = .ok (.arraylength, 1) := by decide +kernel
theorem dX5_digest_42 : decode cX5_digest 42 = .ok (.istore 4, 2) := by decide +kernel
theorem dX5_digest_44 : decode cX5_digest 44 = .ok (.iconst 0, 1) := by decide +kernel
theorem dX5_digest_45 : decode cX5_digest 45 = .ok (.istore 5, 2) := by decide +kernel
theorem dX5_digest_47 : decode cX5_digest 47 = .ok (.iload 5, 2) := by decide +kernel
theorem dX5_digest_49 : decode cX5_digest 49 = .ok (.iload 4, 2) := by decide +kernel
theorem dX5_digest_51 : decode cX5_digest 51 = .ok (.if_icmp .ge 46, 3) := by decide +kernel
theorem dX5_digest_54 : decode cX5_digest 54 = .ok (.aload_n 3, 1) := by decide +kernel
theorem dX5_digest_55 : decode cX5_digest 55 = .ok (.iload 5, 2) := by decide +kernel
theorem dX5_digest_57 : decode cX5_digest 57 = .ok (.aaload, 1) := by decide +kernel
theorem dX5_digest_58 : decode cX5_digest 58 = .ok (.astore 6, 2) := by decide +kernel
theorem dX5_digest_60 : decode cX5_digest 60 = .ok (.lload_n 1, 1) := by decide +kernel
theorem dX5_digest_61 : decode cX5_digest 61 = .ok (.aload 6, 2) := by decide +kernel
theorem dX5_digest_63 : decode cX5_digest 63 = .ok (.invokestatic 216, 3) := by decide +kernel
theorem dX5_digest_66 : decode cX5_digest 66 = .ok (.ldc2_w 212, 3) := by decide +kernel
theorem dX5_digest_69 : decode cX5_digest 69 = .ok (.lmul, 1) := by decide +kernel
theorem dX5_digest_70 : decode cX5_digest 70 = .ok (.aload_n 0, 1) := by decide +kernel
theorem dX5_digest_71 : decode cX5_digest 71 = .ok (.aload 6, 2) := by decide +kernel
theorem dX5_digest_73 : decode cX5_digest 73 = .ok (.invokevirtual 180, 3) := by decide +kernel
theorem dX5_digest_76 : decode cX5_digest 76 = .ok (.invokevirtual 35, 3) := by decide +kernel
theorem dX5_digest_79 : decode cX5_digest 79 = .ok (.i2l, 1) := by decide +kernel
theorem dX5_digest_80 : decode cX5_digest 80 = .ok (.ladd, 1) := by decide +kernel
theorem dX5_digest_81 : decode cX5_digest 81 = .ok (.aload_n 0, 1) := by decide +kernel
theorem dX5_digest_82 : decode cX5_digest 82 = .ok (.aload 6, 2) := by decide +kernel
theorem dX5_digest_84 : decode cX5_digest 84 = .ok (.invokevirtual 103, 3) := by decide +kernel
theorem dX5_digest_87 : decode cX5_digest 87 = .ok (.invokestatic 216, 3) := by decide +kernel
theorem dX5_digest_90 : decode cX5_digest 90 = .ok (.lstore_n 1, 1) := by decide +kernel
theorem dX5_digest_91 : decode cX5_digest 91 = .ok (.iinc 5 1, 3) := by decide +kernel
theorem dX5_digest_94 : decode cX5_digest 94 = .ok (.goto (-47), 3) := by decide +kernel
theorem dX5_digest_97 : decode cX5_digest 97 = .ok (.iconst 0, 1) := by decide +kernel
theorem dX5_digest_98 : decode cX5_digest 98 = .ok (.istore_n 3, 1) := by decide +kernel
theorem dX5_digest_99 : decode cX5_digest 99 = .ok (.iload_n 3, 1) := by decide +kernel
theorem dX5_digest_100 : decode cX5_digest 100 = .ok (.aload_n 0, 1) := by decide +kernel
theorem dX5_digest_101 : decode cX5_digest 101 = .ok (.getfield 20, 3) := by decide +kernel
theorem dX5_digest_104 : decode cX5_digest 104 = .ok (.invokevirtual 35, 3) := by decide +kernel
theorem dX5_digest_107 : decode cX5_digest 107 = .ok (.if_icmp .ge 19, 3) := by decide +kernel
theorem dX5_digest_126 : decode cX5_digest 126 = .ok (.lload_n 1, 1) := by decide +kernel
theorem dX5_digest_127 : decode cX5_digest 127 = .ok (.ldc2_w 212, 3) := by decide +kernel
theorem dX5_digest_130 : decode cX5_digest 130 = .ok (.lmul, 1) := by decide +kernel
theorem dX5_digest_131 : decode cX5_digest 131 = .ok (.aload_n 0, 1) := by decide +kernel
theorem dX5_digest_132 : decode cX5_digest 132 = .ok (.invokevirtual 174, 3) := by decide +kernel
theorem dX5_digest_135 : decode cX5_digest 135 = .ok (.invokestatic 165, 3) := by decide +kernel
theorem dX5_digest_138 : decode cX5_digest 138 = .ok (.i2l, 1) := by decide +kernel
theorem dX5_digest_139 : decode cX5_digest 139 = .ok (.ladd, 1) := by decide +kernel
theorem dX5_digest_140 : decode cX5_digest 140 = .ok (.lstore_n 1, 1) := by decide +kernel
theorem dX5_digest_141 : decode cX5_digest 141 = .ok (.lload_n 1, 1) := by decide +kernel
theorem dX5_digest_142 : decode cX5_digest 142 = .ok (.ldc2_w 212, 3) := by decide +kernel
theorem dX5_digest_145 : decode cX5_digest 145 = .ok (.lmul, 1) := by decide +kernel
theorem dX5_digest_146 : decode cX5_digest 146 = .ok (.aload_n 0, 1) := by decide +kernel
theorem dX5_digest_147 : decode cX5_digest 147 = .ok (.invokevirtual 110, 3) := by decide +kernel
theorem dX5_digest_150 : decode cX5_digest 150 = .ok (.invokevirtual 35, 3) := by decide +kernel
theorem dX5_digest_153 : decode cX5_digest 153 = .ok (.i2l, 1) := by decide +kernel
theorem dX5_digest_154 : decode cX5_digest 154 = .ok (.ladd, 1) := by decide +kernel
theorem dX5_digest_155 : decode cX5_digest 155 = .ok (.lstore_n 1, 1) := by decide +kernel
