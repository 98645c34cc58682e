set_option maxRecDepth 20000 in
theorem ggX3_cut_X2_makeEmpty : GoodIn wsX3_cut wsX2_makeEmpty := goodIn_r _ [19, 20, 39, 40] (by decide +kernel) (by decide +kernel)
set_option maxRecDepth 20000 in
theorem gX3_cut_X2_makeEmpty : GoodIn wsX3_cut (wsV RX3 59 RX2 yX2_makeEmpty wsX2_makeEmpty) := goodIn_app (goodIn_of _ (by decide +kernel)) ggX3_cut_X2_makeEmpty
set_option maxRecDepth 20000 in
theorem ggX3_cut_X2_replace : GoodIn wsX3_cut wsX2_replace := goodIn_r _ [24, 20, 25, 26, 27, 28, 29, 39, 40] (by decide +kernel) (by decide +kernel)
set_option maxRecDepth 20000 in
theorem gX3_cut_X2_replace : GoodIn wsX3_cut (wsV RX3 91 RX2 yX2_replace wsX2_replace) := goodIn_app (goodIn_of _ (by decide +kernel)) ggX3_cut_X2_replace
theorem dX3_cut_0 : decode cX3_cut 0 = .ok (.iload_n 1, 1) := by decide +kernel
theorem dX3_cut_1 : decode cX3_cut 1 = .ok (.invokestatic 52, 3) := by decide +kernel
theorem dX3_cut_4 : decode cX3_cut 4 = .ok (.aload_n 0, 1) := by decide +kernel
theorem dX3_cut_5 : decode cX3_cut 5 = .ok (.getfield 11, 3) := by decide +kernel
theorem dX3_cut_8 : decode cX3_cut 8 = .ok (.iload_n 1, 1) := by decide +kernel
theorem dX3_cut_9 : decode cX3_cut 9 = .ok (.aaload, 1) := by decide +kernel
theorem dX3_cut_10 : decode cX3_cut 10 = .ok (.iload_n 2, 1) := by decide +kernel
theorem dX3_cut_11 : decode cX3_cut 11 = .ok (.invokestatic 83, 3) := by decide +kernel
theorem dX3_cut_14 : decode cX3_cut 14 = .ok (.aload_n 0, 1) := by decide +kernel
theorem dX3_cut_15 : decode cX3_cut 15 = .ok (.getfield 11, 3) := by decide +kernel
theorem dX3_cut_18 : decode cX3_cut 18 = .ok (.iload_n 1, 1) := by decide +kernel
theorem dX3_cut_19 : decode cX3_cut 19 = .ok (.aaload, 1) := by decide +kernel
theorem dX3_cut_20 : decode cX3_cut 20 = .ok (.iload_n 3, 1) := by decide +kernel
theorem dX3_cut_21 : decode cX3_cut 21 = .ok (.invokestatic 83, 3) := by decide +kernel
theorem dX3_cut_24 : decode cX3_cut 24 = .ok (.iload_n 2, 1) := by decide +kernel
theorem dX3_cut_25 : decode cX3_cut 25 = .ok (.iload_n 3, 1) := by decide +kernel
theorem dX3_cut_26 : decode cX3_cut 26 = .ok (.if_icmp .le 13, 3) := by decide +kernel
theorem dX3_cut_39 : decode cX3_cut 39 = .ok (.aload_n 0, 1) := by decide +kernel
theorem dX3_cut_40 : decode cX3_cut 40 = .ok (.getfield 32, 3) := by decide +kernel
theorem dX3_cut_43 : decode cX3_cut 43 = .ok (.invokevirtual 59, 3) := by decide +kernel
theorem dX3_cut_46 : decode cX3_cut 46 = .ok (.aload_n 0, 1) := by decide +kernel
theorem dX3_cut_47 : decode cX3_cut 47 = .ok (.getfield 11, 3) := by decide +kernel
theorem dX3_cut_50 : decode cX3_cut 50 = .ok (.iload_n 1, 1) := by decide +kernel
theorem dX3_cut_51 : decode cX3_cut 51 = .ok (.aaload, 1) := by decide +kernel
theorem dX3_cut_52 : decode cX3_cut 52 = .ok (.iload_n 2, 1) := by decide +kernel
theorem dX3_cut_53 : decode cX3_cut 53 = .ok (.iload_n 3, 1) := by decide +kernel
theorem dX3_cut_54 : decode cX3_cut 54 = .ok (.aload_n 0, 1) := by decide +kernel
theorem dX3_cut_55 : decode cX3_cut 55 = .ok (.getfield 32, 3) := by decide +kernel
theorem dX3_cut_58 : decode cX3_cut 58 = .ok (.invokevirtual 91, 3) := by decide +kernel
theorem dX3_cut_61 : decode cX3_cut 61 = .ok (.aload_n 0, 1) := by decide +kernel
theorem dX3_cut_62 : decode cX3_cut 62 = .ok (.getfield 11, 3) := by decide +kernel
theorem dX3_cut_65 : decode cX3_cut 65 = .ok (.iload_n 1, 1) := by decide +kernel
theorem dX3_cut_66 : decode cX3_cut 66 = .ok (.aaload, 1) := by decide +kernel
theorem dX3_cut_67 : decode cX3_cut 67 = .ok (.getfield 65, 3) := by decide +kernel
theorem dX3_cut_70 : decode cX3_cut 70 = .ok (.ireturn, 1) := by decide +kernel
set_option maxRecDepth 20000 in
theorem ggX3_turn_X3_needRope : GoodIn wsX3_turn wsX3_needRope := goodIn_ca (goodIn_r _ [6, 7, 8] (by decide +kernel) (by decide +kernel)) (goodIn_sub (fun _ h => List.mem_cons_of_mem _ (List.mem_append_right _ h)) (by decide +kernel))
set_option maxRecDepth 20000 in
theorem gX3_turn_X3_needRope : GoodIn wsX3_turn (va_wsS RX3 52 yX3_needRope wsX3_needRope) := goodIn_app (goodIn_of _ (by decide +kernel)) ggX3_turn_X3_needRope
set_option maxRecDepth 20000 in
theorem ggX3_turn_X2_turnRound : GoodIn wsX3_turn wsX2_turnRound := goodIn_r _ [13, 14, 15, 25, 26] (by decide +kernel) (by decide +kernel)
set_option maxRecDepth 20000 in
theorem gX3_turn_X2_turnRound : GoodIn wsX3_turn (wsV RX3 100 RX2 yX2_turnRound wsX2_turnRound) := goodIn_app (goodIn_of _ (by decide +kernel)) ggX3_turn_X2_turnRound
theorem dX3_turn_0 : decode cX3_turn 0 = .ok (.iload_n 1, 1) := by decide +kernel
theorem dX3_turn_1 : decode cX3_turn 1 = .ok (.invokestatic 52, 3) := by decide +kernel
theorem dX3_turn_4 : decode cX3_turn 4 = .ok (.aload_n 0, 1) := by decide +kernel
theorem dX3_turn_5 : decode cX3_turn 5 = .ok (.getfield 11, 3) := by decide +kernel
theorem dX3_turn_8 : decode cX3_turn 8 = .ok (.iload_n 1, 1) := by decide +kernel
theorem dX3_turn_9 : decode cX3_turn 9 = .ok (.aaload, 1) := by decide +kernel
theorem dX3_turn_10 : decode cX3_turn 10 = .ok (.invokevirtual 100, 3) := by decide +kernel
theorem dX3_turn_13 : decode cX3_turn 13 = .ok (.aload_n 0, 1) := by decide +kernel
theorem dX3_turn_14 : decode cX3_turn 14 = .ok (.getfield 11, 3) := by decide +kernel
theorem dX3_turn_17 : decode cX3_turn 17 = .ok (.iload_n 1, 1) := by decide +kernel
theorem dX3_turn_18 : decode cX3_turn 18 = .ok (.aaload, 1) := by decide +kernel
theorem dX3_turn_19 : decode cX3_turn 19 = .ok (.getfield 65, 3) := by decide +kernel
theorem dX3_turn_22 : decode cX3_turn 22 = .ok (.ireturn, 1) := by decide +kernel
set_option maxRecDepth 20000 in
theorem ggX3_text_X3_needRope : GoodIn wsX3_text wsX3_needRope := goodIn_ca (goodIn_r _ [5, 6, 7] (by decide +kernel) (by decide +kernel)) (goodIn_sub (fun _ h => List.mem_cons_of_mem _ (List.mem_append_right _ h)) (by decide +kernel))
set_option maxRecDepth 20000 in
theorem gX3_text_X3_needRope : GoodIn wsX3_text (va_wsS RX3 52 yX3_needRope wsX3_needRope) := goodIn_app (goodIn_of _ (by decide +kernel)) ggX3_text_X3_needRope
set_option maxRecDepth 20000 in
theorem ggX3_text_X2_asString : GoodIn wsX3_text wsX2_asString := goodIn_r _ [12, 13, 14, 15, 16, 17, 18, 19, 20, 21, 22, 23, 24, 25, 26, 27, 28, 29, 30, 31, 32, 33, 34, 35, 36, 37, 38, 39, 40, 11, 41, 42, 43, 44, 45, 46, 47, 48, 49, 50, 51, 52, 53, 54, 55, 56, 57, 58, 59, 60, 61, 62, 63, 64, 65, 66, 67, 68, 69, 70, 71, 72, 73, 74, 75, 76, 77, 78, 79, 80, 81, 82, 83, 84, 85, 86, 87, 88, 89, 90, 91, 92, 93, 94, 95, 96, 97, 98, 99, 100, 101, 102, 103, 104, 105, 106, 107, 108, 109, 110, 111, 112, 113, 114, 115, 116, 117, 118, 119, 120, 121, 122, 123, 124, 125, 126, 127, 128, 129, 130, 131, 132, 133, 134, 135, 136, 137, 138, 139, 140, 141, 142, 143, 144, 145, 146, 147, 148, 149, 150, 151, 152, 153, 154, 155, 156, 157, 158, 159, 160, 161, 162, 163, 164, 165, 166, 167, 168, 169, 170, 171, 172, 173, 174, 175, 176, 177, 178, 179, 180, 181, 182, 183, 184, 185, 186, 187, 188, 189, 190, 191, 192, 193, 194, 195, 196, 197, 198, 199, 200, 201, 211, 212, 213, 214, 215, 216, 217, 218, 219, 220] (by decide +kernel) (by decide +kernel)
set_option maxRecDepth 20000 in
theorem gX3_text_X2_asString : GoodIn wsX3_text (wsV RX3 103 RX2 yX2_asString wsX2_asString) := goodIn_app (goodIn_of _ (by decide +kernel)) ggX3_text_X2_asString
theorem dX3_text_0 : decode cX3_text 0 = .ok (.iload_n 1, 1) := by decide +kernel
theorem dX3_text_1 : decode cX3_text 1 = .ok (.invokestatic 52, 3) := by decide +kernel
theorem dX3_text_4 : decode cX3_text 4 = .ok (.aload_n 0, 1) := by decide +kernel
theorem dX3_text_5 : decode cX3_text 5 = .ok (.getfield 11, 3) := by decide +kernel
theorem dX3_text_8 : decode cX3_text 8 = .ok (.iload_n 1, 1) := by decide +kernel
theorem dX3_text_9 : decode cX3_text 9 = .ok (.aaload, 1) := by decide +kernel
theorem dX3_text_10 : decode cX3_text 10 = .ok (.invokevirtual 103, 3) := by decide +kernel
theorem dX3_text_13 : decode cX3_text 13 = .ok (.areturn, 1) := by decide +kernel
set_option maxRecDepth 20000 in
theorem ggX3_order_X3_needRope : GoodIn wsX3_order wsX3_needRope := goodIn_ca (goodIn_r _ [5, 6, 7] (by decide +kernel) (by decide +kernel)) (goodIn_sub (fun _ h => List.mem_cons_of_mem _ (List.mem_append_right _ h)) (by decide +kernel))
set_option maxRecDepth 20000 in
theorem gX3_order_X3_needRope : GoodIn wsX3_order (va_wsS RX3 52 yX3_needRope wsX3_needRope) := goodIn_app (goodIn_of _ (by decide +kernel)) ggX3_order_X3_needRope
set_option maxRecDepth 20000 in
theorem ggX3_order_X2_compareWith : GoodIn wsX3_order wsX2_compareWith := goodIn_r _ [12, 13, 14, 24, 25] (by decide +kernel) (by decide +kernel)
set_option maxRecDepth 20000 in
theorem gX3_order_X2_compareWith : GoodIn wsX3_order (wsV RX3 107 RX2 yX2_compareWith wsX2_compareWith) := goodIn_app (goodIn_of _ (by decide +kernel)) ggX3_order_X2_compareWith
theorem dX3_order_0 : decode cX3_order 0 = .ok (.iload_n 1, 1) := by decide +kernel
theorem dX3_order_1 : decode cX3_order 1 = .ok (.invokestatic 52, 3) := by decide +kernel
theorem dX3_order_4 : decode cX3_order 4 = .ok (.iload_n 2, 1) := by decide +kernel
theorem dX3_order_5 : decode cX3_order 5 = .ok (.invokestatic 52, 3) := by decide +kernel
theorem dX3_order_8 : decode cX3_order 8 = .ok (.aload_n 0, 1) := by decide +kernel
theorem dX3_order_9 : decode cX3_order 9 = .ok (.getfield 11, 3) := by decide +kernel
theorem dX3_order_12 : decode cX3_order 12 = .ok (.iload_n 1, 1) := by decide +kernel
theorem dX3_order_13 : decode cX3_order 13 = .ok (.aaload, 1) := by decide +kernel
theorem dX3_order_14 : decode cX3_order 14 = .ok (.aload_n 0, 1) := by decide +kernel
theorem dX3_order_15 : decode cX3_order 15 = .ok (.getfield 11, 3) := by decide +kernel
theorem dX3_order_18 : decode cX3_order 18 = .ok (.iload_n 2, 1) := by decide +kernel
theorem dX3_order_19 : decode cX3_order 19 = .ok (.aaload, 1) := by decide +kernel
theorem dX3_order_20 : decode cX3_order 20 = .ok (.invokevirtual 107, 3) := by decide +kernel
theorem dX3_order_23 : decode cX3_order 23 = .ok (.ireturn, 1) := by decide +kernel
set_option maxRecDepth 20000 in
theorem ggX3_count_X3_needRope : GoodIn wsX3_count wsX3_needRope := goodIn_ca (goodIn_r _ [6, 7, 8] (by decide +kernel) (by decide +kernel)) (goodIn_sub (fun _ h => List.mem_cons_of_mem _ (List.mem_append_right _ h)) (by decide +kernel))
set_option maxRecDepth 20000 in
theorem gX3_count_X3_needRope : GoodIn wsX3_count (va_wsS RX3 52 yX3_needRope wsX3_needRope) := goodIn_app (goodIn_of _ (by decide +kernel)) ggX3_count_X3_needRope
set_option maxRecDepth 20000 in
theorem ggX3_count_X2_holds : GoodIn wsX3_count wsX2_holds := goodIn_r _ [13, 14, 15, 25, 26] (by decide +kernel) (by decide +kernel)
set_option maxRecDepth 20000 in
theorem gX3_count_X2_holds : GoodIn wsX3_count (wsV RX3 111 RX2 yX2_holds wsX2_holds) := goodIn_app (goodIn_of _ (by decide +kernel)) ggX3_count_X2_holds
theorem dX3_count_0 : decode cX3_count 0 = .ok (.iload_n 1, 1) := by decide +kernel
theorem dX3_count_1 : decode cX3_count 1 = .ok (.invokestatic 52, 3) := by decide +kernel
theorem dX3_count_4 : decode cX3_count 4 = .ok (.iload_n 2, 1) := by decide +kernel
theorem dX3_count_5 : decode cX3_count 5 = .ok (.invokestatic 52, 3) := by decide +kernel
theorem dX3_count_8 : decode cX3_count 8 = .ok (.iconst 0, 1) := by decide +kernel
theorem dX3_count_9 : decode cX3_count 9 = .ok (.istore_n 3, 1) := by decide +kernel
theorem dX3_count_10 : decode cX3_count 10 = .ok (.iconst 0, 1) := by decide +kernel
theorem dX3_count_11 : decode cX3_count 11 = .ok (.istore 4, 2) := by decide +kernel
theorem dX3_count_13 : decode cX3_count 13 = .ok (.iload 4, 2) := by decide +kernel
theorem dX3_count_15 : decode cX3_count 15 = .ok (.aload_n 0, 1) := by decide +kernel
theorem dX3_count_16 : decode cX3_count 16 = .ok (.getfield 11, 3) := by decide +kernel
theorem dX3_count_19 : decode cX3_count 19 = .ok (.iload_n 1, 1) := by decide +kernel
theorem dX3_count_20 : decode cX3_count 20 = .ok (.aaload, 1) := by decide +kernel
theorem dX3_count_21 : decode cX3_count 21 = .ok (.getfield 65, 3) := by decide +kernel
theorem dX3_count_24 : decode cX3_count 24 = .ok (.if_icmp .gt 32, 3) := by decide +kernel
theorem dX3_count_27 : decode cX3_count 27 = .ok (.aload_n 0, 1) := by decide +kernel
theorem dX3_count_28 : decode cX3_count 28 = .ok (.getfield 11, 3) := by decide +kernel
theorem dX3_count_31 : decode cX3_count 31 = .ok (.iload_n 1, 1) := by decide +kernel
theorem dX3_count_32 : decode cX3_count 32 = .ok (.aaload, 1) := by decide +kernel
theorem dX3_count_33 : decode cX3_count 33 = .ok (.aload_n 0, 1) := by decide +kernel
theorem dX3_count_34 : decode cX3_count 34 = .ok (.getfield 11, 3) := by decide +kernel
theorem dX3_count_37 : decode cX3_count 37 = .ok (.iload_n 2, 1) := by decide +kernel
theorem dX3_count_38 : decode cX3_count 38 = .ok (.aaload, 1) := by decide +kernel
theorem dX3_count_39 : decode cX3_count 39 = .ok (.iload 4, 2) := by decide +kernel
theorem dX3_count_41 : decode cX3_count 41 = .ok (.invokevirtual 111, 3) := by decide +kernel
theorem dX3_count_44 : decode cX3_count 44 = .ok (.ifCond .eq 6, 3) := by decide +kernel
theorem dX3_count_47 : decode cX3_count 47 = .ok (.iinc 3 1, 3) := by decide +kernel
theorem dX3_count_50 : decode cX3_count 50 = .ok (.iinc 4 1, 3) := by decide +kernel
theorem dX3_count_53 : decode cX3_count 53 = .ok (.goto (-40), 3) := by decide +kernel
theorem dX3_count_56 : decode cX3_count 56 = .ok (.iload_n 3, 1) := by decide +kernel
theorem dX3_count_57 : decode cX3_count 57 = .ok (.ireturn, 1) := by decide +kernel
set_option maxRecDepth 20000 in
theorem ggX3_find_X3_needRope : GoodIn wsX3_find wsX3_needRope := goodIn_ca (goodIn_r _ [6, 7, 8] (by decide +kernel) (by decide +kernel)) (goodIn_sub (fun _ h => List.mem_cons_of_mem _ (List.mem_append_right _ h)) (by decide +kernel))
set_option maxRecDepth 20000 in
theorem gX3_find_X3_needRope : GoodIn wsX3_find (va_wsS RX3 52 yX3_needRope wsX3_needRope) := goodIn_app (goodIn_of _ (by decide +kernel)) ggX3_find_X3_needRope
set_option maxRecDepth 20000 in
theorem ggX3_find_X2_holds : GoodIn wsX3_find wsX2_holds := goodIn_r _ [13, 14, 15, 25, 26] (by decide +kernel) (by decide +kernel)
set_option maxRecDepth 20000 in
theorem gX3_find_X2_holds : GoodIn wsX3_find (wsV RX3 111 RX2 yX2_holds wsX2_holds) := goodIn_app (goodIn_of _ (by decide +kernel)) ggX3_find_X2_holds
theorem dX3_find_0 : decode cX3_find 0 = .ok (.iload_n 1, 1) := by decide +kernel
theorem dX3_find_1 : decode cX3_find 1 = .ok (.invokestatic 52, 3) := by decide +kernel
theorem dX3_find_4 : decode cX3_find 4 = .ok (.iload_n 2, 1) := by decide +kernel
theorem dX3_find_5 : decode cX3_find 5 = .ok (.invokestatic 52, 3) := by decide +kernel
theorem dX3_find_8 : decode cX3_find 8 = .ok (.iconst (-1), 1) := by decide +kernel
theorem dX3_find_9 : decode cX3_find 9 = .ok (.istore 4, 2) := by decide +kernel
theorem dX3_find_11 : decode cX3_find 11 = .ok (.iconst 0, 1) := by decide +kernel
theorem dX3_find_12 : decode cX3_find 12 = .ok (.istore 5, 2) := by decide +kernel
theorem dX3_find_14 : decode cX3_find 14 = .ok (.iload 5, 2) := by decide +kernel
theorem dX3_find_16 : decode cX3_find 16 = .ok (.aload_n 0, 1) := by decide +kernel
theorem dX3_find_17 : decode cX3_find 17 = .ok (.getfield 11, 3) := by decide +kernel
theorem dX3_find_20 : decode cX3_find 20 = .ok (.iload_n 1, 1) := by decide +kernel
theorem dX3_find_21 : decode cX3_find 21 = .ok (.aaload, 1) := by decide +kernel
theorem dX3_find_22 : decode cX3_find 22 = .ok (.getfield 65, 3) := by decide +kernel
theorem dX3_find_25 : decode cX3_find 25 = .ok (.if_icmp .gt 55, 3) := by decide +kernel
theorem dX3_find_28 : decode cX3_find 28 = .ok (.iload_n 3, 1) := by decide +kernel
theorem dX3_find_29 : decode cX3_find 29 = .ok (.ifCond .ne 9, 3) := by decide +kernel
theorem dX3_find_32 : decode cX3_find 32 = .ok (.iload 4, 2) := by decide +kernel
theorem dX3_find_34 : decode cX3_find 34 = .ok (.iconst (-1), 1) := by decide +kernel
theorem dX3_find_35 : decode cX3_find 35 = .ok (.if_icmp .ne 7, 3) := by decide +kernel
theorem dX3_find_38 : decode cX3_find 38 = .ok (.iconst 1, 1) := by decide +kernel
theorem dX3_find_39 : decode cX3_find 39 = .ok (.goto 4, 3) := by decide +kernel
theorem dX3_find_43 : decode cX3_find 43 = .ok (.istore 6, 2) := by decide +kernel
theorem dX3_find_45 : decode cX3_find 45 = .ok (.iload 6, 2) := by decide +kernel
theorem dX3_find_47 : decode cX3_find 47 = .ok (.ifCond .eq 27, 3) := by decide +kernel
theorem dX3_find_50 : decode cX3_find 50 = .ok (.aload_n 0, 1) := by decide +kernel
theorem dX3_find_51 : decode cX3_find 51 = .ok (.getfield 11, 3) := by decide +kernel
theorem dX3_find_54 : decode cX3_find 54 = .ok (.iload_n 1, 1) := by decide +kernel
theorem dX3_find_55 : decode cX3_find 55 = .ok (.aaload, 1) := by decide +kernel
theorem dX3_find_56 : decode cX3_find 56 = .ok (.aload_n 0, 1) := by decide +kernel
theorem dX3_find_57 : decode cX3_find 57 = .ok (.getfield 11, 3) := by decide +kernel
theorem dX3_find_60 : decode cX3_find 60 = .ok (.iload_n 2, 1) := by decide +kernel
theorem dX3_find_61 : decode cX3_find 61 = .ok (.aaload, 1) := by decide +kernel
theorem dX3_find_62 : decode cX3_find 62 = .ok (.iload 5, 2) := by decide +kernel
theorem dX3_find_64 : decode cX3_find 64 = .ok (.invokevirtual 111, 3) := by decide +kernel
theorem dX3_find_67 : decode cX3_find 67 = .ok (.ifCond .eq 7, 3) := by decide +kernel
theorem dX3_find_70 : decode cX3_find 70 = .ok (.iload 5, 2) := by decide +kernel
theorem dX3_find_72 : decode cX3_find 72 = .ok (.istore 4, 2) := by decide +kernel
theorem dX3_find_74 : decode cX3_find 74 = .ok (.iinc 5 1, 3) := by decide +kernel
theorem dX3_find_77 : decode cX3_find 77 = .ok (.goto (-63), 3) := by decide +kernel
theorem dX3_find_80 : decode cX3_find 80 = .ok (.iload 4, 2) := by decide +kernel
theorem dX3_find_82 : decode cX3_find 82 = .ok (.ireturn, 1) := by decide +kernel
set_option maxRecDepth 20000 in
theorem ggX3_rule_X3_needRope : GoodIn wsX3_rule wsX3_needRope := goodIn_ca (goodIn_r _ [5, 6, 7] (by decide +kernel) (by decide +kernel)) (goodIn_sub (fun _ h => List.mem_cons_of_mem _ (List.mem_append_right _ h)) (by decide +kernel))
set_option maxRecDepth 20000 in
theorem gX3_rule_X3_needRope : GoodIn wsX3_rule (va_wsS RX3 52 yX3_needRope wsX3_needRope) := goodIn_app (goodIn_of _ (by decide +kernel)) ggX3_rule_X3_needRope
set_option maxRecDepth 20000 in
theorem ggX3_rule_X3_addRule : GoodIn wsX3_rule wsX3_addRule := goodIn_r _ [11, 12, 13, 14, 15, 16, 17, 4, 18, 19, 20, 21, 22, 23, 24, 25, 26, 27, 28, 29, 30, 31, 32, 33, 34, 35, 36, 37, 38, 39, 49, 50, 40, 41, 42, 43, 44, 45, 46, 47, 48, 51, 52, 53, 54, 55, 56, 57, 58] (by decide +kernel) (by decide +kernel)
set_option maxRecDepth 20000 in
theorem gX3_rule_X3_addRule : GoodIn wsX3_rule (wsV RX3 115 RX3 yX3_addRule wsX3_addRule) := goodIn_app (goodIn_of _ (by decide +kernel)) ggX3_rule_X3_addRule
theorem dX3_rule_0 : decode cX3_rule 0 = .ok (.iload_n 1, 1) := by decide +kernel
theorem dX3_rule_1 : decode cX3_rule 1 = .ok (.invokestatic 52, 3) := by decide +kernel
theorem dX3_rule_4 : decode cX3_rule 4 = .ok (.iload_n 2, 1) := by decide +kernel
theorem dX3_rule_5 : decode cX3_rule 5 = .ok (.invokestatic 52, 3) := by decide +kernel
theorem dX3_rule_8 : decode cX3_rule 8 = .ok (.aload_n 0, 1) := by decide +kernel
theorem dX3_rule_9 : decode cX3_rule 9 = .ok (.aload_n 0, 1) := by decide +kernel
theorem dX3_rule_10 : decode cX3_rule 10 = .ok (.getfield 11, 3) := by decide +kernel
theorem dX3_rule_13 : decode cX3_rule 13 = .ok (.iload_n 1, 1) := by decide +kernel
theorem dX3_rule_14 : decode cX3_rule 14 = .ok (.aaload, 1) := by decide +kernel
theorem dX3_rule_15 : decode cX3_rule 15 = .ok (.aload_n 0, 1) := by decide +kernel
theorem dX3_rule_16 : decode cX3_rule 16 = .ok (.getfield 11, 3) := by decide +kernel
theorem dX3_rule_19 : decode cX3_rule 19 = .ok (.iload_n 2, 1) := by decide +kernel
theorem dX3_rule_20 : decode cX3_rule 20 = .ok (.aaload, 1) := by decide +kernel
theorem dX3_rule_21 : decode cX3_rule 21 = .ok (.invokevirtual 115, 3) := by decide +kernel
theorem dX3_rule_24 : decode cX3_rule 24 = .ok (.ireturn, 1) := by decide +kernel
set_option maxRecDepth 20000 in
theorem ggX3_falling_X3_needRope : GoodIn wsX3_falling wsX3_needRope := goodIn_ca (goodIn_r _ [5, 6, 7] (by decide +kernel) (by decide +kernel)) (goodIn_sub (fun _ h => List.mem_cons_of_mem _ (List.mem_append_right _ h)) (by decide +kernel))
set_option maxRecDepth 20000 in
theorem gX3_falling_X3_needRope : GoodIn wsX3_falling (va_wsS RX3 52 yX3_needRope wsX3_needRope) := goodIn_app (goodIn_of _ (by decide +kernel)) ggX3_falling_X3_needRope
set_option maxRecDepth 20000 in
theorem ggX3_falling_X3_addFallingRule : GoodIn wsX3_falling wsX3_addFallingRule := goodIn_r _ [11, 12, 13, 14, 15, 16, 17, 18, 19, 20, 21, 4, 22, 23, 24, 25, 26, 27, 28, 29, 30, 31, 32, 33, 34, 35, 36, 37, 38, 39, 40, 41, 42, 43, 44, 45, 46, 47, 57, 58, 48, 49, 50, 51, 52, 53, 54, 55, 56, 59, 60, 61, 62, 63, 64, 65, 66] (by decide +kernel) (by decide +kernel)
set_option maxRecDepth 20000 in
theorem gX3_falling_X3_addFallingRule : GoodIn wsX3_falling (wsV RX3 119 RX3 yX3_addFallingRule wsX3_addFallingRule) := goodIn_app (goodIn_of _ (by decide +kernel)) ggX3_falling_X3_addFallingRule
theorem dX3_falling_0 : decode cX3_falling 0 = .ok (.iload_n 1, 1) := by decide +kernel
theorem dX3_falling_1 : decode cX3_falling 1 = .ok (.invokestatic 52, 3) := by decide +kernel
theorem dX3_falling_4 : decode cX3_falling 4 = .ok (.iload_n 2, 1) := by decide +kernel
theorem dX3_falling_5 : decode cX3_falling 5 = .ok (.invokestatic 52, 3) := by decide +kernel
theorem dX3_falling_8 : decode cX3_falling 8 = .ok (.aload_n 0, 1) := by decide +kernel
theorem dX3_falling_9 : decode cX3_falling 9 = .ok (.aload_n 0, 1) := by decide +kernel
theorem dX3_falling_10 : decode cX3_falling 10 = .ok (.getfield 11, 3) := by decide +kernel
theorem dX3_falling_13 : decode cX3_falling 13 = .ok (.iload_n 1, 1) := by decide +kernel
theorem dX3_falling_14 : decode cX3_falling 14 = .ok (.aaload, 1) := by decide +kernel
theorem dX3_falling_15 : decode cX3_falling 15 = .ok (.aload_n 0, 1) := by decide +kernel
theorem dX3_falling_16 : decode cX3_falling 16 = .ok (.getfield 11, 3) := by decide +kernel
theorem dX3_falling_19 : decode cX3_falling 19 = .ok (.iload_n 2, 1) := by decide +kernel
theorem dX3_falling_20 : decode cX3_falling 20 = .ok (.aaload, 1) := by decide +kernel
theorem dX3_falling_21 : decode cX3_falling 21 = .ok (.invokevirtual 119, 3) := by decide +kernel
theorem dX3_falling_24 : decode cX3_falling 24 = .ok (.ireturn, 1) := by decide +kernel
set_option maxRecDepth 20000 in
theorem ggX3_drop_X3_needRule : GoodIn wsX3_drop wsX3_needRule := goodIn_ca (goodIn_r _ [7, 8, 9, 1, 2, 30, 31, 32, 33, 34, 35, 36, 37, 38, 39, 40, 41, 42, 43, 44, 45, 46] (by decide +kernel) (by decide +kernel)) (goodIn_sub (fun _ h => List.mem_cons_of_mem _ (List.mem_append_right _ h)) (by decide +kernel))
set_option maxRecDepth 20000 in
theorem gX3_drop_X3_needRule : GoodIn wsX3_drop (wsV RX3 122 RX3 yX3_needRule wsX3_needRule) := goodIn_app (goodIn_of _ (by decide +kernel)) ggX3_drop_X3_needRule
theorem dX3_drop_0 : decode cX3_drop 0 = .ok (.aload_n 0, 1) := by decide +kernel
theorem dX3_drop_1 : decode cX3_drop 1 = .ok (.iload_n 1, 1) := by decide +kernel
theorem dX3_drop_2 : decode cX3_drop 2 = .ok (.invokevirtual 122, 3) := by decide +kernel
set_option maxRecDepth 20000 in
theorem ggX3_noRules_X1_takeAllOut : GoodIn wsX3_noRules wsX1_takeAllOut := goodIn_r _ [7, 8, 9, 19, 20, 21, 22, 23, 24, 25, 26] (by decide +kernel) (by decide +kernel)
set_option maxRecDepth 20000 in
theorem gX3_noRules_X1_takeAllOut : GoodIn wsX3_noRules (wsV RX3 131 RX1 yX1_takeAllOut wsX1_takeAllOut) := goodIn_app (goodIn_of _ (by decide +kernel)) ggX3_noRules_X1_takeAllOut
theorem dX3_noRules_0 : decode cX3_noRules 0 = .ok (.aload_n 0, 1) := by decide +kernel
theorem dX3_noRules_1 : decode cX3_noRules 1 = .ok (.getfield 18, 3) := by decide +kernel
theorem dX3_noRules_4 : decode cX3_noRules 4 = .ok (.getfield 128, 3) := by decide +kernel
theorem dX3_noRules_7 : decode cX3_noRules 7 = .ok (.istore_n 1, 1) := by decide +kernel
theorem dX3_noRules_8 : decode cX3_noRules 8 = .ok (.aload_n 0, 1) := by decide +kernel
theorem dX3_noRules_9 : decode cX3_noRules 9 = .ok (.getfield 18, 3) := by decide +kernel
theorem dX3_noRules_12 : decode cX3_noRules 12 = .ok (.invokevirtual 131, 3) := by decide +kernel
theorem dX3_noRules_15 : decode cX3_noRules 15 = .ok (.iload_n 1, 1) := by decide +kernel
theorem dX3_noRules_16 : decode cX3_noRules 16 = .ok (.ireturn, 1) := by decide +kernel
set_option maxRecDepth 20000 in
theorem ggX3_flip_X3_needRule : GoodIn wsX3_flip wsX3_needRule := goodIn_ca (goodIn_r _ [8, 9, 10, 1, 11, 45, 46, 47, 48, 49, 50, 51, 52, 53, 54, 55, 56, 57, 58, 59, 60, 61] (by decide +kernel) (by decide +kernel)) (goodIn_sub (fun _ h => List.mem_cons_of_mem _ (List.mem_append_right _ h)) (by decide +kernel))
set_option maxRecDepth 20000 in
theorem gX3_flip_X3_needRule : GoodIn wsX3_flip (wsV RX3 122 RX3 yX3_needRule wsX3_needRule) := goodIn_app (goodIn_of _ (by decide +kernel)) ggX3_flip_X3_needRule
theorem dX3_flip_0 : decode cX3_flip 0 = .ok (.aload_n 0, 1) := by decide +kernel
theorem dX3_flip_1 : decode cX3_flip 1 = .ok (.iload_n 1, 1) := by decide +kernel
theorem dX3_flip_2 : decode cX3_flip 2 = .ok (.invokevirtual 122, 3) := by decide +kernel
set_option maxRecDepth 20000 in
theorem ggX3_side_X3_needRope : GoodIn wsX3_side wsX3_needRope := goodIn_ca (goodIn_r _ [9, 10, 11] (by decide +kernel) (by decide +kernel)) (goodIn_sub (fun _ h => List.mem_cons_of_mem _ (List.mem_append_right _ h)) (by decide +kernel))
set_option maxRecDepth 20000 in
theorem gX3_side_X3_needRope : GoodIn wsX3_side (va_wsS RX3 52 yX3_needRope wsX3_needRope) := goodIn_app (goodIn_of _ (by decide +kernel)) ggX3_side_X3_needRope
set_option maxRecDepth 20000 in
theorem ggX3_side_X3_needRule : GoodIn wsX3_side wsX3_needRule := goodIn_ca (goodIn_r _ [15, 10, 11, 2, 16, 28, 29, 30, 31, 32, 33, 34, 35, 36, 37, 38, 39, 40, 41, 42, 43, 44] (by decide +kernel) (by decide +kernel)) (goodIn_sub (fun _ h => List.mem_cons_of_mem _ (List.mem_append_right _ h)) (by decide +kernel))
set_option maxRecDepth 20000 in
theorem gX3_side_X3_needRule : GoodIn wsX3_side (wsV RX3 122 RX3 yX3_needRule wsX3_needRule) := goodIn_app (goodIn_of _ (by decide +kernel)) ggX3_side_X3_needRule
theorem dX3_side_0 : decode cX3_side 0 = .ok (.iload_n 1, 1) := by decide +kernel
theorem dX3_side_1 : decode cX3_side 1 = .ok (.invokestatic 52, 3) := by decide +kernel
theorem dX3_side_4 : decode cX3_side 4 = .ok (.aload_n 0, 1) := by decide +kernel
theorem dX3_side_5 : decode cX3_side 5 = .ok (.iload_n 2, 1) := by decide +kernel
theorem dX3_side_6 : decode cX3_side 6 = .ok (.invokevirtual 122, 3) := by decide +kernel
theorem dX3_rules_0 : decode cX3_rules 0 = .ok (.aload_n 0, 1) := by decide +kernel
theorem dX3_rules_1 : decode cX3_rules 1 = .ok (.getfield 18, 3) := by decide +kernel
theorem dX3_rules_4 : decode cX3_rules 4 = .ok (.getfield 128, 3) := by decide +kernel
theorem dX3_rules_7 : decode cX3_rules 7 = .ok (.ireturn, 1) := by decide +kernel
set_option maxRecDepth 20000 in
theorem ggX3_ruleText_X3_needRule : GoodIn wsX3_ruleText wsX3_needRule := goodIn_ca (goodIn_r _ [11, 12, 13, 4, 14, 207, 208, 209, 210, 211, 212, 213, 214, 215, 216, 217, 218, 219, 220, 221, 222, 223] (by decide +kernel) (by decide +kernel)) (goodIn_sub (fun _ h => List.mem_cons_of_mem _ (List.mem_append_right _ h)) (by decide +kernel))
set_option maxRecDepth 20000 in
theorem gX3_ruleText_X3_needRule : GoodIn wsX3_ruleText (wsV RX3 122 RX3 yX3_needRule wsX3_needRule) := goodIn_app (goodIn_of _ (by decide +kernel)) ggX3_ruleText_X3_needRule
theorem dX3_ruleText_0 : decode cX3_ruleText 0 = .ok (.aload_n 0, 1) := by decide +kernel
theorem dX3_ruleText_1 : decode cX3_ruleText 1 = .ok (.iload_n 1, 1) := by decide +kernel
theorem dX3_ruleText_2 : decode cX3_ruleText 2 = .ok (.invokevirtual 122, 3) := by decide +kernel
set_option maxRecDepth 20000 in
theorem ggX3_falls_X3_needRule : GoodIn wsX3_falls wsX3_needRule := goodIn_ca (goodIn_r _ [6, 7, 8, 1, 9, 24, 25, 26, 27, 28, 29, 30, 31, 32, 33, 34, 35, 36, 37, 38, 39, 40] (by decide +kernel) (by decide +kernel)) (goodIn_sub (fun _ h => List.mem_cons_of_mem _ (List.mem_append_right _ h)) (by decide +kernel))
set_option maxRecDepth 20000 in
theorem gX3_falls_X3_needRule : GoodIn wsX3_falls (wsV RX3 122 RX3 yX3_needRule wsX3_needRule) := goodIn_app (goodIn_of _ (by decide +kernel)) ggX3_falls_X3_needRule
theorem dX3_falls_0 : decode cX3_falls 0 = .ok (.aload_n 0, 1) := by decide +kernel
theorem dX3_falls_1 : decode cX3_falls 1 = .ok (.iload_n 1, 1) := by decide +kernel
theorem dX3_falls_2 : decode cX3_falls 2 = .ok (.invokevirtual 122, 3) := by decide +kernel
set_option maxRecDepth 20000 in
theorem ggX3_areFalling_X1_areAllFalling : GoodIn wsX3_areFalling wsX1_areAllFalling := goodIn_r _ [6, 7, 8, 9, 10, 5, 11, 12, 13, 14, 15, 16, 17, 18, 19, 20, 30, 31, 32, 33, 34, 35, 36, 37, 38, 39] (by decide +kernel) (by decide +kernel)
set_option maxRecDepth 20000 in
theorem gX3_areFalling_X1_areAllFalling : GoodIn wsX3_areFalling (wsV RX3 161 RX1 yX1_areAllFalling wsX1_areAllFalling) := goodIn_app (goodIn_of _ (by decide +kernel)) ggX3_areFalling_X1_areAllFalling
theorem dX3_areFalling_0 : decode cX3_areFalling 0 = .ok (.aload_n 0, 1) := by decide +kernel
theorem dX3_areFalling_1 : decode cX3_areFalling 1 = .ok (.getfield 18, 3) := by decide +kernel
theorem dX3_areFalling_4 : decode cX3_areFalling 4 = .ok (.invokevirtual 161, 3) := by decide +kernel
theorem dX3_areFalling_7 : decode cX3_areFalling 7 = .ok (.ireturn, 1) := by decide +kernel
set_option maxRecDepth 20000 in
theorem ggX3_step_X3_needRope : GoodIn wsX3_step wsX3_needRope := goodIn_ca (goodIn_r _ [6, 7, 8] (by decide +kernel) (by decide +kernel)) (goodIn_sub (fun _ h => List.mem_cons_of_mem _ (List.mem_append_left _ (List.mem_append_right _ h))) (by decide +kernel))
set_option maxRecDepth 20000 in
theorem gX3_step_X3_needRope : GoodIn wsX3_step (va_wsS RX3 52 yX3_needRope wsX3_needRope) := goodIn_app (goodIn_of _ (by decide +kernel)) ggX3_step_X3_needRope
set_option maxRecDepth 20000 in
theorem ggX3_step_X3_needWay : GoodIn wsX3_step wsX3_needWay := goodIn_ca (goodIn_r _ [11, 12, 13] (by decide +kernel) (by decide +kernel)) (goodIn_sub (fun _ h => List.mem_cons_of_mem _ (List.mem_append_right _ h)) (by decide +kernel))
set_option maxRecDepth 20000 in
theorem gX3_step_X3_needWay : GoodIn wsX3_step (va_wsS RX3 165 yX3_needWay wsX3_needWay) := goodIn_app (goodIn_of _ (by decide +kernel)) ggX3_step_X3_needWay
set_option maxRecDepth 20000 in
theorem ggX3_step_X1_spotByWay : GoodIn wsX3_step wsX1_spotByWay := goodIn_r _ [18, 19, 20, 21, 17, 22, 23, 24, 25, 26, 27, 28, 29, 30, 31, 32, 33, 34, 35, 36, 37, 38, 39, 40, 41, 42, 43, 44, 45, 46, 84, 85, 86, 87, 88, 89, 90, 91, 92, 93] (by decide +kernel) (by decide +kernel)
set_option maxRecDepth 20000 in
theorem gX3_step_X1_spotByWay : GoodIn wsX3_step (wsV RX3 168 RX1 yX1_spotByWay wsX1_spotByWay) := goodIn_app (goodIn_of _ (by decide +kernel)) ggX3_step_X1_spotByWay
theorem dX3_step_0 : decode cX3_step 0 = .ok (.iload_n 1, 1) := by decide +kernel
theorem dX3_step_1 : decode cX3_step 1 = .ok (.invokestatic 52, 3) := by decide +kernel
theorem dX3_step_4 : decode cX3_step 4 = .ok (.iload_n 2, 1) := by decide +kernel
theorem dX3_step_5 : decode cX3_step 5 = .ok (.invokestatic 165, 3) := by decide +kernel
theorem dX3_step_8 : decode cX3_step 8 = .ok (.aload_n 0, 1) := by decide +kernel
theorem dX3_step_9 : decode cX3_step 9 = .ok (.getfield 18, 3) := by decide +kernel
theorem dX3_step_12 : decode cX3_step 12 = .ok (.aload_n 0, 1) := by decide +kernel
theorem dX3_step_13 : decode cX3_step 13 = .ok (.getfield 11, 3) := by decide +kernel
theorem dX3_step_16 : decode cX3_step 16 = .ok (.iload_n 1, 1) := by decide +kernel
theorem dX3_step_17 : decode cX3_step 17 = .ok (.aaload, 1) := by decide +kernel
theorem dX3_step_18 : decode cX3_step 18 = .ok (.iload_n 2, 1) := by decide +kernel
theorem dX3_step_19 : decode cX3_step 19 = .ok (.invokevirtual 168, 3) := by decide +kernel
theorem dX3_step_22 : decode cX3_step 22 = .ok (.istore_n 3, 1) := by decide +kernel
theorem dX3_step_23 : decode cX3_step 23 = .ok (.iload_n 3, 1) := by decide +kernel
theorem dX3_step_24 : decode cX3_step 24 = .ok (.iconst (-1), 1) := by decide +kernel
theorem dX3_step_25 : decode cX3_step 25 = .ok (.if_icmp .ne 5, 3) := by decide +kernel
theorem dX3_step_28 : decode cX3_step 28 = .ok (.iconst (-1), 1) := by decide +kernel
theorem dX3_step_29 : decode cX3_step 29 = .ok (.ireturn, 1) := by decide +kernel
set_option maxRecDepth 20000 in
theorem ggX3_run_X3_needRope : GoodIn wsX3_run wsX3_needRope := goodIn_ca (goodIn_r _ [9, 10, 11] (by decide +kernel) (by decide +kernel)) (goodIn_sub (fun _ h => List.mem_cons_of_mem _ (List.mem_append_right _ h)) (by decide +kernel))
set_option maxRecDepth 20000 in
theorem gX3_run_X3_needRope : GoodIn wsX3_run (va_wsS RX3 52 yX3_needRope wsX3_needRope) := goodIn_app (goodIn_of _ (by decide +kernel)) ggX3_run_X3_needRope
set_option maxRecDepth 20000 in
theorem ggX3_run_X3_needWay : GoodIn wsX3_run wsX3_needWay := goodIn_ca (goodIn_r _ [14, 1, 2] (by decide +kernel) (by decide +kernel)) (goodIn_sub (fun _ h => List.mem_cons_of_mem _ (List.mem_append_left _ (List.mem_append_right _ h))) (by decide +kernel))
set_option maxRecDepth 20000 in
theorem gX3_run_X3_needWay : GoodIn wsX3_run (va_wsS RX3 165 yX3_needWay wsX3_needWay) := goodIn_app (goodIn_of _ (by decide +kernel)) ggX3_run_X3_needWay
set_option maxRecDepth 20000 in
theorem ggX3_run_X1_rewriteByWay : GoodIn wsX3_run wsX1_rewriteByWay := goodIn_r _ [19, 20, 21, 22, 18, 23, 24, 25, 26, 27, 28, 29, 30, 31, 32, 33, 34, 35, 36, 37, 38, 39, 40, 41, 42, 43, 44, 45, 46, 47, 48, 49, 50, 51, 52, 53, 54, 55, 56, 57, 58, 59, 60, 61, 62, 63, 64, 65, 66, 67, 68, 78, 79, 80, 81, 82, 83, 84, 85, 86, 87] (by decide +kernel) (by decide +kernel)
set_option maxRecDepth 20000 in
theorem gX3_run_X1_rewriteByWay : GoodIn wsX3_run (wsV RX3 182 RX1 yX1_rewriteByWay wsX1_rewriteByWay) := goodIn_app (goodIn_of _ (by decide +kernel)) ggX3_run_X1_rewriteByWay
theorem dX3_run_0 : decode cX3_run 0 = .ok (.iload_n 1, 1) := by decide +kernel
theorem dX3_run_1 : decode cX3_run 1 = .ok (.invokestatic 52, 3) := by decide +kernel
theorem dX3_run_4 : decode cX3_run 4 = .ok (.iload_n 2, 1) := by decide +kernel
theorem dX3_run_5 : decode cX3_run 5 = .ok (.invokestatic 165, 3) := by decide +kernel
theorem dX3_run_8 : decode cX3_run 8 = .ok (.iload_n 3, 1) := by decide +kernel
theorem dX3_run_9 : decode cX3_run 9 = .ok (.iconst 1, 1) := by decide +kernel
theorem dX3_run_10 : decode cX3_run 10 = .ok (.if_icmp .lt 9, 3) := by decide +kernel
theorem dX3_run_13 : decode cX3_run 13 = .ok (.iload_n 3, 1) := by decide +kernel
theorem dX3_run_14 : decode cX3_run 14 = .ok (.bipush 40, 2) := by decide +kernel
theorem dX3_run_16 : decode cX3_run 16 = .ok (.if_icmp .le 13, 3) := by decide +kernel
theorem dX3_run_19 : decode cX3_run 19 = .ok (.new 95, 3) := by decide +kernel
theorem dX3_run_22 : decode cX3_run 22 = .ok (.dup, 1) := by decide +kernel
theorem dX3_run_23 : decode cX3_run 23 = .ok (.ldc 180, 2) := by decide +kernel
theorem dX3_run_25 : decode cX3_run 25 = .ok (.invokespecial 99, 3) := by decide +kernel
theorem dX3_run_28 : decode cX3_run 28 = .ok (.athrow, 1) := by decide +kernel
theorem dX3_run_29 : decode cX3_run 29 = .ok (.aload_n 0, 1) := by decide +kernel
theorem dX3_run_30 : decode cX3_run 30 = .ok (.getfield 18, 3) := by decide +kernel
theorem dX3_run_33 : decode cX3_run 33 = .ok (.aload_n 0, 1) := by decide +kernel
theorem dX3_run_34 : decode cX3_run 34 = .ok (.getfield 11, 3) := by decide +kernel
theorem dX3_run_37 : decode cX3_run 37 = .ok (.iload_n 1, 1) := by decide +kernel
theorem dX3_run_38 : decode cX3_run 38 = .ok (.aaload, 1) := by decide +kernel
theorem dX3_run_39 : decode cX3_run 39 = .ok (.iload_n 2, 1) := by decide +kernel
theorem dX3_run_40 : decode cX3_run 40 = .ok (.iload_n 3, 1) := by decide +kernel
theorem dX3_run_41 : decode cX3_run 41 = .ok (.invokevirtual 182, 3) := by decide +kernel
theorem dX3_run_44 : decode cX3_run 44 = .ok (.istore 4, 2) := by decide +kernel
theorem dX3_run_46 : decode cX3_run 46 = .ok (.aload_n 0, 1) := by decide +kernel
theorem dX3_run_47 : decode cX3_run 47 = .ok (.dup, 1) := by decide +kernel
theorem dX3_run_48 : decode cX3_run 48 = .ok (.getfield 49, 3) := by decide +kernel
theorem dX3_run_51 : decode cX3_run 51 = .ok (.iload 4, 2) := by decide +kernel
theorem dX3_run_53 : decode cX3_run 53 = .ok (.iadd, 1) := by decide +kernel
theorem dX3_run_54 : decode cX3_run 54 = .ok (.putfield 49, 3) := by decide +kernel
theorem dX3_run_57 : decode cX3_run 57 = .ok (.iload 4, 2) := by decide +kernel
theorem dX3_run_59 : decode cX3_run 59 = .ok (.ireturn, 1) := by decide +kernel
set_option maxRecDepth 20000 in
theorem ggX3_pick_X3_needRope : GoodIn wsX3_pick wsX3_needRope := goodIn_ca (goodIn_r _ [7, 8, 9] (by decide +kernel) (by decide +kernel)) (goodIn_sub (fun _ h => List.mem_cons_of_mem _ (List.mem_append_right _ h)) (by decide +kernel))
set_option maxRecDepth 20000 in
theorem gX3_pick_X3_needRope : GoodIn wsX3_pick (va_wsS RX3 52 yX3_needRope wsX3_needRope) := goodIn_app (goodIn_of _ (by decide +kernel)) ggX3_pick_X3_needRope
set_option maxRecDepth 20000 in
theorem ggX3_pick_X1_spotOfNumber : GoodIn wsX3_pick wsX1_spotOfNumber := goodIn_r _ [14, 15, 16, 17, 18, 13, 19, 20, 21, 22, 23, 24, 25, 26, 27, 28, 29, 30, 31, 32, 33, 34, 71, 72, 73, 74, 75, 76, 77, 78, 79, 80] (by decide +kernel) (by decide +kernel)
set_option maxRecDepth 20000 in
theorem gX3_pick_X1_spotOfNumber : GoodIn wsX3_pick (wsV RX3 186 RX1 yX1_spotOfNumber wsX1_spotOfNumber) := goodIn_app (goodIn_of _ (by decide +kernel)) ggX3_pick_X1_spotOfNumber
set_option maxRecDepth 20000 in
theorem ggX3_pick_X3_refuse : GoodIn wsX3_pick wsX3_refuse := goodIn_r _ [38, 39, 62, 63, 64, 65, 66, 67, 68, 69, 70] (by decide +kernel) (by decide +kernel)
set_option maxRecDepth 20000 in
theorem gX3_pick_X3_refuse : GoodIn wsX3_pick (wsV RX3 87 RX3 yX3_refuse wsX3_refuse) := goodIn_app (goodIn_of _ (by decide +kernel)) ggX3_pick_X3_refuse
theorem dX3_pick_0 : decode cX3_pick 0 = .ok (.iload_n 1, 1) := by decide +kernel
theorem dX3_pick_1 : decode cX3_pick 1 = .ok (.invokestatic 52, 3) := by decide +kernel
theorem dX3_pick_4 : decode cX3_pick 4 = .ok (.aload_n 0, 1) := by decide +kernel
theorem dX3_pick_5 : decode cX3_pick 5 = .ok (.getfield 18, 3) := by decide +kernel
theorem dX3_pick_8 : decode cX3_pick 8 = .ok (.aload_n 0, 1) := by decide +kernel
theorem dX3_pick_9 : decode cX3_pick 9 = .ok (.getfield 11, 3) := by decide +kernel
theorem dX3_pick_12 : decode cX3_pick 12 = .ok (.iload_n 1, 1) := by decide +kernel
theorem dX3_pick_13 : decode cX3_pick 13 = .ok (.aaload, 1) := by decide +kernel
theorem dX3_pick_14 : decode cX3_pick 14 = .ok (.iload_n 2, 1) := by decide +kernel
theorem dX3_pick_15 : decode cX3_pick 15 = .ok (.invokevirtual 186, 3) := by decide +kernel
theorem dX3_pick_18 : decode cX3_pick 18 = .ok (.istore_n 3, 1) := by decide +kernel
theorem dX3_pick_19 : decode cX3_pick 19 = .ok (.iload_n 3, 1) := by decide +kernel
theorem dX3_pick_20 : decode cX3_pick 20 = .ok (.iconst (-1), 1) := by decide +kernel
theorem dX3_pick_21 : decode cX3_pick 21 = .ok (.if_icmp .ne 8, 3) := by decide +kernel
theorem dX3_pick_24 : decode cX3_pick 24 = .ok (.aload_n 0, 1) := by decide +kernel
theorem dX3_pick_25 : decode cX3_pick 25 = .ok (.invokevirtual 87, 3) := by decide +kernel
theorem dX3_pick_28 : decode cX3_pick 28 = .ok (.ireturn, 1) := by decide +kernel
set_option maxRecDepth 20000 in
theorem ggX3_unwind_X3_needRope : GoodIn wsX3_unwind wsX3_needRope := goodIn_ca (goodIn_r _ [9, 10, 11] (by decide +kernel) (by decide +kernel)) (goodIn_sub (fun _ h => List.mem_cons_of_mem _ (List.mem_append_right _ h)) (by decide +kernel))
set_option maxRecDepth 20000 in
theorem gX3_unwind_X3_needRope : GoodIn wsX3_unwind (va_wsS RX3 52 yX3_needRope wsX3_needRope) := goodIn_app (goodIn_of _ (by decide +kernel)) ggX3_unwind_X3_needRope
set_option maxRecDepth 20000 in
theorem ggX3_unwind_X3_needRule : GoodIn wsX3_unwind wsX3_needRule := goodIn_ca (goodIn_r _ [15, 10, 11, 2, 16, 41, 42, 43, 44, 45, 46, 47, 48, 49, 50, 51, 52, 53, 54, 55, 56, 57] (by decide +kernel) (by decide +kernel)) (goodIn_sub (fun _ h => List.mem_cons_of_mem _ (List.mem_append_right _ h)) (by decide +kernel))
set_option maxRecDepth 20000 in
theorem gX3_unwind_X3_needRule : GoodIn wsX3_unwind (wsV RX3 122 RX3 yX3_needRule wsX3_needRule) := goodIn_app (goodIn_of _ (by decide +kernel)) ggX3_unwind_X3_needRule
theorem dX3_unwind_0 : decode cX3_unwind 0 = .ok (.iload_n 1, 1) := by decide +kernel
theorem dX3_unwind_1 : decode cX3_unwind 1 = .ok (.invokestatic 52, 3) := by decide +kernel
theorem dX3_unwind_4 : decode cX3_unwind 4 = .ok (.aload_n 0, 1) := by decide +kernel
theorem dX3_unwind_5 : decode cX3_unwind 5 = .ok (.iload_n 2, 1) := by decide +kernel
theorem dX3_unwind_6 : decode cX3_unwind 6 = .ok (.invokevirtual 122, 3) := by decide +kernel
set_option maxRecDepth 20000 in
theorem ggX3_spots_X3_needRope : GoodIn wsX3_spots wsX3_needRope := goodIn_ca (goodIn_r _ [6, 7, 8] (by decide +kernel) (by decide +kernel)) (goodIn_sub (fun _ h => List.mem_cons_of_mem _ (List.mem_append_right _ h)) (by decide +kernel))
set_option maxRecDepth 20000 in
theorem gX3_spots_X3_needRope : GoodIn wsX3_spots (va_wsS RX3 52 yX3_needRope wsX3_needRope) := goodIn_app (goodIn_of _ (by decide +kernel)) ggX3_spots_X3_needRope
set_option maxRecDepth 20000 in
theorem ggX3_spots_X1_countSpots : GoodIn wsX3_spots wsX1_countSpots := goodIn_r _ [13, 14, 15, 16, 17, 18, 19, 20, 21, 22, 23, 33, 34, 35, 36, 37, 38, 39, 40, 41, 42] (by decide +kernel) (by decide +kernel)
set_option maxRecDepth 20000 in
theorem gX3_spots_X1_countSpots : GoodIn wsX3_spots (wsV RX3 192 RX1 yX1_countSpots wsX1_countSpots) := goodIn_app (goodIn_of _ (by decide +kernel)) ggX3_spots_X1_countSpots
theorem dX3_spots_0 : decode cX3_spots 0 = .ok (.iload_n 1, 1) := by decide +kernel
theorem dX3_spots_1 : decode cX3_spots 1 = .ok (.invokestatic 52, 3) := by decide +kernel
theorem dX3_spots_4 : decode cX3_spots 4 = .ok (.aload_n 0, 1) := by decide +kernel
theorem dX3_spots_5 : decode cX3_spots 5 = .ok (.getfield 18, 3) := by decide +kernel
theorem dX3_spots_8 : decode cX3_spots 8 = .ok (.aload_n 0, 1) := by decide +kernel
theorem dX3_spots_9 : decode cX3_spots 9 = .ok (.getfield 11, 3) := by decide +kernel
theorem dX3_spots_12 : decode cX3_spots 12 = .ok (.iload_n 1, 1) := by decide +kernel
theorem dX3_spots_13 : decode cX3_spots 13 = .ok (.aaload, 1) := by decide +kernel
theorem dX3_spots_14 : decode cX3_spots 14 = .ok (.invokevirtual 192, 3) := by decide +kernel
theorem dX3_spots_17 : decode cX3_spots 17 = .ok (.ireturn, 1) := by decide +kernel
set_option maxRecDepth 20000 in
theorem ggX3_spot_X3_needRope : GoodIn wsX3_spot wsX3_needRope := goodIn_ca (goodIn_r _ [10, 11, 12] (by decide +kernel) (by decide +kernel)) (goodIn_sub (fun _ h => List.mem_cons_of_mem _ (List.mem_append_right _ h)) (by decide +kernel))
set_option maxRecDepth 20000 in
theorem gX3_spot_X3_needRope : GoodIn wsX3_spot (va_wsS RX3 52 yX3_needRope wsX3_needRope) := goodIn_app (goodIn_of _ (by decide +kernel)) ggX3_spot_X3_needRope
set_option maxRecDepth 20000 in
theorem ggX3_spot_X1_spotOfNumber : GoodIn wsX3_spot wsX1_spotOfNumber := goodIn_r _ [17, 18, 19, 20, 21, 16, 22, 23, 24, 25, 26, 27, 28, 29, 30, 31, 32, 33, 34, 35, 36, 37, 286, 287, 288, 289, 290, 291, 292, 293, 294, 295] (by decide +kernel) (by decide +kernel)
set_option maxRecDepth 20000 in
theorem gX3_spot_X1_spotOfNumber : GoodIn wsX3_spot (wsV RX3 186 RX1 yX1_spotOfNumber wsX1_spotOfNumber) := goodIn_app (goodIn_of _ (by decide +kernel)) ggX3_spot_X1_spotOfNumber
theorem dX3_spot_0 : decode cX3_spot 0 = .ok (.iload_n 1, 1) := by decide +kernel
theorem dX3_spot_1 : decode cX3_spot 1 = .ok (.invokestatic 52, 3) := by decide +kernel
theorem dX3_spot_4 : decode cX3_spot 4 = .ok (.aload_n 0, 1) := by decide +kernel
theorem dX3_spot_5 : decode cX3_spot 5 = .ok (.getfield 18, 3) := by decide +kernel
theorem dX3_spot_8 : decode cX3_spot 8 = .ok (.aload_n 0, 1) := by decide +kernel
theorem dX3_spot_9 : decode cX3_spot 9 = .ok (.getfield 11, 3) := by decide +kernel
theorem dX3_spot_12 : decode cX3_spot 12 = .ok (.iload_n 1, 1) := by decide +kernel
theorem dX3_spot_13 : decode cX3_spot 13 = .ok (.aaload, 1) := by decide +kernel
theorem dX3_spot_14 : decode cX3_spot 14 = .ok (.iload_n 2, 1) := by decide +kernel
theorem dX3_spot_15 : decode cX3_spot 15 = .ok (.invokevirtual 186, 3) := by decide +kernel
theorem dX3_spot_18 : decode cX3_spot 18 = .ok (.istore_n 3, 1) := by decide +kernel
theorem dX3_spot_19 : decode cX3_spot 19 = .ok (.iload_n 3, 1) := by decide +kernel
theorem dX3_spot_20 : decode cX3_spot 20 = .ok (.iconst (-1), 1) := by decide +kernel
theorem dX3_spot_21 : decode cX3_spot 21 = .ok (.if_icmp .ne 6, 3) := by decide +kernel
theorem dX3_spot_24 : decode cX3_spot 24 = .ok (.ldc 195, 2) := by decide +kernel
theorem dX3_spot_26 : decode cX3_spot 26 = .ok (.areturn, 1) := by decide +kernel
set_option maxRecDepth 20000 in
theorem ggX3_isEnd_X3_needRope : GoodIn wsX3_isEnd wsX3_needRope := goodIn_ca (goodIn_r _ [6, 7, 8] (by decide +kernel) (by decide +kernel)) (goodIn_sub (fun _ h => List.mem_cons_of_mem _ (List.mem_append_right _ h)) (by decide +kernel))
set_option maxRecDepth 20000 in
theorem gX3_isEnd_X3_needRope : GoodIn wsX3_isEnd (va_wsS RX3 52 yX3_needRope wsX3_needRope) := goodIn_app (goodIn_of _ (by decide +kernel)) ggX3_isEnd_X3_needRope
set_option maxRecDepth 20000 in
theorem ggX3_isEnd_X1_isDone : GoodIn wsX3_isEnd wsX1_isDone := goodIn_r _ [13, 14, 15, 16, 12, 17, 18, 19, 20, 21, 22, 23, 24, 25, 26, 27, 28, 29, 30, 31, 32, 33, 43, 44, 45, 46, 47, 48, 49, 50, 51, 52] (by decide +kernel) (by decide +kernel)
set_option maxRecDepth 20000 in
theorem gX3_isEnd_X1_isDone : GoodIn wsX3_isEnd (wsV RX3 206 RX1 yX1_isDone wsX1_isDone) := goodIn_app (goodIn_of _ (by decide +kernel)) ggX3_isEnd_X1_isDone
theorem dX3_isEnd_0 : decode cX3_isEnd 0 = .ok (.iload_n 1, 1) := by decide +kernel
theorem dX3_isEnd_1 : decode cX3_isEnd 1 = .ok (.invokestatic 52, 3) := by decide +kernel
theorem dX3_isEnd_4 : decode cX3_isEnd 4 = .ok (.aload_n 0, 1) := by decide +kernel
theorem dX3_isEnd_5 : decode cX3_isEnd 5 = .ok (.getfield 18, 3) := by decide +kernel
theorem dX3_isEnd_8 : decode cX3_isEnd 8 = .ok (.aload_n 0, 1) := by decide +kernel
theorem dX3_isEnd_9 : decode cX3_isEnd 9 = .ok (.getfield 11, 3) := by decide +kernel
theorem dX3_isEnd_12 : decode cX3_isEnd 12 = .ok (.iload_n 1, 1) := by decide +kernel
theorem dX3_isEnd_13 : decode cX3_isEnd 13 = .ok (.aaload, 1) := by decide +kernel
theorem dX3_isEnd_14 : decode cX3_isEnd 14 = .ok (.invokevirtual 206, 3) := by decide +kernel
theorem dX3_isEnd_17 : decode cX3_isEnd 17 = .ok (.ireturn, 1) := by decide +kernel
set_option maxRecDepth 20000 in
theorem ggX3_form_X3_needRope : GoodIn wsX3_form wsX3_needRope := goodIn_ca (goodIn_r _ [7, 8, 9] (by decide +kernel) (by decide +kernel)) (goodIn_sub (fun _ h => List.mem_cons_of_mem _ (List.mem_append_right _ h)) (by decide +kernel))
set_option maxRecDepth 20000 in
theorem gX3_form_X3_needRope : GoodIn wsX3_form (va_wsS RX3 52 yX3_needRope wsX3_needRope) := goodIn_app (goodIn_of _ (by decide +kernel)) ggX3_form_X3_needRope
set_option maxRecDepth 20000 in
theorem ggX3_form_X2_become : GoodIn wsX3_form wsX2_become := goodIn_r _ [14, 15, 16, 17, 18, 19, 20, 253, 254] (by decide +kernel) (by decide +kernel)
set_option maxRecDepth 20000 in
theorem gX3_form_X2_become : GoodIn wsX3_form (wsV RX3 79 RX2 yX2_become wsX2_become) := goodIn_app (goodIn_of _ (by decide +kernel)) ggX3_form_X2_become
set_option maxRecDepth 20000 in
theorem ggX3_form_X1_toForm : GoodIn wsX3_form wsX1_toForm := goodIn_r _ [25, 26, 27, 28, 24, 29, 30, 31, 32, 33, 34, 35, 36, 37, 38, 39, 40, 41, 13, 42, 16, 15, 43, 44, 45, 46, 47, 48, 49, 50, 51, 52, 53, 54, 55, 17, 18, 19, 20, 253, 254, 255, 256, 257, 258, 259, 260, 261, 262] (by decide +kernel) (by decide +kernel)
set_option maxRecDepth 20000 in
theorem gX3_form_X1_toForm : GoodIn wsX3_form (wsV RX3 210 RX1 yX1_toForm wsX1_toForm) := goodIn_app (goodIn_of _ (by decide +kernel)) ggX3_form_X1_toForm
set_option maxRecDepth 20000 in
theorem ggX3_form_X2_asString : GoodIn wsX3_form wsX2_asString := goodIn_r _ [59, 60, 61, 62, 63, 64, 65, 66, 67, 68, 69, 70, 71, 72, 73, 74, 75, 76, 77, 78, 79, 80, 81, 82, 83, 84, 85, 86, 87, 13, 88, 16, 15, 89, 90, 91, 92, 93, 94, 95, 96, 97, 98, 99, 100, 101, 102, 103, 104, 105, 106, 107, 108, 109, 110, 111, 112, 113, 114, 115, 116, 117, 118, 119, 120, 121, 122, 123, 124, 125, 126, 127, 128, 129, 130, 131, 132, 133, 134, 135, 18, 19, 20, 136, 137, 138, 139, 140, 141, 142, 143, 144, 145, 146, 147, 148, 149, 150, 151, 152, 153, 154, 155, 156, 157, 158, 159, 160, 161, 162, 163, 164, 165, 166, 167, 168, 169, 170, 171, 172, 173, 174, 175, 176, 177, 178, 179, 180, 181, 182, 183, 184, 185, 186, 187, 188, 189, 190, 191, 192, 193, 194, 195, 196, 197, 198, 199, 200, 201, 202, 203, 204, 205, 206, 207, 208, 209, 210, 211, 212, 213, 214, 215, 216, 217, 218, 219, 220, 221, 222, 223, 224, 225, 226, 227, 228, 229, 230, 231, 232, 233, 234, 235, 236, 237, 238, 239, 240, 241, 242, 243, 263, 264, 265, 266, 253, 254, 267, 268, 269, 270] (by decide +kernel) (by decide +kernel)
set_option maxRecDepth 20000 in
theorem gX3_form_X2_asString : GoodIn wsX3_form (wsV RX3 103 RX2 yX2_asString wsX2_asString) := goodIn_app (goodIn_of _ (by decide +kernel)) ggX3_form_X2_asString
theorem dX3_form_0 : decode cX3_form 0 = .ok (.iload_n 1, 1) := by decide +kernel
theorem dX3_form_1 : decode cX3_form 1 = .ok (.invokestatic 52, 3) := by decide +kernel
theorem dX3_form_4 : decode cX3_form 4 = .ok (.aload_n 0, 1) := by decide +kernel
theorem dX3_form_5 : decode cX3_form 5 = .ok (.getfield 32, 3) := by decide +kernel
theorem dX3_form_8 : decode cX3_form 8 = .ok (.aload_n 0, 1) := by decide +kernel
theorem dX3_form_9 : decode cX3_form 9 = .ok (.getfield 11, 3) := by decide +kernel
theorem dX3_form_12 : decode cX3_form 12 = .ok (.iload_n 1, 1) := by decide +kernel
theorem dX3_form_13 : decode cX3_form 13 = .ok (.aaload, 1) := by decide +kernel
theorem dX3_form_14 : decode cX3_form 14 = .ok (.invokevirtual 79, 3) := by decide +kernel
theorem dX3_form_17 : decode cX3_form 17 = .ok (.aload_n 0, 1) := by decide +kernel
theorem dX3_form_18 : decode cX3_form 18 = .ok (.getfield 18, 3) := by decide +kernel
theorem dX3_form_21 : decode cX3_form 21 = .ok (.aload_n 0, 1) := by decide +kernel
theorem dX3_form_22 : decode cX3_form 22 = .ok (.getfield 32, 3) := by decide +kernel
theorem dX3_form_25 : decode cX3_form 25 = .ok (.invokevirtual 210, 3) := by decide +kernel
theorem dX3_form_28 : decode cX3_form 28 = .ok (.aload_n 0, 1) := by decide +kernel
theorem dX3_form_29 : decode cX3_form 29 = .ok (.getfield 32, 3) := by decide +kernel
theorem dX3_form_32 : decode cX3_form 32 = .ok (.invokevirtual 103, 3) := by decide +kernel
theorem dX3_form_35 : decode cX3_form 35 = .ok (.areturn, 1) := by decide +kernel
set_option maxRecDepth 20000 in
theorem ggX3_told_X3_needRope : GoodIn wsX3_told wsX3_needRope := goodIn_ca (goodIn_r _ [9, 10, 11] (by decide +kernel) (by decide +kernel)) (goodIn_sub (fun _ h => List.mem_cons_of_mem _ (List.mem_append_right _ h)) (by decide +kernel))
set_option maxRecDepth 20000 in
theorem gX3_told_X3_needRope : GoodIn wsX3_told (va_wsS RX3 52 yX3_needRope wsX3_needRope) := goodIn_app (goodIn_of _ (by decide +kernel)) ggX3_told_X3_needRope
set_option maxRecDepth 20000 in
theorem ggX3_told_X2_become : GoodIn wsX3_told wsX2_become := goodIn_r _ [16, 17, 18, 19, 20, 21, 22, 155, 156] (by decide +kernel) (by decide +kernel)
set_option maxRecDepth 20000 in
theorem gX3_told_X2_become : GoodIn wsX3_told (wsV RX3 79 RX2 yX2_become wsX2_become) := goodIn_app (goodIn_of _ (by decide +kernel)) ggX3_told_X2_become
set_option maxRecDepth 20000 in
theorem ggX3_told_X1_toForm : GoodIn wsX3_told wsX1_toForm := goodIn_r _ [27, 28, 29, 30, 26, 31, 32, 33, 34, 35, 36, 37, 38, 39, 40, 41, 42, 43, 15, 44, 18, 17, 45, 46, 47, 48, 49, 50, 51, 52, 53, 54, 55, 56, 57, 19, 20, 21, 22, 155, 156, 157, 158, 159, 160, 161, 162, 163, 164] (by decide +kernel) (by decide +kernel)
set_option maxRecDepth 20000 in
theorem gX3_told_X1_toForm : GoodIn wsX3_told (wsV RX3 210 RX1 yX1_toForm wsX1_toForm) := goodIn_app (goodIn_of _ (by decide +kernel)) ggX3_told_X1_toForm
set_option maxRecDepth 20000 in
theorem ggX3_told_X2_isSameAs : GoodIn wsX3_told wsX2_isSameAs := goodIn_r _ [61, 18, 62, 42, 43, 15, 44, 17, 155, 156] (by decide +kernel) (by decide +kernel)
set_option maxRecDepth 20000 in
theorem gX3_told_X2_isSameAs : GoodIn wsX3_told (wsV RX3 213 RX2 yX2_isSameAs wsX2_isSameAs) := goodIn_app (goodIn_of _ (by decide +kernel)) ggX3_told_X2_isSameAs
theorem dX3_told_0 : decode cX3_told 0 = .ok (.iload_n 1, 1) := by decide +kernel
theorem dX3_told_1 : decode cX3_told 1 = .ok (.invokestatic 52, 3) := by decide +kernel
theorem dX3_told_4 : decode cX3_told 4 = .ok (.iload_n 2, 1) := by decide +kernel
theorem dX3_told_5 : decode cX3_told 5 = .ok (.invokestatic 52, 3) := by decide +kernel
theorem dX3_told_8 : decode cX3_told 8 = .ok (.aload_n 0, 1) := by decide +kernel
theorem dX3_told_9 : decode cX3_told 9 = .ok (.getfield 32, 3) := by decide +kernel
theorem dX3_told_12 : decode cX3_told 12 = .ok (.aload_n 0, 1) := by decide +kernel
theorem dX3_told_13 : decode cX3_told 13 = .ok (.getfield 11, 3) := by decide +kernel
theorem dX3_told_16 : decode cX3_told 16 = .ok (.iload_n 1, 1) := by decide +kernel
theorem dX3_told_17 : decode cX3_told 17 = .ok (.aaload, 1) := by decide +kernel
theorem dX3_told_18 : decode cX3_told 18 = .ok (.invokevirtual 79, 3) := by decide +kernel
theorem dX3_told_21 : decode cX3_told 21 = .ok (.aload_n 0, 1) := by decide +kernel
theorem dX3_told_22 : decode cX3_told 22 = .ok (.getfield 18, 3) := by decide +kernel
theorem dX3_told_25 : decode cX3_told 25 = .ok (.aload_n 0, 1) := by decide +kernel
theorem dX3_told_26 : decode cX3_told 26 = .ok (.getfield 32, 3) := by decide +kernel
theorem dX3_told_29 : decode cX3_told 29 = .ok (.invokevirtual 210, 3) := by decide +kernel
theorem dX3_told_32 : decode cX3_told 32 = .ok (.aload_n 0, 1) := by decide +kernel
theorem dX3_told_33 : decode cX3_told 33 = .ok (.getfield 36, 3) := by decide +kernel
theorem dX3_told_36 : decode cX3_told 36 = .ok (.aload_n 0, 1) := by decide +kernel
theorem dX3_told_37 : decode cX3_told 37 = .ok (.getfield 11, 3) := by decide +kernel
theorem dX3_told_40 : decode cX3_told 40 = .ok (.iload_n 2, 1) := by decide +kernel
theorem dX3_told_41 : decode cX3_told 41 = .ok (.aaload, 1) := by decide +kernel
theorem dX3_told_42 : decode cX3_told 42 = .ok (.invokevirtual 79, 3) := by decide +kernel
theorem dX3_told_45 : decode cX3_told 45 = .ok (.aload_n 0, 1) := by decide +kernel
theorem dX3_told_46 : decode cX3_told 46 = .ok (.getfield 18, 3) := by decide +kernel
theorem dX3_told_49 : decode cX3_told 49 = .ok (.aload_n 0, 1) := by decide +kernel
theorem dX3_told_50 : decode cX3_told 50 = .ok (.getfield 36, 3) := by decide +kernel
theorem dX3_told_53 : decode cX3_told 53 = .ok (.invokevirtual 210, 3) := by decide +kernel
theorem dX3_told_56 : decode cX3_told 56 = .ok (.aload_n 0, 1) := by decide +kernel
theorem dX3_told_57 : decode cX3_told 57 = .ok (.getfield 32, 3) := by decide +kernel
theorem dX3_told_60 : decode cX3_told 60 = .ok (.aload_n 0, 1) := by decide +kernel
theorem dX3_told_61 : decode cX3_told 61 = .ok (.getfield 36, 3) := by decide +kernel
theorem dX3_told_64 : decode cX3_told 64 = .ok (.invokevirtual 213, 3) := by decide +kernel
theorem dX3_told_67 : decode cX3_told 67 = .ok (.ifCond .eq 5, 3) := by decide +kernel
theorem dX3_told_70 : decode cX3_told 70 = .ok (.iconst 1, 1) := by decide +kernel
theorem dX3_told_71 : decode cX3_told 71 = .ok (.ireturn, 1) := by decide +kernel
set_option maxRecDepth 20000 in
theorem ggX3_peaks_X0_size : GoodIn wsX3_peaks wsX0_size := goodIn_r _ [6, 7, 8, 9, 10, 5, 11, 12, 13, 14, 15, 16, 17, 18, 19, 20, 21, 22, 23, 24, 25, 26, 27, 28, 29, 30, 31, 32, 33, 34, 35, 36, 37, 38, 39, 40, 41, 42, 43, 44, 45, 46, 56, 57, 58, 59, 60, 61, 62, 63, 64, 65, 66, 67, 68, 69, 70, 71, 72, 73] (by decide +kernel) (by decide +kernel)
set_option maxRecDepth 20000 in
theorem gX3_peaks_X0_size : GoodIn wsX3_peaks (wsV RX3 219 RX0 yX0_size wsX0_size) := goodIn_app (goodIn_of _ (by decide +kernel)) ggX3_peaks_X0_size
theorem dX3_peaks_0 : decode cX3_peaks 0 = .ok (.aload_n 0, 1) := by decide +kernel
theorem dX3_peaks_1 : decode cX3_peaks 1 = .ok (.getfield 27, 3) := by decide +kernel
theorem dX3_peaks_4 : decode cX3_peaks 4 = .ok (.invokevirtual 219, 3) := by decide +kernel
theorem dX3_peaks_7 : decode cX3_peaks 7 = .ok (.ireturn, 1) := by decide +kernel
set_option maxRecDepth 20000 in
theorem ggX3_peak_X0_has : GoodIn wsX3_peak wsX0_has := goodIn_r _ [12, 13, 14, 15, 11, 16, 17, 18, 19, 20, 21, 22, 23, 24, 25, 26, 27, 28, 29, 30, 31, 32, 33, 34, 35, 36, 37, 38, 39, 40, 41, 42, 43, 44, 45, 46, 47, 48, 49, 50, 51, 52, 53, 54, 55, 56, 281, 282, 283, 284, 285, 286, 287, 288, 289, 290, 291, 292, 293, 294, 295, 296, 297, 298] (by decide +kernel) (by decide +kernel)
set_option maxRecDepth 20000 in
theorem gX3_peak_X0_has : GoodIn wsX3_peak (wsV RX3 221 RX0 yX0_has wsX0_has) := goodIn_app (goodIn_of _ (by decide +kernel)) ggX3_peak_X0_has
theorem dX3_peak_0 : decode cX3_peak 0 = .ok (.aload_n 0, 1) := by decide +kernel
theorem dX3_peak_1 : decode cX3_peak 1 = .ok (.getfield 27, 3) := by decide +kernel
theorem dX3_peak_4 : decode cX3_peak 4 = .ok (.iload_n 1, 1) := by decide +kernel
theorem dX3_peak_5 : decode cX3_peak 5 = .ok (.invokevirtual 221, 3) := by decide +kernel
theorem dX3_peak_8 : decode cX3_peak 8 = .ok (.ifCond .ne 6, 3) := by decide +kernel
theorem dX3_peak_11 : decode cX3_peak 11 = .ok (.ldc 195, 2) := by decide +kernel
theorem dX3_peak_13 : decode cX3_peak 13 = .ok (.areturn, 1) := by decide +kernel
set_option maxRecDepth 20000 in
theorem ggX3_meets_X0_has : GoodIn wsX3_meets wsX0_has := goodIn_r _ [8, 9, 10, 11, 7, 12, 13, 14, 15, 16, 17, 18, 19, 20, 21, 22, 23, 24, 25, 26, 27, 28, 29, 30, 31, 32, 33, 34, 35, 36, 37, 38, 39, 40, 41, 42, 43, 44, 45, 46, 47, 48, 49, 50, 51, 52, 132, 133, 134, 135, 136, 137, 138, 139, 140, 141, 142, 143, 144, 145, 146, 147, 148, 149] (by decide +kernel) (by decide +kernel)
set_option maxRecDepth 20000 in
theorem gX3_meets_X0_has : GoodIn wsX3_meets (wsV RX3 221 RX0 yX0_has wsX0_has) := goodIn_app (goodIn_of _ (by decide +kernel)) ggX3_meets_X0_has
theorem dX3_meets_0 : decode cX3_meets 0 = .ok (.aload_n 0, 1) := by decide +kernel
theorem dX3_meets_1 : decode cX3_meets 1 = .ok (.getfield 27, 3) := by decide +kernel
theorem dX3_meets_4 : decode cX3_meets 4 = .ok (.iload_n 1, 1) := by decide +kernel
theorem dX3_meets_5 : decode cX3_meets 5 = .ok (.invokevirtual 221, 3) := by decide +kernel
theorem dX3_meets_8 : decode cX3_meets 8 = .ok (.ifCond .ne 13, 3) := by decide +kernel
theorem dX3_meets_11 : decode cX3_meets 11 = .ok (.new 236, 3) := by decide +kernel
theorem dX3_meets_14 : decode cX3_meets 14 = .ok (.dup, 1) := by decide +kernel
theorem dX3_meets_15 : decode cX3_meets 15 = .ok (.ldc 238, 2) := by decide +kernel
theorem dX3_meets_17 : decode cX3_meets 17 = .ok (.invokespecial 240, 3) := by decide +kernel
theorem dX3_meets_20 : decode cX3_meets 20 = .ok (.athrow, 1) := by decide +kernel
set_option maxRecDepth 20000 in
theorem ggX3_unmet_X0_firstUnmet : GoodIn wsX3_unmet wsX0_firstUnmet := goodIn_r _ [6, 7, 8, 9, 10, 11, 5, 12, 13, 14, 15, 16, 17, 18, 19, 20, 21, 22, 23, 24, 25, 26, 27, 28, 29, 30, 31, 32, 33, 34, 35, 36, 37, 38, 39, 40, 41, 42, 43, 44, 45, 46, 47, 48, 49, 50, 51, 52, 53, 54, 55, 56, 57, 58, 59, 60, 61, 62, 63, 64, 65, 66, 67, 68, 69, 70, 71, 72, 73, 74, 75, 76, 77, 78, 79, 80, 81, 82, 83, 84, 85, 86, 87, 88, 89, 90, 91, 92, 93, 94, 95, 96, 97, 98, 99, 100, 101, 102, 103, 104, 105, 106, 107, 108, 109, 110, 111, 112, 113, 114, 115, 116, 126, 127, 128, 129, 130, 131, 132, 133, 134, 135, 136, 137, 138, 139, 140, 141, 142, 143] (by decide +kernel) (by decide +kernel)
set_option maxRecDepth 20000 in
theorem gX3_unmet_X0_firstUnmet : GoodIn wsX3_unmet (wsV RX3 216 RX0 yX0_firstUnmet wsX0_firstUnmet) := goodIn_app (goodIn_of _ (by decide +kernel)) ggX3_unmet_X0_firstUnmet
theorem dX3_unmet_0 : decode cX3_unmet 0 = .ok (.aload_n 0, 1) := by decide +kernel
theorem dX3_unmet_1 : decode cX3_unmet 1 = .ok (.getfield 27, 3) := by decide +kernel
theorem dX3_unmet_4 : decode cX3_unmet 4 = .ok (.invokevirtual 216, 3) := by decide +kernel
theorem dX3_unmet_7 : decode cX3_unmet 7 = .ok (.ireturn, 1) := by decide +kernel
set_option maxRecDepth 20000 in
theorem ggX3_complete_X0_firstUnmet : GoodIn wsX3_complete wsX0_firstUnmet := goodIn_r _ [9, 10, 11, 12, 13, 14, 8, 15, 16, 17, 18, 19, 20, 21, 22, 23, 24, 25, 26, 27, 28, 29, 30, 31, 32, 33, 34, 35, 36, 37, 38, 39, 40, 41, 42, 43, 44, 45, 46, 47, 48, 49, 50, 51, 52, 53, 54, 55, 56, 57, 58, 59, 60, 61, 62, 63, 64, 65, 66, 67, 68, 69, 70, 71, 72, 73, 74, 75, 76, 77, 78, 79, 80, 81, 82, 83, 84, 85, 86, 87, 88, 89, 90, 91, 92, 93, 94, 95, 96, 97, 98, 99, 100, 101, 102, 103, 104, 105, 106, 107, 108, 109, 110, 111, 112, 113, 114, 115, 116, 117, 118, 119, 157, 158, 159, 160, 161, 162, 163, 164, 165, 166, 167, 168, 169, 170, 171, 172, 173, 174] (by decide +kernel) (by decide +kernel)
set_option maxRecDepth 20000 in
theorem gX3_complete_X0_firstUnmet : GoodIn wsX3_complete (wsV RX3 216 RX0 yX0_firstUnmet wsX0_firstUnmet) := goodIn_app (goodIn_of _ (by decide +kernel)) ggX3_complete_X0_firstUnmet
theorem dX3_complete_0 : decode cX3_complete 0 = .ok (.aload_n 0, 1) := by decide +kernel
theorem dX3_complete_1 : decode cX3_complete 1 = .ok (.getfield 27, 3) := by decide +kernel
theorem dX3_complete_4 : decode cX3_complete 4 = .ok (.invokevirtual 216, 3) := by decide +kernel
theorem dX3_complete_7 : decode cX3_complete 7 = .ok (.istore_n 1, 1) := by decide +kernel
theorem dX3_complete_8 : decode cX3_complete 8 = .ok (.iload_n 1, 1) := by decide +kernel
theorem dX3_complete_9 : decode cX3_complete 9 = .ok (.iconst (-1), 1) := by decide +kernel
theorem dX3_complete_10 : decode cX3_complete 10 = .ok (.if_icmp .ne 5, 3) := by decide +kernel
theorem dX3_complete_13 : decode cX3_complete 13 = .ok (.iconst (-1), 1) := by decide +kernel
theorem dX3_complete_14 : decode cX3_complete 14 = .ok (.ireturn, 1) := by decide +kernel
theorem dX3_tidy_0 : decode cX3_tidy 0 = .ok (.iconst 0, 1) := by decide +kernel
theorem dX3_tidy_1 : decode cX3_tidy 1 = .ok (.istore_n 1, 1) := by decide +kernel
theorem dX3_tidy_2 : decode cX3_tidy 2 = .ok (.aload_n 0, 1) := by decide +kernel
theorem dX3_tidy_3 : decode cX3_tidy 3 = .ok (.getfield 18, 3) := by decide +kernel
theorem dX3_tidy_6 : decode cX3_tidy 6 = .ok (.getfield 128, 3) := by decide +kernel
theorem dX3_tidy_9 : decode cX3_tidy 9 = .ok (.iconst 1, 1) := by decide +kernel
theorem dX3_tidy_10 : decode cX3_tidy 10 = .ok (.isub, 1) := by decide +kernel
theorem dX3_tidy_11 : decode cX3_tidy 11 = .ok (.istore_n 2, 1) := by decide +kernel
theorem dX3_tidy_12 : decode cX3_tidy 12 = .ok (.iload_n 2, 1) := by decide +kernel
theorem dX3_tidy_13 : decode cX3_tidy 13 = .ok (.ifCond .lt 23, 3) := by decide +kernel
theorem dX3_tidy_36 : decode cX3_tidy 36 = .ok (.iload_n 1, 1) := by decide +kernel
theorem dX3_tidy_37 : decode cX3_tidy 37 = .ok (.ireturn, 1) := by decide +kernel
set_option maxRecDepth 20000 in
theorem ggX3_house_X3_lettersOfRopes : GoodIn wsX3_house wsX3_lettersOfRopes := goodIn_r _ [10, 11, 12, 13, 14, 15, 16, 17, 18, 19, 20, 21, 22, 23] (by decide +kernel) (by decide +kernel)
set_option maxRecDepth 20000 in
theorem gX3_house_X3_lettersOfRopes : GoodIn wsX3_house (wsV RX3 247 RX3 yX3_lettersOfRopes wsX3_lettersOfRopes) := goodIn_app (goodIn_of _ (by decide +kernel)) ggX3_house_X3_lettersOfRopes
theorem dX3_house_0 : decode cX3_house 0 = .ok (.iload_n 1, 1) := by decide +kernel
theorem dX3_house_1 : decode cX3_house 1 = .ok (.tableswitch 51 0 3 #[31, 36, 41, 46], 31) := by decide +kernel
theorem dX3_house_32 : decode cX3_house 32 = .ok (.aload_n 0, 1) := by decide +kernel
theorem dX3_house_33 : decode cX3_house 33 = .ok (.getfield 42, 3) := by decide +kernel
theorem dX3_house_36 : decode cX3_house 36 = .ok (.ireturn, 1) := by decide +kernel
theorem dX3_house_37 : decode cX3_house 37 = .ok (.aload_n 0, 1) := by decide +kernel
theorem dX3_house_38 : decode cX3_house 38 = .ok (.getfield 46, 3) := by decide +kernel
theorem dX3_house_41 : decode cX3_house 41 = .ok (.ireturn, 1) := by decide +kernel
theorem dX3_house_42 : decode cX3_house 42 = .ok (.aload_n 0, 1) := by decide +kernel
theorem dX3_house_43 : decode cX3_house 43 = .ok (.invokevirtual 247, 3) := by decide +kernel
theorem dX3_house_46 : decode cX3_house 46 = .ok (.ireturn, 1) := by decide +kernel
theorem dX3_house_47 : decode cX3_house 47 = .ok (.aload_n 0, 1) := by decide +kernel
theorem dX3_house_48 : decode cX3_house 48 = .ok (.getfield 49, 3) := by decide +kernel
theorem dX3_house_51 : decode cX3_house 51 = .ok (.ireturn, 1) := by decide +kernel
theorem dX3_house_52 : decode cX3_house 52 = .ok (.new 95, 3) := by decide +kernel
theorem dX3_house_55 : decode cX3_house 55 = .ok (.dup, 1) := by decide +kernel
theorem dX3_house_56 : decode cX3_house 56 = .ok (.ldc 250, 2) := by decide +kernel
theorem dX3_house_58 : decode cX3_house 58 = .ok (.invokespecial 99, 3) := by decide +kernel
theorem dX3_house_61 : decode cX3_house 61 = .ok (.athrow, 1) := by decide +kernel
theorem dX3_knock_0 : decode cX3_knock 0 = .ok (.aload_n 0, 1) := by decide +kernel
theorem dX3_knock_1 : decode cX3_knock 1 = .ok (.dup, 1) := by decide +kernel
theorem dX3_knock_2 : decode cX3_knock 2 = .ok (.getfield 46, 3) := by decide +kernel
theorem dX3_knock_5 : decode cX3_knock 5 = .ok (.iconst 1, 1) := by decide +kernel
theorem dX3_knock_6 : decode cX3_knock 6 = .ok (.iadd, 1) := by decide +kernel
theorem dX3_knock_7 : decode cX3_knock 7 = .ok (.putfield 46, 3) := by decide +kernel
theorem dX3_knock_10 : decode cX3_knock 10 = .ok (.aload_n 0, 1) := by decide +kernel
theorem dX3_knock_11 : decode cX3_knock 11 = .ok (.getfield 46, 3) := by decide +kernel
theorem dX3_knock_14 : decode cX3_knock 14 = .ok (.ireturn, 1) := by decide +kernel
set_option maxRecDepth 20000 in
theorem ggX3_isSound_X3_areSpotsSound : GoodIn wsX3_isSound wsX3_areSpotsSound := goodIn_r _ [8, 2, 9, 10, 11, 12, 13, 14, 15, 16, 17, 18, 19, 20, 21, 22, 23, 24, 25, 26, 27, 28, 29, 30, 31, 32, 33, 34, 35, 36, 37, 38, 39, 40, 41, 42, 43, 44, 45, 46, 47, 48, 49, 50, 51, 52, 53, 54, 55, 56, 57, 58, 59, 60, 61, 189, 190, 191, 192, 193, 194, 195, 196, 197, 198, 199, 200, 201, 202, 203, 204, 205, 206, 207] (by decide +kernel) (by decide +kernel)
set_option maxRecDepth 20000 in
theorem gX3_isSound_X3_areSpotsSound : GoodIn wsX3_isSound (wsV RX3 252 RX3 yX3_areSpotsSound wsX3_areSpotsSound) := goodIn_app (goodIn_of _ (by decide +kernel)) ggX3_isSound_X3_areSpotsSound
set_option maxRecDepth 20000 in
theorem ggX3_isSound_X3_isTurnSound : GoodIn wsX3_isSound wsX3_isTurnSound := goodIn_r _ [65, 9, 35, 36, 37, 29, 38, 32, 31, 39, 40, 41, 42, 66, 67, 68, 69, 70, 71, 72, 73, 74, 27, 28, 30, 189, 190, 191, 192, 193, 194, 195, 196, 197, 206, 207] (by decide +kernel) (by decide +kernel)
set_option maxRecDepth 20000 in
theorem gX3_isSound_X3_isTurnSound : GoodIn wsX3_isSound (wsV RX3 255 RX3 yX3_isTurnSound wsX3_isTurnSound) := goodIn_app (goodIn_of _ (by decide +kernel)) ggX3_isSound_X3_isTurnSound
set_option maxRecDepth 20000 in
theorem ggX3_isSound_X1_areAllFalling : GoodIn wsX3_isSound wsX1_areAllFalling := goodIn_r _ [78, 18, 79, 53, 54, 15, 55, 47, 19, 56, 57, 58, 29, 59, 31, 32, 198, 199, 200, 201, 202, 203, 204, 205, 206, 207] (by decide +kernel) (by decide +kernel)
set_option maxRecDepth 20000 in
theorem gX3_isSound_X1_areAllFalling : GoodIn wsX3_isSound (wsV RX3 161 RX1 yX1_areAllFalling wsX1_areAllFalling) := goodIn_app (goodIn_of _ (by decide +kernel)) ggX3_isSound_X1_areAllFalling
set_option maxRecDepth 20000 in
theorem ggX3_isSound_X0_firstUnmet : GoodIn wsX3_isSound wsX0_firstUnmet := goodIn_r _ [84, 85, 86, 87, 88, 89, 83, 90, 91, 92, 93, 94, 95, 96, 97, 98, 99, 100, 101, 102, 103, 104, 105, 106, 107, 29, 108, 31, 32, 109, 110, 111, 112, 113, 114, 115, 116, 117, 118, 27, 28, 30, 119, 120, 121, 122, 123, 124, 125, 126, 127, 128, 129, 130, 131, 132, 133, 134, 135, 36, 37, 38, 39, 40, 41, 42, 136, 137, 138, 139, 140, 49, 50, 51, 141, 142, 143, 144, 145, 146, 147, 15, 148, 149, 13, 14, 16, 17, 18, 19, 20, 21, 22, 23, 24, 25, 26, 150, 151, 152, 153, 47, 154, 44, 45, 46, 48, 155, 71, 72, 73, 74, 208, 209, 210, 211, 212, 213, 214, 215, 198, 199, 200, 201, 202, 203, 204, 205, 206, 207] (by decide +kernel) (by decide +kernel)
set_option maxRecDepth 20000 in
theorem gX3_isSound_X0_firstUnmet : GoodIn wsX3_isSound (wsV RX3 216 RX0 yX0_firstUnmet wsX0_firstUnmet) := goodIn_app (goodIn_of _ (by decide +kernel)) ggX3_isSound_X0_firstUnmet
set_option maxRecDepth 20000 in
theorem ggX3_isSound_X3_isSameByWays : GoodIn wsX3_isSound wsX3_isSameByWays := goodIn_r _ [159, 160, 2, 9, 35, 36, 37, 29, 38, 32, 31, 39, 40, 41, 42, 161, 162, 163, 15, 164, 165, 166, 167, 168, 169, 170, 171, 172, 17, 18, 19, 26, 27, 28, 30, 173, 174, 175, 176, 149, 13, 14, 16, 20, 21, 22, 23, 24, 25, 150, 151, 152, 153, 47, 154, 44, 45, 46, 48, 49, 50, 51, 177, 178, 179, 180, 70, 71, 72, 73, 74, 189, 190, 191, 192, 193, 194, 195, 196, 197, 206, 207, 198, 199, 200, 201, 202, 203, 204, 205] (by decide +kernel) (by decide +kernel)
set_option maxRecDepth 20000 in
theorem gX3_isSound_X3_isSameByWays : GoodIn wsX3_isSound (wsV RX3 258 RX3 yX3_isSameByWays wsX3_isSameByWays) := goodIn_app (goodIn_of _ (by decide +kernel)) ggX3_isSound_X3_isSameByWays
set_option maxRecDepth 20000 in
theorem ggX3_isSound_X3_isSameJoined : GoodIn wsX3_isSound wsX3_isSameJoined := goodIn_r _ [184, 160, 185, 2, 186, 9, 35, 36, 37, 29, 38, 32, 31, 39, 40, 41, 42, 187, 146, 147, 15, 148, 149, 13, 14, 16, 17, 18, 19, 20, 21, 22, 23, 24, 25, 26, 27, 28, 30, 150, 151, 152, 153, 47, 154, 44, 45, 46, 48, 49, 50, 51, 177, 178, 179, 180, 188, 137, 138, 139, 70, 71, 72, 73, 74, 189, 190, 191, 192, 193, 194, 195, 196, 197, 206, 207, 198, 199, 200, 201, 202, 203, 204, 205] (by decide +kernel) (by decide +kernel)
set_option maxRecDepth 20000 in
theorem gX3_isSound_X3_isSameJoined : GoodIn wsX3_isSound (wsV RX3 261 RX3 yX3_isSameJoined wsX3_isSameJoined) := goodIn_app (goodIn_of _ (by decide +kernel)) ggX3_isSound_X3_isSameJoined
theorem dX3_isSound_0 : decode cX3_isSound 0 = .ok (.iconst 0, 1) := by decide +kernel
theorem dX3_isSound_1 : decode cX3_isSound 1 = .ok (.istore_n 1, 1) := by decide +kernel
theorem dX3_isSound_2 : decode cX3_isSound 2 = .ok (.iload_n 1, 1) := by decide +kernel
theorem dX3_isSound_3 : decode cX3_isSound 3 = .ok (.iconst 4, 1) := by decide +kernel
theorem dX3_isSound_4 : decode cX3_isSound 4 = .ok (.if_icmp .ge 37, 3) := by decide +kernel
theorem dX3_isSound_7 : decode cX3_isSound 7 = .ok (.aload_n 0, 1) := by decide +kernel
theorem dX3_isSound_8 : decode cX3_isSound 8 = .ok (.aload_n 0, 1) := by decide +kernel
theorem dX3_isSound_9 : decode cX3_isSound 9 = .ok (.getfield 11, 3) := by decide +kernel
theorem dX3_isSound_12 : decode cX3_isSound 12 = .ok (.iload_n 1, 1) := by decide +kernel
theorem dX3_isSound_13 : decode cX3_isSound 13 = .ok (.aaload, 1) := by decide +kernel
theorem dX3_isSound_14 : decode cX3_isSound 14 = .ok (.invokevirtual 252, 3) := by decide +kernel
theorem dX3_isSound_17 : decode cX3_isSound 17 = .ok (.ifCond .eq 16, 3) := by decide +kernel
theorem dX3_isSound_20 : decode cX3_isSound 20 = .ok (.aload_n 0, 1) := by decide +kernel
theorem dX3_isSound_21 : decode cX3_isSound 21 = .ok (.aload_n 0, 1) := by decide +kernel
theorem dX3_isSound_22 : decode cX3_isSound 22 = .ok (.getfield 11, 3) := by decide +kernel
theorem dX3_isSound_25 : decode cX3_isSound 25 = .ok (.iload_n 1, 1) := by decide +kernel
theorem dX3_isSound_26 : decode cX3_isSound 26 = .ok (.aaload, 1) := by decide +kernel
theorem dX3_isSound_27 : decode cX3_isSound 27 = .ok (.invokevirtual 255, 3) := by decide +kernel
theorem dX3_isSound_30 : decode cX3_isSound 30 = .ok (.ifCond .ne 5, 3) := by decide +kernel
theorem dX3_isSound_35 : decode cX3_isSound 35 = .ok (.iinc 1 1, 3) := by decide +kernel
theorem dX3_isSound_38 : decode cX3_isSound 38 = .ok (.goto (-36), 3) := by decide +kernel
theorem dX3_isSound_41 : decode cX3_isSound 41 = .ok (.aload_n 0, 1) := by decide +kernel
theorem dX3_isSound_42 : decode cX3_isSound 42 = .ok (.getfield 18, 3) := by decide +kernel
theorem dX3_isSound_45 : decode cX3_isSound 45 = .ok (.invokevirtual 161, 3) := by decide +kernel
theorem dX3_isSound_48 : decode cX3_isSound 48 = .ok (.ifCond .eq 14, 3) := by decide +kernel
theorem dX3_isSound_51 : decode cX3_isSound 51 = .ok (.aload_n 0, 1) := by decide +kernel
theorem dX3_isSound_52 : decode cX3_isSound 52 = .ok (.getfield 27, 3) := by decide +kernel
theorem dX3_isSound_55 : decode cX3_isSound 55 = .ok (.invokevirtual 216, 3) := by decide +kernel
theorem dX3_isSound_58 : decode cX3_isSound 58 = .ok (.iconst (-1), 1) := by decide +kernel
theorem dX3_isSound_59 : decode cX3_isSound 59 = .ok (.if_icmp .eq 5, 3) := by decide +kernel
theorem dX3_isSound_64 : decode cX3_isSound 64 = .ok (.iconst 0, 1) := by decide +kernel
theorem dX3_isSound_65 : decode cX3_isSound 65 = .ok (.istore_n 1, 1) := by decide +kernel
theorem dX3_isSound_66 : decode cX3_isSound 66 = .ok (.iload_n 1, 1) := by decide +kernel
theorem dX3_isSound_67 : decode cX3_isSound 67 = .ok (.iconst 4, 1) := by decide +kernel
theorem dX3_isSound_68 : decode cX3_isSound 68 = .ok (.if_icmp .ge 49, 3) := by decide +kernel
theorem dX3_isSound_71 : decode cX3_isSound 71 = .ok (.aload_n 0, 1) := by decide +kernel
theorem dX3_isSound_72 : decode cX3_isSound 72 = .ok (.getfield 11, 3) := by decide +kernel
theorem dX3_isSound_75 : decode cX3_isSound 75 = .ok (.iload_n 1, 1) := by decide +kernel
theorem dX3_isSound_76 : decode cX3_isSound 76 = .ok (.iconst 1, 1) := by decide +kernel
theorem dX3_isSound_77 : decode cX3_isSound 77 = .ok (.iadd, 1) := by decide +kernel
theorem dX3_isSound_78 : decode cX3_isSound 78 = .ok (.iconst 4, 1) := by decide +kernel
theorem dX3_isSound_79 : decode cX3_isSound 79 = .ok (.irem, 1) := by decide +kernel
theorem dX3_isSound_80 : decode cX3_isSound 80 = .ok (.aaload, 1) := by decide +kernel
theorem dX3_isSound_81 : decode cX3_isSound 81 = .ok (.astore_n 2, 1) := by decide +kernel
theorem dX3_isSound_82 : decode cX3_isSound 82 = .ok (.aload_n 0, 1) := by decide +kernel
theorem dX3_isSound_83 : decode cX3_isSound 83 = .ok (.aload_n 0, 1) := by decide +kernel
theorem dX3_isSound_84 : decode cX3_isSound 84 = .ok (.getfield 11, 3) := by decide +kernel
theorem dX3_isSound_87 : decode cX3_isSound 87 = .ok (.iload_n 1, 1) := by decide +kernel
theorem dX3_isSound_88 : decode cX3_isSound 88 = .ok (.aaload, 1) := by decide +kernel
theorem dX3_isSound_89 : decode cX3_isSound 89 = .ok (.invokevirtual 258, 3) := by decide +kernel
theorem dX3_isSound_92 : decode cX3_isSound 92 = .ok (.ifCond .eq 17, 3) := by decide +kernel
theorem dX3_isSound_95 : decode cX3_isSound 95 = .ok (.aload_n 0, 1) := by decide +kernel
theorem dX3_isSound_96 : decode cX3_isSound 96 = .ok (.aload_n 0, 1) := by decide +kernel
theorem dX3_isSound_97 : decode cX3_isSound 97 = .ok (.getfield 11, 3) := by decide +kernel
theorem dX3_isSound_100 : decode cX3_isSound 100 = .ok (.iload_n 1, 1) := by decide +kernel
theorem dX3_isSound_101 : decode cX3_isSound 101 = .ok (.aaload, 1) := by decide +kernel
theorem dX3_isSound_102 : decode cX3_isSound 102 = .ok (.aload_n 2, 1) := by decide +kernel
theorem dX3_isSound_103 : decode cX3_isSound 103 = .ok (.invokevirtual 261, 3) := by decide +kernel
theorem dX3_isSound_106 : decode cX3_isSound 106 = .ok (.ifCond .ne 5, 3) := by decide +kernel
theorem dX3_isSound_111 : decode cX3_isSound 111 = .ok (.iinc 1 1, 3) := by decide +kernel
theorem dX3_isSound_114 : decode cX3_isSound 114 = .ok (.goto (-48), 3) := by decide +kernel
theorem dX3_isSound_117 : decode cX3_isSound 117 = .ok (.iconst 1, 1) := by decide +kernel
theorem dX3_isSound_118 : decode cX3_isSound 118 = .ok (.ireturn, 1) := by decide +kernel
set_option maxRecDepth 20000 in
theorem ggX3_digest_X3_mix : GoodIn wsX3_digest wsX3_mix := goodIn_r _ [15, 16] (by decide +kernel) (by decide +kernel)
set_option maxRecDepth 20000 in
theorem gX3_digest_X3_mix : GoodIn wsX3_digest (va_wsS RX3 267 yX3_mix wsX3_mix) := goodIn_app (goodIn_of _ (by decide +kernel)) ggX3_digest_X3_mix
set_option maxRecDepth 20000 in
theorem ggX3_digest_X3_lettersOfRopes : GoodIn wsX3_digest wsX3_lettersOfRopes := goodIn_r _ [20, 5, 21, 218, 219, 220, 221, 222, 223, 224, 225, 226, 235, 236] (by decide +kernel) (by decide +kernel)
set_option maxRecDepth 20000 in
theorem gX3_digest_X3_lettersOfRopes : GoodIn wsX3_digest (wsV RX3 247 RX3 yX3_lettersOfRopes wsX3_lettersOfRopes) := goodIn_app (goodIn_of _ (by decide +kernel)) ggX3_digest_X3_lettersOfRopes
set_option maxRecDepth 20000 in
theorem ggX3_digest_X2_mixInto : GoodIn wsX3_digest wsX2_mixInto := goodIn_r _ [26, 27, 28, 13, 14, 15, 16, 235, 236] (by decide +kernel) (by decide +kernel)
set_option maxRecDepth 20000 in
theorem gX3_digest_X2_mixInto : GoodIn wsX3_digest (wsV RX3 271 RX2 yX2_mixInto wsX2_mixInto) := goodIn_app (goodIn_of _ (by decide +kernel)) ggX3_digest_X2_mixInto
set_option maxRecDepth 20000 in
theorem ggX3_digest_X1_countSpots : GoodIn wsX3_digest wsX1_countSpots := goodIn_r _ [33, 34, 35, 36, 37, 38, 39, 25, 40, 27, 28, 235, 236, 227, 228, 229, 230, 231, 232, 233, 234] (by decide +kernel) (by decide +kernel)
set_option maxRecDepth 20000 in
theorem gX3_digest_X1_countSpots : GoodIn wsX3_digest (wsV RX3 192 RX1 yX1_countSpots wsX1_countSpots) := goodIn_app (goodIn_of _ (by decide +kernel)) ggX3_digest_X1_countSpots
set_option maxRecDepth 20000 in
theorem ggX3_digest_X2_become : GoodIn wsX3_digest wsX2_become := goodIn_r _ [44, 28, 27, 45, 46, 47, 48, 235, 236] (by decide +kernel) (by decide +kernel)
set_option maxRecDepth 20000 in
theorem gX3_digest_X2_become : GoodIn wsX3_digest (wsV RX3 79 RX2 yX2_become wsX2_become) := goodIn_app (goodIn_of _ (by decide +kernel)) ggX3_digest_X2_become
set_option maxRecDepth 20000 in
theorem ggX3_digest_X1_toForm : GoodIn wsX3_digest wsX1_toForm := goodIn_r _ [52, 53, 54, 55, 32, 56, 34, 35, 36, 57, 58, 59, 60, 61, 62, 37, 38, 39, 25, 40, 27, 28, 63, 64, 65, 66, 67, 68, 69, 70, 71, 72, 73, 74, 75, 45, 46, 47, 48, 235, 236, 227, 228, 229, 230, 231, 232, 233, 234] (by decide +kernel) (by decide +kernel)
set_option maxRecDepth 20000 in
theorem gX3_digest_X1_toForm : GoodIn wsX3_digest (wsV RX3 210 RX1 yX1_toForm wsX1_toForm) := goodIn_app (goodIn_of _ (by decide +kernel)) ggX3_digest_X1_toForm
set_option maxRecDepth 20000 in
theorem ggX3_digest_X1_areAllFalling : GoodIn wsX3_digest wsX1_areAllFalling := goodIn_r _ [79, 35, 80, 81, 82, 32, 83, 67, 36, 84, 85, 86, 25, 87, 27, 28, 227, 228, 229, 230, 231, 232, 233, 234, 235, 236] (by decide +kernel) (by decide +kernel)
set_option maxRecDepth 20000 in
theorem gX3_digest_X1_areAllFalling : GoodIn wsX3_digest (wsV RX3 161 RX1 yX1_areAllFalling wsX1_areAllFalling) := goodIn_app (goodIn_of _ (by decide +kernel)) ggX3_digest_X1_areAllFalling
set_option maxRecDepth 20000 in
theorem ggX3_digest_X0_size : GoodIn wsX3_digest wsX0_size := goodIn_r _ [92, 93, 94, 95, 96, 91, 97, 98, 99, 100, 101, 102, 103, 104, 105, 106, 107, 108, 109, 110, 111, 112, 113, 114, 115, 25, 116, 27, 28, 117, 118, 119, 120, 121, 122, 123, 124, 125, 126, 38, 39, 40, 237, 238, 239, 240, 241, 242, 243, 244, 227, 228, 229, 230, 231, 232, 233, 234, 235, 236] (by decide +kernel) (by decide +kernel)
set_option maxRecDepth 20000 in
theorem gX3_digest_X0_size : GoodIn wsX3_digest (wsV RX3 219 RX0 yX0_size wsX0_size) := goodIn_app (goodIn_of _ (by decide +kernel)) ggX3_digest_X0_size
set_option maxRecDepth 20000 in
theorem ggX3_digest_X0_firstUnmet : GoodIn wsX3_digest wsX0_firstUnmet := goodIn_r _ [130, 101, 93, 94, 95, 96, 91, 97, 98, 99, 100, 102, 103, 104, 105, 106, 107, 108, 109, 110, 111, 112, 113, 114, 115, 25, 116, 27, 28, 117, 118, 119, 120, 121, 122, 123, 124, 125, 126, 38, 39, 40, 131, 132, 133, 134, 135, 136, 137, 138, 139, 140, 141, 142, 143, 144, 145, 146, 147, 42, 43, 44, 45, 46, 47, 48, 148, 149, 150, 151, 152, 73, 74, 75, 153, 154, 155, 156, 157, 50, 51, 32, 52, 53, 54, 55, 56, 34, 35, 36, 57, 58, 59, 60, 61, 62, 37, 63, 64, 65, 66, 67, 68, 69, 70, 71, 72, 158, 159, 160, 161, 162, 237, 238, 239, 240, 241, 242, 243, 244, 227, 228, 229, 230, 231, 232, 233, 234, 235, 236] (by decide +kernel) (by decide +kernel)
set_option maxRecDepth 20000 in
theorem gX3_digest_X0_firstUnmet : GoodIn wsX3_digest (wsV RX3 216 RX0 yX0_firstUnmet wsX0_firstUnmet) := goodIn_app (goodIn_of _ (by decide +kernel)) ggX3_digest_X0_firstUnmet
set_option maxRecDepth 20000 in
theorem ggX3_digest_X3_isSound : GoodIn wsX3_digest wsX3_isSound := goodIn_r _ [166, 5, 6, 11, 167, 168, 169, 14, 170, 7, 9, 10, 171, 54, 55, 32, 56, 34, 35, 36, 57, 58, 59, 60, 61, 62, 37, 38, 39, 25, 40, 27, 28, 172, 173, 41, 42, 43, 44, 45, 46, 47, 48, 174, 69, 70, 71, 67, 72, 73, 74, 75, 175, 81, 82, 83, 84, 85, 86, 87, 176, 177, 178, 179, 180, 181, 182, 183, 184, 185, 186, 159, 160, 161, 162, 76, 77, 78, 79, 80, 127, 128, 129, 91, 130, 101, 93, 94, 95, 96, 97, 98, 99, 100, 102, 103, 104, 105, 106, 107, 108, 109, 110, 111, 112, 113, 114, 115, 116, 117, 118, 119, 120, 121, 122, 123, 124, 125, 126, 131, 132, 133, 134, 135, 136, 137, 138, 139, 140, 141, 142, 143, 144, 145, 146, 147, 148, 149, 150, 151, 152, 153, 154, 155, 156, 157, 50, 51, 52, 53, 63, 64, 65, 66, 68, 158, 187, 188, 189, 190, 191, 192, 193, 194, 195, 196, 197, 198, 199, 200, 201, 202, 203, 204, 205, 206, 207, 208, 209, 210, 211, 212, 213, 214, 215, 216, 21, 49, 217, 218, 219, 220, 221, 222, 223, 224, 225, 226, 227, 228, 229, 230, 231, 232, 233, 234, 235, 236, 237, 238, 239, 240, 241, 242, 243, 244] (by decide +kernel) (by decide +kernel)
set_option maxRecDepth 20000 in
theorem gX3_digest_X3_isSound : GoodIn wsX3_digest (wsV RX3 275 RX3 yX3_isSound wsX3_isSound) := goodIn_app (goodIn_of _ (by decide +kernel)) ggX3_digest_X3_isSound
theorem dX3_digest_0 : decode cX3_digest 0 = .ok (.ldc2_w 265, 3) := by decide +kernel
theorem dX3_digest_3 : decode cX3_digest 3 = .ok (.lstore_n 1, 1) := by decide +kernel
theorem dX3_digest_4 : decode cX3_digest 4 = .ok (.lload_n 1, 1) := by decide +kernel
theorem dX3_digest_5 : decode cX3_digest 5 = .ok (.aload_n 0, 1) := by decide +kernel
theorem dX3_digest_6 : decode cX3_digest 6 = .ok (.getfield 42, 3) := by decide +kernel
theorem dX3_digest_9 : decode cX3_digest 9 = .ok (.invokestatic 267, 3) := by decide +kernel
theorem dX3_digest_12 : decode cX3_digest 12 = .ok (.lstore_n 1, 1) := by decide +kernel
theorem dX3_digest_13 : decode cX3_digest 13 = .ok (.lload_n 1, 1) := by decide +kernel
theorem dX3_digest_14 : decode cX3_digest 14 = .ok (.aload_n 0, 1) := by decide +kernel
