theorem dX0_has_0 : decode cX0_has 0 = .ok (.iload_n 1, 1) := by decide +kernel
theorem dX0_has_1 : decode cX0_has 1 = .ok (.ifCond .lt 15, 3) := by decide +kernel
theorem dX0_has_4 : decode cX0_has 4 = .ok (.iload_n 1, 1) := by decide +kernel
theorem dX0_has_5 : decode cX0_has 5 = .ok (.aload_n 0, 1) := by decide +kernel
theorem dX0_has_6 : decode cX0_has 6 = .ok (.invokevirtual 45, 3) := by decide +kernel
theorem dX0_has_9 : decode cX0_has 9 = .ok (.if_icmp .ge 7, 3) := by decide +kernel
theorem dX0_has_12 : decode cX0_has 12 = .ok (.iconst 1, 1) := by decide +kernel
theorem dX0_has_13 : decode cX0_has 13 = .ok (.goto 4, 3) := by decide +kernel
theorem dX0_has_16 : decode cX0_has 16 = .ok (.iconst 0, 1) := by decide +kernel
theorem dX0_has_17 : decode cX0_has 17 = .ok (.ireturn, 1) := by decide +kernel
theorem dX2_makeEmpty_0 : decode cX2_makeEmpty 0 = .ok (.aload_n 0, 1) := by decide +kernel
theorem dX2_makeEmpty_1 : decode cX2_makeEmpty 1 = .ok (.iconst 0, 1) := by decide +kernel
theorem dX2_makeEmpty_2 : decode cX2_makeEmpty 2 = .ok (.putfield 15, 3) := by decide +kernel
theorem dX2_makeEmpty_5 : decode cX2_makeEmpty 5 = .ok (.return_, 1) := by decide +kernel
theorem dX2_appendTo_0 : decode cX2_appendTo 0 = .ok (.iconst 0, 1) := by decide +kernel
theorem dX2_appendTo_1 : decode cX2_appendTo 1 = .ok (.istore_n 2, 1) := by decide +kernel
theorem dX2_appendTo_2 : decode cX2_appendTo 2 = .ok (.iload_n 2, 1) := by decide +kernel
theorem dX2_appendTo_3 : decode cX2_appendTo 3 = .ok (.aload_n 0, 1) := by decide +kernel
theorem dX2_appendTo_4 : decode cX2_appendTo 4 = .ok (.getfield 15, 3) := by decide +kernel
theorem dX2_appendTo_7 : decode cX2_appendTo 7 = .ok (.if_icmp .ge 24, 3) := by decide +kernel
theorem dX2_appendTo_10 : decode cX2_appendTo 10 = .ok (.aload_n 1, 1) := by decide +kernel
theorem dX2_appendTo_11 : decode cX2_appendTo 11 = .ok (.bipush 97, 2) := by decide +kernel
theorem dX2_appendTo_13 : decode cX2_appendTo 13 = .ok (.aload_n 0, 1) := by decide +kernel
theorem dX2_appendTo_14 : decode cX2_appendTo 14 = .ok (.getfield 11, 3) := by decide +kernel
theorem dX2_appendTo_17 : decode cX2_appendTo 17 = .ok (.iload_n 2, 1) := by decide +kernel
theorem dX2_appendTo_18 : decode cX2_appendTo 18 = .ok (.baload, 1) := by decide +kernel
theorem dX2_appendTo_19 : decode cX2_appendTo 19 = .ok (.iadd, 1) := by decide +kernel
theorem dX2_appendTo_20 : decode cX2_appendTo 20 = .ok (.i2c, 1) := by decide +kernel
theorem dX2_appendTo_21 : decode cX2_appendTo 21 = .ok (.invokevirtual 29, 3) := by decide +kernel
theorem dX2_appendTo_24 : decode cX2_appendTo 24 = .ok (.pop, 1) := by decide +kernel
theorem dX2_appendTo_25 : decode cX2_appendTo 25 = .ok (.iinc 2 1, 3) := by decide +kernel
theorem dX2_appendTo_28 : decode cX2_appendTo 28 = .ok (.goto (-26), 3) := by decide +kernel
theorem dX2_appendTo_31 : decode cX2_appendTo 31 = .ok (.return_, 1) := by decide +kernel
set_option maxRecDepth 20000 in
theorem ggX2_asString_J4_init_da8c8 : GoodIn wsX2_asString wsJ4_init_da8c8 := goodIn_r _ [6, 7, 8, 9, 10, 11, 12, 13, 14, 15, 16, 17, 18, 19, 20, 21, 22, 23, 24, 25, 191, 192, 193, 194] (by decide +kernel) (by decide +kernel)
set_option maxRecDepth 20000 in
theorem gX2_asString_J4_init_da8c8 : GoodIn wsX2_asString (wsJ4_init_da8c8) := ggX2_asString_J4_init_da8c8
set_option maxRecDepth 20000 in
theorem ggX2_asString_X2_appendTo : GoodIn wsX2_asString wsX2_appendTo := goodIn_r _ [30, 31, 32, 33, 34, 35, 3, 36, 37, 38, 39, 40, 9, 41, 42, 16, 43, 44, 45, 46, 47, 17, 48, 49, 50, 51, 52, 53, 54, 55, 56, 57, 58, 59, 60, 61, 62, 63, 64, 65, 66, 67, 68, 69, 70, 71, 72, 73, 74, 75, 15, 76, 77, 78, 79, 80, 81, 82, 83, 84, 85, 86, 87, 14, 88, 89, 90, 91, 92, 93, 94, 95, 96, 18, 19, 20, 21, 22, 23, 24, 25, 97, 98, 99, 100, 101, 102, 103, 104, 105, 106, 107, 108, 109, 110, 111, 112, 113, 114, 115, 116, 117, 118, 119, 120, 121, 122, 123, 124, 125, 126, 127, 128, 129, 130, 131, 132, 133, 134, 135, 195, 196, 191, 192, 193, 194] (by decide +kernel) (by decide +kernel)
set_option maxRecDepth 20000 in
theorem gX2_asString_X2_appendTo : GoodIn wsX2_asString (wsV RX2 36 RX2 yX2_appendTo wsX2_appendTo) := goodIn_app (goodIn_of _ (by decide +kernel)) ggX2_asString_X2_appendTo
set_option maxRecDepth 20000 in
theorem ggX2_asString_J4_toString_0e30d : GoodIn wsX2_asString wsJ4_toString_0e30d := goodIn_r _ [139, 140, 141, 111, 142, 143, 144, 145, 146, 147, 148, 12, 13, 149, 150, 151, 152, 153, 154, 155, 156, 9, 157, 16, 158, 159, 160, 161, 162, 3, 163, 164, 39, 165, 166, 42, 167, 84, 85, 86, 87, 14, 17, 168, 169, 68, 170, 70, 71, 72, 73, 74, 75, 171, 172, 173, 15, 76, 77, 60, 78, 79, 80, 81, 82, 174, 175, 176, 177, 2, 178, 179, 20, 180, 181, 182, 183, 103, 104, 105, 106, 107, 108, 109, 110, 112, 113, 114, 115, 116, 117, 184, 185, 186, 121, 122, 123, 22, 23, 24, 25, 187, 188, 189, 190, 197, 198, 199, 200, 191, 192, 193, 194] (by decide +kernel) (by decide +kernel)
set_option maxRecDepth 20000 in
theorem gX2_asString_J4_toString_0e30d : GoodIn wsX2_asString (wsV RX2 40 RJ4 yJ4_toString_0e30d wsJ4_toString_0e30d) := goodIn_app (goodIn_of _ (by decide +kernel)) ggX2_asString_J4_toString_0e30d
theorem dX2_asString_0 : decode cX2_asString 0 = .ok (.new 30, 3) := by decide +kernel
theorem dX2_asString_3 : decode cX2_asString 3 = .ok (.dup, 1) := by decide +kernel
theorem dX2_asString_4 : decode cX2_asString 4 = .ok (.invokespecial 35, 3) := by decide +kernel
theorem dX2_asString_7 : decode cX2_asString 7 = .ok (.astore_n 1, 1) := by decide +kernel
theorem dX2_asString_8 : decode cX2_asString 8 = .ok (.aload_n 0, 1) := by decide +kernel
theorem dX2_asString_9 : decode cX2_asString 9 = .ok (.aload_n 1, 1) := by decide +kernel
theorem dX2_asString_10 : decode cX2_asString 10 = .ok (.invokevirtual 36, 3) := by decide +kernel
theorem dX2_asString_13 : decode cX2_asString 13 = .ok (.aload_n 1, 1) := by decide +kernel
theorem dX2_asString_14 : decode cX2_asString 14 = .ok (.invokevirtual 40, 3) := by decide +kernel
theorem dX2_asString_17 : decode cX2_asString 17 = .ok (.areturn, 1) := by decide +kernel
set_option maxRecDepth 20000 in
theorem ggX3_clear_X3_needRope : GoodIn wsX3_clear wsX3_needRope := goodIn_ca (goodIn_r _ [6, 7, 8] (by decide +kernel) (by decide +kernel)) (goodIn_sub (fun _ h => List.mem_cons_of_mem _ (List.mem_append_right _ h)) (by decide +kernel))
set_option maxRecDepth 20000 in
theorem gX3_clear_X3_needRope : GoodIn wsX3_clear (va_wsS RX3 52 yX3_needRope wsX3_needRope) := goodIn_app (goodIn_of _ (by decide +kernel)) ggX3_clear_X3_needRope
set_option maxRecDepth 20000 in
theorem ggX3_clear_X2_makeEmpty : GoodIn wsX3_clear wsX2_makeEmpty := goodIn_r _ [13, 14, 24, 25] (by decide +kernel) (by decide +kernel)
set_option maxRecDepth 20000 in
theorem gX3_clear_X2_makeEmpty : GoodIn wsX3_clear (wsV RX3 59 RX2 yX2_makeEmpty wsX2_makeEmpty) := goodIn_app (goodIn_of _ (by decide +kernel)) ggX3_clear_X2_makeEmpty
theorem dX3_clear_0 : decode cX3_clear 0 = .ok (.iload_n 1, 1) := by decide +kernel
theorem dX3_clear_1 : decode cX3_clear 1 = .ok (.invokestatic 52, 3) := by decide +kernel
theorem dX3_clear_4 : decode cX3_clear 4 = .ok (.aload_n 0, 1) := by decide +kernel
theorem dX3_clear_5 : decode cX3_clear 5 = .ok (.getfield 11, 3) := by decide +kernel
theorem dX3_clear_8 : decode cX3_clear 8 = .ok (.iload_n 1, 1) := by decide +kernel
theorem dX3_clear_9 : decode cX3_clear 9 = .ok (.aaload, 1) := by decide +kernel
theorem dX3_clear_10 : decode cX3_clear 10 = .ok (.getfield 65, 3) := by decide +kernel
theorem dX3_clear_13 : decode cX3_clear 13 = .ok (.istore_n 2, 1) := by decide +kernel
theorem dX3_clear_14 : decode cX3_clear 14 = .ok (.aload_n 0, 1) := by decide +kernel
theorem dX3_clear_15 : decode cX3_clear 15 = .ok (.getfield 11, 3) := by decide +kernel
theorem dX3_clear_18 : decode cX3_clear 18 = .ok (.iload_n 1, 1) := by decide +kernel
theorem dX3_clear_19 : decode cX3_clear 19 = .ok (.aaload, 1) := by decide +kernel
theorem dX3_clear_20 : decode cX3_clear 20 = .ok (.invokevirtual 59, 3) := by decide +kernel
theorem dX3_clear_23 : decode cX3_clear 23 = .ok (.iload_n 2, 1) := by decide +kernel
theorem dX3_clear_24 : decode cX3_clear 24 = .ok (.ireturn, 1) := by decide +kernel
set_option maxRecDepth 20000 in
theorem ggX3_lay_X3_needRope : GoodIn wsX3_lay wsX3_needRope := goodIn_ca (goodIn_r _ [7, 8, 9] (by decide +kernel) (by decide +kernel)) (goodIn_sub (fun _ h => List.mem_cons_of_mem _ (List.mem_append_right _ h)) (by decide +kernel))
set_option maxRecDepth 20000 in
theorem gX3_lay_X3_needRope : GoodIn wsX3_lay (va_wsS RX3 52 yX3_needRope wsX3_needRope) := goodIn_app (goodIn_of _ (by decide +kernel)) ggX3_lay_X3_needRope
set_option maxRecDepth 20000 in
theorem ggX3_lay_X3_needPlace : GoodIn wsX3_lay wsX3_needPlace := goodIn_ca (goodIn_r _ [12, 8, 9, 2, 42, 43] (by decide +kernel) (by decide +kernel)) (goodIn_sub (fun _ h => List.mem_cons_of_mem _ (List.mem_append_right _ h)) (by decide +kernel))
set_option maxRecDepth 20000 in
theorem gX3_lay_X3_needPlace : GoodIn wsX3_lay (va_wsS RX3 83 yX3_needPlace wsX3_needPlace) := goodIn_app (goodIn_of _ (by decide +kernel)) ggX3_lay_X3_needPlace
theorem dX3_lay_0 : decode cX3_lay 0 = .ok (.iload_n 1, 1) := by decide +kernel
theorem dX3_lay_1 : decode cX3_lay 1 = .ok (.invokestatic 52, 3) := by decide +kernel
theorem dX3_lay_4 : decode cX3_lay 4 = .ok (.iload_n 3, 1) := by decide +kernel
theorem dX3_lay_5 : decode cX3_lay 5 = .ok (.invokestatic 52, 3) := by decide +kernel
theorem dX3_lay_8 : decode cX3_lay 8 = .ok (.aload_n 0, 1) := by decide +kernel
theorem dX3_lay_9 : decode cX3_lay 9 = .ok (.getfield 11, 3) := by decide +kernel
theorem dX3_lay_12 : decode cX3_lay 12 = .ok (.iload_n 1, 1) := by decide +kernel
theorem dX3_lay_13 : decode cX3_lay 13 = .ok (.aaload, 1) := by decide +kernel
theorem dX3_lay_14 : decode cX3_lay 14 = .ok (.astore 4, 2) := by decide +kernel
theorem dX3_lay_16 : decode cX3_lay 16 = .ok (.aload 4, 2) := by decide +kernel
theorem dX3_lay_18 : decode cX3_lay 18 = .ok (.iload_n 2, 1) := by decide +kernel
theorem dX3_lay_19 : decode cX3_lay 19 = .ok (.invokestatic 83, 3) := by decide +kernel
theorem dX3_lay_22 : decode cX3_lay 22 = .ok (.aload 4, 2) := by decide +kernel
theorem dX3_lay_24 : decode cX3_lay 24 = .ok (.getfield 65, 3) := by decide +kernel
theorem dX3_lay_27 : decode cX3_lay 27 = .ok (.aload_n 0, 1) := by decide +kernel
theorem dX3_lay_28 : decode cX3_lay 28 = .ok (.getfield 11, 3) := by decide +kernel
theorem dX3_lay_31 : decode cX3_lay 31 = .ok (.iload_n 3, 1) := by decide +kernel
theorem dX3_lay_32 : decode cX3_lay 32 = .ok (.aaload, 1) := by decide +kernel
theorem dX3_lay_33 : decode cX3_lay 33 = .ok (.getfield 65, 3) := by decide +kernel
theorem dX3_lay_36 : decode cX3_lay 36 = .ok (.iadd, 1) := by decide +kernel
theorem dX3_lay_37 : decode cX3_lay 37 = .ok (.bipush 32, 2) := by decide +kernel
theorem dX3_lay_39 : decode cX3_lay 39 = .ok (.if_icmp .le 8, 3) := by decide +kernel
theorem dX3_lay_42 : decode cX3_lay 42 = .ok (.aload_n 0, 1) := by decide +kernel
theorem dX3_lay_43 : decode cX3_lay 43 = .ok (.invokevirtual 87, 3) := by decide +kernel
theorem dX3_lay_46 : decode cX3_lay 46 = .ok (.ireturn, 1) := by decide +kernel
theorem dX3_lay_47 : decode cX3_lay 47 = .ok (.aload_n 0, 1) := by decide +kernel
theorem dX3_lay_48 : decode cX3_lay 48 = .ok (.getfield 32, 3) := by decide +kernel
theorem dX3_lay_51 : decode cX3_lay 51 = .ok (.aload_n 0, 1) := by decide +kernel
theorem dX3_lay_52 : decode cX3_lay 52 = .ok (.getfield 11, 3) := by decide +kernel
theorem dX3_lay_55 : decode cX3_lay 55 = .ok (.iload_n 3, 1) := by decide +kernel
theorem dX3_lay_56 : decode cX3_lay 56 = .ok (.aaload, 1) := by decide +kernel
theorem dX3_lay_57 : decode cX3_lay 57 = .ok (.invokevirtual 79, 3) := by decide +kernel
theorem dX3_lay_60 : decode cX3_lay 60 = .ok (.aload 4, 2) := by decide +kernel
theorem dX3_lay_62 : decode cX3_lay 62 = .ok (.iload_n 2, 1) := by decide +kernel
theorem dX3_lay_63 : decode cX3_lay 63 = .ok (.iload_n 2, 1) := by decide +kernel
theorem dX3_lay_64 : decode cX3_lay 64 = .ok (.aload_n 0, 1) := by decide +kernel
theorem dX3_lay_65 : decode cX3_lay 65 = .ok (.getfield 32, 3) := by decide +kernel
theorem dX3_lay_68 : decode cX3_lay 68 = .ok (.invokevirtual 91, 3) := by decide +kernel
theorem dX3_lay_71 : decode cX3_lay 71 = .ok (.aload 4, 2) := by decide +kernel
theorem dX3_lay_73 : decode cX3_lay 73 = .ok (.getfield 65, 3) := by decide +kernel
theorem dX3_lay_76 : decode cX3_lay 76 = .ok (.ireturn, 1) := by decide +kernel
set_option maxRecDepth 20000 in
theorem ggX3_text_X3_needRope : GoodIn wsX3_text wsX3_needRope := goodIn_ca (goodIn_r _ [5, 6, 7] (by decide +kernel) (by decide +kernel)) (goodIn_sub (fun _ h => List.mem_cons_of_mem _ (List.mem_append_right _ h)) (by decide +kernel))
set_option maxRecDepth 20000 in
theorem gX3_text_X3_needRope : GoodIn wsX3_text (va_wsS RX3 52 yX3_needRope wsX3_needRope) := goodIn_app (goodIn_of _ (by decide +kernel)) ggX3_text_X3_needRope
set_option maxRecDepth 20000 in
theorem ggX3_text_X2_asString : GoodIn wsX3_text wsX2_asString := goodIn_r _ [12, 13, 14, 15, 16, 17, 18, 19, 20, 21, 22, 23, 24, 25, 26, 27, 28, 29, 30, 31, 32, 33, 34, 35, 36, 37, 38, 39, 40, 11, 41, 42, 43, 44, 45, 46, 47, 48, 49, 50, 51, 52, 53, 54, 55, 56, 57, 58, 59, 60, 61, 62, 63, 64, 65, 66, 67, 68, 69, 70, 71, 72, 73, 74, 75, 76, 77, 78, 79, 80, 81, 82, 83, 84, 85, 86, 87, 88, 89, 90, 91, 92, 93, 94, 95, 96, 97, 98, 99, 100, 101, 102, 103, 104, 105, 106, 107, 108, 109, 110, 111, 112, 113, 114, 115, 116, 117, 118, 119, 120, 121, 122, 123, 124, 125, 126, 127, 128, 129, 130, 131, 132, 133, 134, 135, 136, 137, 138, 139, 140, 141, 142, 143, 144, 145, 146, 147, 148, 149, 150, 151, 152, 153, 154, 155, 156, 157, 158, 159, 160, 161, 162, 163, 164, 165, 166, 167, 168, 169, 170, 171, 172, 173, 174, 175, 176, 177, 178, 179, 180, 181, 182, 183, 184, 185, 186, 187, 188, 189, 190, 191, 192, 193, 194, 195, 196, 197, 198, 199, 200, 201, 211, 212, 213, 214, 215, 216, 217, 218, 219, 220] (by decide +kernel) (by decide +kernel)
set_option maxRecDepth 20000 in
theorem gX3_text_X2_asString : GoodIn wsX3_text (wsV RX3 103 RX2 yX2_asString wsX2_asString) := goodIn_app (goodIn_of _ (by decide +kernel)) ggX3_text_X2_asString
theorem dX3_text_0 : decode cX3_text 0 = .ok (.iload_n 1, 1) := by decide +kernel
theorem dX3_text_1 : decode cX3_text 1 = .ok (.invokestatic 52, 3) := by decide +kernel
theorem dX3_text_4 : decode cX3_text 4 = .ok (.aload_n 0, 1) := by decide +kernel
theorem dX3_text_5 : decode cX3_text 5 = .ok (.getfield 11, 3) := by decide +kernel
theorem dX3_text_8 : decode cX3_text 8 = .ok (.iload_n 1, 1) := by decide +kernel
theorem dX3_text_9 : decode cX3_text 9 = .ok (.aaload, 1) := by decide +kernel
theorem dX3_text_10 : decode cX3_text 10 = .ok (.invokevirtual 103, 3) := by decide +kernel
theorem dX3_text_13 : decode cX3_text 13 = .ok (.areturn, 1) := by decide +kernel
set_option maxRecDepth 20000 in
theorem ggX3_meets_X0_has : GoodIn wsX3_meets wsX0_has := goodIn_r _ [8, 9, 10, 11, 7, 12, 13, 14, 15, 16, 17, 18, 19, 20, 21, 22, 23, 24, 25, 26, 27, 28, 29, 30, 31, 32, 33, 34, 35, 36, 37, 38, 39, 40, 41, 42, 43, 44, 45, 46, 47, 48, 49, 50, 51, 52, 132, 133, 134, 135, 136, 137, 138, 139, 140, 141, 142, 143, 144, 145, 146, 147, 148, 149] (by decide +kernel) (by decide +kernel)
set_option maxRecDepth 20000 in
theorem gX3_meets_X0_has : GoodIn wsX3_meets (wsV RX3 221 RX0 yX0_has wsX0_has) := goodIn_app (goodIn_of _ (by decide +kernel)) ggX3_meets_X0_has
theorem dX3_meets_0 : decode cX3_meets 0 = .ok (.aload_n 0, 1) := by decide +kernel
theorem dX3_meets_1 : decode cX3_meets 1 = .ok (.getfield 27, 3) := by decide +kernel
theorem dX3_meets_4 : decode cX3_meets 4 = .ok (.iload_n 1, 1) := by decide +kernel
theorem dX3_meets_5 : decode cX3_meets 5 = .ok (.invokevirtual 221, 3) := by decide +kernel
theorem dX3_meets_8 : decode cX3_meets 8 = .ok (.ifCond .ne 13, 3) := by decide +kernel
theorem dX3_meets_11 : decode cX3_meets 11 = .ok (.new 236, 3) := by decide +kernel
theorem dX3_meets_14 : decode cX3_meets 14 = .ok (.dup, 1) := by decide +kernel
theorem dX3_meets_15 : decode cX3_meets 15 = .ok (.ldc 238, 2) := by decide +kernel
theorem dX3_meets_17 : decode cX3_meets 17 = .ok (.invokespecial 240, 3) := by decide +kernel
theorem dX3_meets_20 : decode cX3_meets 20 = .ok (.athrow, 1) := by decide +kernel
theorem dX3_meets_21 : decode cX3_meets 21 = .ok (.aload_n 0, 1) := by decide +kernel
theorem dX3_meets_22 : decode cX3_meets 22 = .ok (.getfield 27, 3) := by decide +kernel
theorem dX3_meets_25 : decode cX3_meets 25 = .ok (.iload_n 1, 1) := by decide +kernel
theorem dX3_meets_26 : decode cX3_meets 26 = .ok (.invokevirtual 241, 3) := by decide +kernel
theorem dX3_meets_29 : decode cX3_meets 29 = .ok (.ireturn, 1) := by decide +kernel
theorem dX3_needRope_0 : decode cX3_needRope 0 = .ok (.iload_n 0, 1) := by decide +kernel
theorem dX3_needRope_1 : decode cX3_needRope 1 = .ok (.ifCond .lt 8, 3) := by decide +kernel
theorem dX3_needRope_4 : decode cX3_needRope 4 = .ok (.iload_n 0, 1) := by decide +kernel
theorem dX3_needRope_5 : decode cX3_needRope 5 = .ok (.iconst 4, 1) := by decide +kernel
theorem dX3_needRope_6 : decode cX3_needRope 6 = .ok (.if_icmp .lt 14, 3) := by decide +kernel
theorem dX3_needRope_9 : decode cX3_needRope 9 = .ok (.new 236, 3) := by decide +kernel
theorem dX3_needRope_12 : decode cX3_needRope 12 = .ok (.dup, 1) := by decide +kernel
theorem dX3_needRope_13 : decode cX3_needRope 13 = .ok (.ldc_w 278, 3) := by decide +kernel
theorem dX3_needRope_16 : decode cX3_needRope 16 = .ok (.invokespecial 240, 3) := by decide +kernel
theorem dX3_needRope_19 : decode cX3_needRope 19 = .ok (.athrow, 1) := by decide +kernel
theorem dX3_needRope_20 : decode cX3_needRope 20 = .ok (.return_, 1) := by decide +kernel
theorem dX3_needPlace_0 : decode cX3_needPlace 0 = .ok (.iload_n 1, 1) := by decide +kernel
theorem dX3_needPlace_1 : decode cX3_needPlace 1 = .ok (.ifCond .lt 11, 3) := by decide +kernel
theorem dX3_needPlace_4 : decode cX3_needPlace 4 = .ok (.iload_n 1, 1) := by decide +kernel
theorem dX3_needPlace_5 : decode cX3_needPlace 5 = .ok (.aload_n 0, 1) := by decide +kernel
theorem dX3_needPlace_6 : decode cX3_needPlace 6 = .ok (.getfield 65, 3) := by decide +kernel
theorem dX3_needPlace_9 : decode cX3_needPlace 9 = .ok (.if_icmp .le 14, 3) := by decide +kernel
theorem dX3_needPlace_12 : decode cX3_needPlace 12 = .ok (.new 236, 3) := by decide +kernel
theorem dX3_needPlace_15 : decode cX3_needPlace 15 = .ok (.dup, 1) := by decide +kernel
theorem dX3_needPlace_16 : decode cX3_needPlace 16 = .ok (.ldc_w 282, 3) := by decide +kernel
theorem dX3_needPlace_19 : decode cX3_needPlace 19 = .ok (.invokespecial 240, 3) := by decide +kernel
theorem dX3_needPlace_22 : decode cX3_needPlace 22 = .ok (.athrow, 1) := by decide +kernel
theorem dX3_needPlace_23 : decode cX3_needPlace 23 = .ok (.return_, 1) := by decide +kernel
theorem dX5_thrown_0 : decode cX5_thrown 0 = .ok (.aload_n 0, 1) := by decide +kernel
theorem dX5_thrown_1 : decode cX5_thrown 1 = .ok (.getfield 27, 3) := by decide +kernel
theorem dX5_thrown_4 : decode cX5_thrown 4 = .ok (.ireturn, 1) := by decide +kernel
theorem dX5_fails_0 : decode cX5_fails 0 = .ok (.aload_n 0, 1) := by decide +kernel
theorem dX5_fails_1 : decode cX5_fails 1 = .ok (.iload_n 1, 1) := by decide +kernel
theorem dX5_fails_2 : decode cX5_fails 2 = .ok (.ifCond .eq 7, 3) := by decide +kernel
theorem dX5_fails_5 : decode cX5_fails 5 = .ok (.iconst 1, 1) := by decide +kernel
theorem dX5_fails_6 : decode cX5_fails 6 = .ok (.goto 20, 3) := by decide +kernel
theorem dX5_fails_9 : decode cX5_fails 9 = .ok (.iload_n 2, 1) := by decide +kernel
theorem dX5_fails_10 : decode cX5_fails 10 = .ok (.ifCond .eq 7, 3) := by decide +kernel
theorem dX5_fails_13 : decode cX5_fails 13 = .ok (.iconst 2, 1) := by decide +kernel
theorem dX5_fails_14 : decode cX5_fails 14 = .ok (.goto 12, 3) := by decide +kernel
theorem dX5_fails_17 : decode cX5_fails 17 = .ok (.iload_n 3, 1) := by decide +kernel
theorem dX5_fails_18 : decode cX5_fails 18 = .ok (.ifCond .eq 7, 3) := by decide +kernel
theorem dX5_fails_21 : decode cX5_fails 21 = .ok (.iconst 3, 1) := by decide +kernel
theorem dX5_fails_22 : decode cX5_fails 22 = .ok (.goto 4, 3) := by decide +kernel
theorem dX5_fails_25 : decode cX5_fails 25 = .ok (.iconst 0, 1) := by decide +kernel
theorem dX5_fails_26 : decode cX5_fails 26 = .ok (.putfield 27, 3) := by decide +kernel
theorem dX5_fails_29 : decode cX5_fails 29 = .ok (.aload_n 0, 1) := by decide +kernel
theorem dX5_fails_30 : decode cX5_fails 30 = .ok (.getfield 27, 3) := by decide +kernel
theorem dX5_fails_33 : decode cX5_fails 33 = .ok (.ifCond .le 7, 3) := by decide +kernel
theorem dX5_fails_36 : decode cX5_fails 36 = .ok (.iconst 1, 1) := by decide +kernel
theorem dX5_fails_37 : decode cX5_fails 37 = .ok (.goto 4, 3) := by decide +kernel
theorem dX5_fails_40 : decode cX5_fails 40 = .ok (.iconst 0, 1) := by decide +kernel
theorem dX5_fails_41 : decode cX5_fails 41 = .ok (.ireturn, 1) := by decide +kernel
theorem dX5_isIn_0 : decode cX5_isIn 0 = .ok (.iload_n 0, 1) := by decide +kernel
theorem dX5_isIn_1 : decode cX5_isIn 1 = .ok (.iload_n 1, 1) := by decide +kernel
theorem dX5_isIn_2 : decode cX5_isIn 2 = .ok (.if_icmp .lt 12, 3) := by decide +kernel
theorem dX5_isIn_5 : decode cX5_isIn 5 = .ok (.iload_n 0, 1) := by decide +kernel
theorem dX5_isIn_6 : decode cX5_isIn 6 = .ok (.iload_n 2, 1) := by decide +kernel
theorem dX5_isIn_7 : decode cX5_isIn 7 = .ok (.if_icmp .gt 7, 3) := by decide +kernel
theorem dX5_isIn_10 : decode cX5_isIn 10 = .ok (.iconst 1, 1) := by decide +kernel
theorem dX5_isIn_11 : decode cX5_isIn 11 = .ok (.goto 4, 3) := by decide +kernel
theorem dX5_isIn_14 : decode cX5_isIn 14 = .ok (.iconst 0, 1) := by decide +kernel
theorem dX5_isIn_15 : decode cX5_isIn 15 = .ok (.ireturn, 1) := by decide +kernel
set_option maxRecDepth 20000 in
theorem ggX5_isNo_X5_isIn : GoodIn wsX5_isNo wsX5_isIn := goodIn_r _ [4] (by decide +kernel) (by decide +kernel)
set_option maxRecDepth 20000 in
theorem gX5_isNo_X5_isIn : GoodIn wsX5_isNo (va_wsS RX5 31 yX5_isIn wsX5_isIn) := goodIn_app (goodIn_of _ (by decide +kernel)) ggX5_isNo_X5_isIn
theorem dX5_isNo_0 : decode cX5_isNo 0 = .ok (.iload_n 0, 1) := by decide +kernel
theorem dX5_isNo_1 : decode cX5_isNo 1 = .ok (.iconst 0, 1) := by decide +kernel
theorem dX5_isNo_2 : decode cX5_isNo 2 = .ok (.iconst 3, 1) := by decide +kernel
theorem dX5_isNo_3 : decode cX5_isNo 3 = .ok (.invokestatic 31, 3) := by decide +kernel
theorem dX5_isNo_6 : decode cX5_isNo 6 = .ok (.ifCond .ne 7, 3) := by decide +kernel
theorem dX5_isNo_9 : decode cX5_isNo 9 = .ok (.iconst 1, 1) := by decide +kernel
theorem dX5_isNo_10 : decode cX5_isNo 10 = .ok (.goto 4, 3) := by decide +kernel
theorem dX5_isNo_13 : decode cX5_isNo 13 = .ok (.iconst 0, 1) := by decide +kernel
theorem dX5_isNo_14 : decode cX5_isNo 14 = .ok (.ireturn, 1) := by decide +kernel
set_option maxRecDepth 20000 in
theorem ggX5_allPeaks_Jx4a65c_init_da8c8 : GoodIn wsX5_allPeaks wsJx4a65c_init_da8c8 := goodIn_r _ [13, 14, 15, 16, 17, 18, 19, 20, 21, 22, 23, 24, 25, 26, 27, 343, 344, 345] (by decide +kernel) (by decide +kernel)
set_option maxRecDepth 20000 in
theorem gX5_allPeaks_Jx4a65c_init_da8c8 : GoodIn wsX5_allPeaks (wsJx4a65c_init_da8c8) := ggX5_allPeaks_Jx4a65c_init_da8c8
set_option maxRecDepth 20000 in
theorem ggX5_allPeaks_Jx4a65c_size_8abf5 : GoodIn wsX5_allPeaks wsJx4a65c_size_8abf5 := goodIn_r _ [31, 32, 343, 344, 345] (by decide +kernel) (by decide +kernel)
set_option maxRecDepth 20000 in
theorem gX5_allPeaks_Jx4a65c_size_8abf5 : GoodIn wsX5_allPeaks (wsV RX5 35 RJx4a65c yJx4a65c_size_8abf5 wsJx4a65c_size_8abf5) := goodIn_app (goodIn_of _ (by decide +kernel)) ggX5_allPeaks_Jx4a65c_size_8abf5
set_option maxRecDepth 20000 in
theorem ggX5_allPeaks_J0_length_8abf5 : GoodIn wsX5_allPeaks wsJ0_length_8abf5 := goodIn_r _ [53, 54, 55, 56, 57, 52, 58, 59, 60, 357, 358, 359, 360] (by decide +kernel) (by decide +kernel)
set_option maxRecDepth 20000 in
theorem gX5_allPeaks_J0_length_8abf5 : GoodIn wsX5_allPeaks (wsV RX5 42 RJ0 yJ0_length_8abf5 wsJ0_length_8abf5) := goodIn_app (goodIn_of _ (by decide +kernel)) ggX5_allPeaks_J0_length_8abf5
set_option maxRecDepth 20000 in
theorem ggX5_allPeaks_J4_init_da8c8 : GoodIn wsX5_allPeaks wsJ4_init_da8c8 := goodIn_r _ [181, 182, 183, 184, 185, 186, 26, 27, 187, 96, 188, 189, 190, 191, 115, 192, 143, 144, 145, 146, 353, 354, 355, 356] (by decide +kernel) (by decide +kernel)
set_option maxRecDepth 20000 in
theorem gX5_allPeaks_J4_init_da8c8 : GoodIn wsX5_allPeaks (wsJ4_init_da8c8) := ggX5_allPeaks_J4_init_da8c8
set_option maxRecDepth 20000 in
theorem ggX5_allPeaks_J4_toString_0e30d : GoodIn wsX5_allPeaks wsJ4_toString_0e30d := goodIn_r _ [280, 281, 82, 52, 282, 283, 284, 285, 286, 287, 112, 26, 27, 60, 54, 59, 288, 289, 290, 291, 292, 184, 293, 188, 294, 295, 296, 297, 298, 9, 299, 300, 199, 301, 302, 202, 303, 234, 235, 236, 237, 187, 189, 304, 84, 85, 86, 87, 88, 89, 90, 91, 92, 93, 94, 95, 96, 97, 98, 99, 100, 101, 102, 103, 104, 105, 106, 107, 108, 8, 305, 120, 115, 121, 122, 123, 124, 125, 126, 127, 128, 129, 130, 131, 132, 133, 69, 134, 135, 43, 136, 137, 138, 139, 140, 141, 142, 143, 144, 145, 146, 147, 306, 149, 150, 357, 358, 359, 360, 353, 354, 355, 356] (by decide +kernel) (by decide +kernel)
set_option maxRecDepth 20000 in
theorem gX5_allPeaks_J4_toString_0e30d : GoodIn wsX5_allPeaks (wsV RX5 63 RJ4 yJ4_toString_0e30d wsJ4_toString_0e30d) := goodIn_app (goodIn_of _ (by decide +kernel)) ggX5_allPeaks_J4_toString_0e30d
theorem dX5_allPeaks_0 : decode cX5_allPeaks 0 = .ok (.new 17, 3) := by decide +kernel
theorem dX5_allPeaks_3 : decode cX5_allPeaks 3 = .ok (.dup, 1) := by decide +kernel
theorem dX5_allPeaks_4 : decode cX5_allPeaks 4 = .ok (.invokespecial 19, 3) := by decide +kernel
theorem dX5_allPeaks_7 : decode cX5_allPeaks 7 = .ok (.astore_n 1, 1) := by decide +kernel
theorem dX5_allPeaks_8 : decode cX5_allPeaks 8 = .ok (.iconst 0, 1) := by decide +kernel
theorem dX5_allPeaks_9 : decode cX5_allPeaks 9 = .ok (.istore_n 2, 1) := by decide +kernel
theorem dX5_allPeaks_10 : decode cX5_allPeaks 10 = .ok (.iload_n 2, 1) := by decide +kernel
theorem dX5_allPeaks_11 : decode cX5_allPeaks 11 = .ok (.aload_n 0, 1) := by decide +kernel
theorem dX5_allPeaks_12 : decode cX5_allPeaks 12 = .ok (.getfield 20, 3) := by decide +kernel
theorem dX5_allPeaks_15 : decode cX5_allPeaks 15 = .ok (.invokevirtual 35, 3) := by decide +kernel
theorem dX5_allPeaks_18 : decode cX5_allPeaks 18 = .ok (.if_icmp .ge 317, 3) := by decide +kernel
theorem dX5_allPeaks_21 : decode cX5_allPeaks 21 = .ok (.iconst 0, 1) := by decide +kernel
theorem dX5_allPeaks_22 : decode cX5_allPeaks 22 = .ok (.istore_n 3, 1) := by decide +kernel
theorem dX5_allPeaks_23 : decode cX5_allPeaks 23 = .ok (.iload_n 3, 1) := by decide +kernel
theorem dX5_allPeaks_24 : decode cX5_allPeaks 24 = .ok (.aload_n 0, 1) := by decide +kernel
theorem dX5_allPeaks_25 : decode cX5_allPeaks 25 = .ok (.getfield 20, 3) := by decide +kernel
theorem dX5_allPeaks_28 : decode cX5_allPeaks 28 = .ok (.invokevirtual 35, 3) := by decide +kernel
theorem dX5_allPeaks_31 : decode cX5_allPeaks 31 = .ok (.if_icmp .ge 298, 3) := by decide +kernel
theorem dX5_allPeaks_34 : decode cX5_allPeaks 34 = .ok (.aload_n 0, 1) := by decide +kernel
theorem dX5_allPeaks_35 : decode cX5_allPeaks 35 = .ok (.getfield 20, 3) := by decide +kernel
theorem dX5_allPeaks_38 : decode cX5_allPeaks 38 = .ok (.iload_n 2, 1) := by decide +kernel
theorem dX5_allPeaks_39 : decode cX5_allPeaks 39 = .ok (.invokevirtual 67, 3) := by decide +kernel
theorem dX5_allPeaks_42 : decode cX5_allPeaks 42 = .ok (.checkcast 7, 3) := by decide +kernel
theorem dX5_allPeaks_45 : decode cX5_allPeaks 45 = .ok (.astore 4, 2) := by decide +kernel
theorem dX5_allPeaks_47 : decode cX5_allPeaks 47 = .ok (.aload_n 0, 1) := by decide +kernel
theorem dX5_allPeaks_48 : decode cX5_allPeaks 48 = .ok (.getfield 20, 3) := by decide +kernel
theorem dX5_allPeaks_51 : decode cX5_allPeaks 51 = .ok (.iload_n 3, 1) := by decide +kernel
theorem dX5_allPeaks_52 : decode cX5_allPeaks 52 = .ok (.invokevirtual 67, 3) := by decide +kernel
theorem dX5_allPeaks_55 : decode cX5_allPeaks 55 = .ok (.checkcast 7, 3) := by decide +kernel
theorem dX5_allPeaks_58 : decode cX5_allPeaks 58 = .ok (.astore 5, 2) := by decide +kernel
theorem dX5_allPeaks_60 : decode cX5_allPeaks 60 = .ok (.iconst 1, 1) := by decide +kernel
theorem dX5_allPeaks_61 : decode cX5_allPeaks 61 = .ok (.istore 6, 2) := by decide +kernel
theorem dX5_allPeaks_63 : decode cX5_allPeaks 63 = .ok (.iload 6, 2) := by decide +kernel
theorem dX5_allPeaks_65 : decode cX5_allPeaks 65 = .ok (.aload 4, 2) := by decide +kernel
theorem dX5_allPeaks_67 : decode cX5_allPeaks 67 = .ok (.invokevirtual 42, 3) := by decide +kernel
theorem dX5_allPeaks_70 : decode cX5_allPeaks 70 = .ok (.if_icmp .ge 163, 3) := by decide +kernel
theorem dX5_allPeaks_73 : decode cX5_allPeaks 73 = .ok (.iload 6, 2) := by decide +kernel
theorem dX5_allPeaks_75 : decode cX5_allPeaks 75 = .ok (.aload 5, 2) := by decide +kernel
theorem dX5_allPeaks_77 : decode cX5_allPeaks 77 = .ok (.invokevirtual 42, 3) := by decide +kernel
theorem dX5_allPeaks_80 : decode cX5_allPeaks 80 = .ok (.if_icmp .ge 153, 3) := by decide +kernel
theorem dX5_allPeaks_83 : decode cX5_allPeaks 83 = .ok (.aload 5, 2) := by decide +kernel
theorem dX5_allPeaks_85 : decode cX5_allPeaks 85 = .ok (.iconst 0, 1) := by decide +kernel
theorem dX5_allPeaks_86 : decode cX5_allPeaks 86 = .ok (.iload 6, 2) := by decide +kernel
theorem dX5_allPeaks_88 : decode cX5_allPeaks 88 = .ok (.invokevirtual 52, 3) := by decide +kernel
theorem dX5_allPeaks_91 : decode cX5_allPeaks 91 = .ok (.aload 4, 2) := by decide +kernel
theorem dX5_allPeaks_93 : decode cX5_allPeaks 93 = .ok (.aload 4, 2) := by decide +kernel
theorem dX5_allPeaks_95 : decode cX5_allPeaks 95 = .ok (.invokevirtual 42, 3) := by decide +kernel
theorem dX5_allPeaks_98 : decode cX5_allPeaks 98 = .ok (.iload 6, 2) := by decide +kernel
theorem dX5_allPeaks_100 : decode cX5_allPeaks 100 = .ok (.isub, 1) := by decide +kernel
theorem dX5_allPeaks_101 : decode cX5_allPeaks 101 = .ok (.invokestatic 79, 3) := by decide +kernel
theorem dX5_allPeaks_104 : decode cX5_allPeaks 104 = .ok (.ifCond .ne 6, 3) := by decide +kernel
theorem dX5_allPeaks_107 : decode cX5_allPeaks 107 = .ok (.goto 120, 3) := by decide +kernel
theorem dX5_allPeaks_110 : decode cX5_allPeaks 110 = .ok (.aload 5, 2) := by decide +kernel
theorem dX5_allPeaks_112 : decode cX5_allPeaks 112 = .ok (.iload 6, 2) := by decide +kernel
theorem dX5_allPeaks_114 : decode cX5_allPeaks 114 = .ok (.invokevirtual 60, 3) := by decide +kernel
theorem dX5_allPeaks_117 : decode cX5_allPeaks 117 = .ok (.astore 7, 2) := by decide +kernel
theorem dX5_allPeaks_119 : decode cX5_allPeaks 119 = .ok (.aload_n 1, 1) := by decide +kernel
theorem dX5_allPeaks_120 : decode cX5_allPeaks 120 = .ok (.iconst 3, 1) := by decide +kernel
theorem dX5_allPeaks_121 : decode cX5_allPeaks 121 = .ok (.anewarray 7, 3) := by decide +kernel
theorem dX5_allPeaks_124 : decode cX5_allPeaks 124 = .ok (.dup, 1) := by decide +kernel
theorem dX5_allPeaks_125 : decode cX5_allPeaks 125 = .ok (.iconst 0, 1) := by decide +kernel
theorem dX5_allPeaks_126 : decode cX5_allPeaks 126 = .ok (.new 49, 3) := by decide +kernel
theorem dX5_allPeaks_129 : decode cX5_allPeaks 129 = .ok (.dup, 1) := by decide +kernel
theorem dX5_allPeaks_130 : decode cX5_allPeaks 130 = .ok (.invokespecial 51, 3) := by decide +kernel
theorem dX5_allPeaks_133 : decode cX5_allPeaks 133 = .ok (.aload 4, 2) := by decide +kernel
theorem dX5_allPeaks_135 : decode cX5_allPeaks 135 = .ok (.invokevirtual 56, 3) := by decide +kernel
theorem dX5_allPeaks_138 : decode cX5_allPeaks 138 = .ok (.aload 7, 2) := by decide +kernel
theorem dX5_allPeaks_140 : decode cX5_allPeaks 140 = .ok (.invokevirtual 56, 3) := by decide +kernel
theorem dX5_allPeaks_143 : decode cX5_allPeaks 143 = .ok (.invokevirtual 63, 3) := by decide +kernel
theorem dX5_allPeaks_146 : decode cX5_allPeaks 146 = .ok (.aastore, 1) := by decide +kernel
theorem dX5_allPeaks_147 : decode cX5_allPeaks 147 = .ok (.dup, 1) := by decide +kernel
theorem dX5_allPeaks_148 : decode cX5_allPeaks 148 = .ok (.iconst 1, 1) := by decide +kernel
theorem dX5_allPeaks_149 : decode cX5_allPeaks 149 = .ok (.new 49, 3) := by decide +kernel
theorem dX5_allPeaks_152 : decode cX5_allPeaks 152 = .ok (.dup, 1) := by decide +kernel
theorem dX5_allPeaks_153 : decode cX5_allPeaks 153 = .ok (.invokespecial 51, 3) := by decide +kernel
theorem dX5_allPeaks_156 : decode cX5_allPeaks 156 = .ok (.aload_n 0, 1) := by decide +kernel
theorem dX5_allPeaks_157 : decode cX5_allPeaks 157 = .ok (.getfield 24, 3) := by decide +kernel
theorem dX5_allPeaks_160 : decode cX5_allPeaks 160 = .ok (.iload_n 2, 1) := by decide +kernel
theorem dX5_allPeaks_161 : decode cX5_allPeaks 161 = .ok (.invokevirtual 67, 3) := by decide +kernel
theorem dX5_allPeaks_164 : decode cX5_allPeaks 164 = .ok (.checkcast 7, 3) := by decide +kernel
theorem dX5_allPeaks_167 : decode cX5_allPeaks 167 = .ok (.invokevirtual 56, 3) := by decide +kernel
theorem dX5_allPeaks_170 : decode cX5_allPeaks 170 = .ok (.aload 7, 2) := by decide +kernel
theorem dX5_allPeaks_172 : decode cX5_allPeaks 172 = .ok (.invokevirtual 56, 3) := by decide +kernel
theorem dX5_allPeaks_175 : decode cX5_allPeaks 175 = .ok (.invokevirtual 63, 3) := by decide +kernel
theorem dX5_allPeaks_178 : decode cX5_allPeaks 178 = .ok (.aastore, 1) := by decide +kernel
theorem dX5_allPeaks_179 : decode cX5_allPeaks 179 = .ok (.dup, 1) := by decide +kernel
theorem dX5_allPeaks_180 : decode cX5_allPeaks 180 = .ok (.iconst 2, 1) := by decide +kernel
theorem dX5_allPeaks_181 : decode cX5_allPeaks 181 = .ok (.new 49, 3) := by decide +kernel
theorem dX5_allPeaks_184 : decode cX5_allPeaks 184 = .ok (.dup, 1) := by decide +kernel
theorem dX5_allPeaks_185 : decode cX5_allPeaks 185 = .ok (.invokespecial 51, 3) := by decide +kernel
theorem dX5_allPeaks_188 : decode cX5_allPeaks 188 = .ok (.aload 4, 2) := by decide +kernel
theorem dX5_allPeaks_190 : decode cX5_allPeaks 190 = .ok (.iconst 0, 1) := by decide +kernel
theorem dX5_allPeaks_191 : decode cX5_allPeaks 191 = .ok (.aload 4, 2) := by decide +kernel
theorem dX5_allPeaks_193 : decode cX5_allPeaks 193 = .ok (.invokevirtual 42, 3) := by decide +kernel
theorem dX5_allPeaks_196 : decode cX5_allPeaks 196 = .ok (.iload 6, 2) := by decide +kernel
theorem dX5_allPeaks_198 : decode cX5_allPeaks 198 = .ok (.isub, 1) := by decide +kernel
theorem dX5_allPeaks_199 : decode cX5_allPeaks 199 = .ok (.invokevirtual 52, 3) := by decide +kernel
theorem dX5_allPeaks_202 : decode cX5_allPeaks 202 = .ok (.invokevirtual 56, 3) := by decide +kernel
theorem dX5_allPeaks_205 : decode cX5_allPeaks 205 = .ok (.aload_n 0, 1) := by decide +kernel
theorem dX5_allPeaks_206 : decode cX5_allPeaks 206 = .ok (.getfield 24, 3) := by decide +kernel
theorem dX5_allPeaks_209 : decode cX5_allPeaks 209 = .ok (.iload_n 3, 1) := by decide +kernel
theorem dX5_allPeaks_210 : decode cX5_allPeaks 210 = .ok (.invokevirtual 67, 3) := by decide +kernel
theorem dX5_allPeaks_213 : decode cX5_allPeaks 213 = .ok (.checkcast 7, 3) := by decide +kernel
theorem dX5_allPeaks_216 : decode cX5_allPeaks 216 = .ok (.invokevirtual 56, 3) := by decide +kernel
theorem dX5_allPeaks_219 : decode cX5_allPeaks 219 = .ok (.invokevirtual 63, 3) := by decide +kernel
theorem dX5_allPeaks_222 : decode cX5_allPeaks 222 = .ok (.aastore, 1) := by decide +kernel
theorem dX5_allPeaks_223 : decode cX5_allPeaks 223 = .ok (.invokevirtual 83, 3) := by decide +kernel
theorem dX5_allPeaks_226 : decode cX5_allPeaks 226 = .ok (.pop, 1) := by decide +kernel
theorem dX5_allPeaks_227 : decode cX5_allPeaks 227 = .ok (.iinc 6 1, 3) := by decide +kernel
theorem dX5_allPeaks_230 : decode cX5_allPeaks 230 = .ok (.goto (-167), 3) := by decide +kernel
theorem dX5_allPeaks_233 : decode cX5_allPeaks 233 = .ok (.iconst 0, 1) := by decide +kernel
theorem dX5_allPeaks_234 : decode cX5_allPeaks 234 = .ok (.istore 6, 2) := by decide +kernel
theorem dX5_allPeaks_236 : decode cX5_allPeaks 236 = .ok (.iload_n 2, 1) := by decide +kernel
theorem dX5_allPeaks_237 : decode cX5_allPeaks 237 = .ok (.iload_n 3, 1) := by decide +kernel
theorem dX5_allPeaks_238 : decode cX5_allPeaks 238 = .ok (.if_icmp .eq 85, 3) := by decide +kernel
theorem dX5_allPeaks_241 : decode cX5_allPeaks 241 = .ok (.iload 6, 2) := by decide +kernel
theorem dX5_allPeaks_243 : decode cX5_allPeaks 243 = .ok (.aload 4, 2) := by decide +kernel
theorem dX5_allPeaks_245 : decode cX5_allPeaks 245 = .ok (.invokevirtual 42, 3) := by decide +kernel
theorem dX5_allPeaks_248 : decode cX5_allPeaks 248 = .ok (.if_icmp .ge 75, 3) := by decide +kernel
theorem dX5_allPeaks_251 : decode cX5_allPeaks 251 = .ok (.aload 5, 2) := by decide +kernel
theorem dX5_allPeaks_253 : decode cX5_allPeaks 253 = .ok (.aload 4, 2) := by decide +kernel
theorem dX5_allPeaks_255 : decode cX5_allPeaks 255 = .ok (.iload 6, 2) := by decide +kernel
theorem dX5_allPeaks_257 : decode cX5_allPeaks 257 = .ok (.invokestatic 79, 3) := by decide +kernel
theorem dX5_allPeaks_260 : decode cX5_allPeaks 260 = .ok (.ifCond .eq 57, 3) := by decide +kernel
theorem dX5_allPeaks_263 : decode cX5_allPeaks 263 = .ok (.aload_n 1, 1) := by decide +kernel
theorem dX5_allPeaks_264 : decode cX5_allPeaks 264 = .ok (.iconst 3, 1) := by decide +kernel
theorem dX5_allPeaks_265 : decode cX5_allPeaks 265 = .ok (.anewarray 7, 3) := by decide +kernel
theorem dX5_allPeaks_268 : decode cX5_allPeaks 268 = .ok (.dup, 1) := by decide +kernel
theorem dX5_allPeaks_269 : decode cX5_allPeaks 269 = .ok (.iconst 0, 1) := by decide +kernel
theorem dX5_allPeaks_270 : decode cX5_allPeaks 270 = .ok (.aload 4, 2) := by decide +kernel
theorem dX5_allPeaks_272 : decode cX5_allPeaks 272 = .ok (.aastore, 1) := by decide +kernel
theorem dX5_allPeaks_273 : decode cX5_allPeaks 273 = .ok (.dup, 1) := by decide +kernel
theorem dX5_allPeaks_274 : decode cX5_allPeaks 274 = .ok (.iconst 1, 1) := by decide +kernel
theorem dX5_allPeaks_275 : decode cX5_allPeaks 275 = .ok (.aload_n 0, 1) := by decide +kernel
theorem dX5_allPeaks_276 : decode cX5_allPeaks 276 = .ok (.getfield 24, 3) := by decide +kernel
theorem dX5_allPeaks_279 : decode cX5_allPeaks 279 = .ok (.iload_n 2, 1) := by decide +kernel
theorem dX5_allPeaks_280 : decode cX5_allPeaks 280 = .ok (.invokevirtual 67, 3) := by decide +kernel
theorem dX5_allPeaks_283 : decode cX5_allPeaks 283 = .ok (.checkcast 7, 3) := by decide +kernel
theorem dX5_allPeaks_286 : decode cX5_allPeaks 286 = .ok (.aastore, 1) := by decide +kernel
theorem dX5_allPeaks_287 : decode cX5_allPeaks 287 = .ok (.dup, 1) := by decide +kernel
theorem dX5_allPeaks_288 : decode cX5_allPeaks 288 = .ok (.iconst 2, 1) := by decide +kernel
theorem dX5_allPeaks_289 : decode cX5_allPeaks 289 = .ok (.aload 4, 2) := by decide +kernel
theorem dX5_allPeaks_291 : decode cX5_allPeaks 291 = .ok (.iload 6, 2) := by decide +kernel
theorem dX5_allPeaks_293 : decode cX5_allPeaks 293 = .ok (.aload 5, 2) := by decide +kernel
theorem dX5_allPeaks_295 : decode cX5_allPeaks 295 = .ok (.invokevirtual 42, 3) := by decide +kernel
theorem dX5_allPeaks_298 : decode cX5_allPeaks 298 = .ok (.aload_n 0, 1) := by decide +kernel
theorem dX5_allPeaks_299 : decode cX5_allPeaks 299 = .ok (.getfield 24, 3) := by decide +kernel
theorem dX5_allPeaks_302 : decode cX5_allPeaks 302 = .ok (.iload_n 3, 1) := by decide +kernel
theorem dX5_allPeaks_303 : decode cX5_allPeaks 303 = .ok (.invokevirtual 67, 3) := by decide +kernel
theorem dX5_allPeaks_306 : decode cX5_allPeaks 306 = .ok (.checkcast 7, 3) := by decide +kernel
theorem dX5_allPeaks_309 : decode cX5_allPeaks 309 = .ok (.invokestatic 87, 3) := by decide +kernel
theorem dX5_allPeaks_312 : decode cX5_allPeaks 312 = .ok (.aastore, 1) := by decide +kernel
theorem dX5_allPeaks_313 : decode cX5_allPeaks 313 = .ok (.invokevirtual 83, 3) := by decide +kernel
theorem dX5_allPeaks_316 : decode cX5_allPeaks 316 = .ok (.pop, 1) := by decide +kernel
theorem dX5_allPeaks_317 : decode cX5_allPeaks 317 = .ok (.iinc 6 1, 3) := by decide +kernel
theorem dX5_allPeaks_320 : decode cX5_allPeaks 320 = .ok (.goto (-84), 3) := by decide +kernel
theorem dX5_allPeaks_323 : decode cX5_allPeaks 323 = .ok (.iinc 3 1, 3) := by decide +kernel
theorem dX5_allPeaks_326 : decode cX5_allPeaks 326 = .ok (.goto (-303), 3) := by decide +kernel
theorem dX5_allPeaks_329 : decode cX5_allPeaks 329 = .ok (.iinc 2 1, 3) := by decide +kernel
theorem dX5_allPeaks_332 : decode cX5_allPeaks 332 = .ok (.goto (-322), 3) := by decide +kernel
theorem dX5_allPeaks_335 : decode cX5_allPeaks 335 = .ok (.aload_n 1, 1) := by decide +kernel
theorem dX5_allPeaks_336 : decode cX5_allPeaks 336 = .ok (.areturn, 1) := by decide +kernel
set_option maxRecDepth 20000 in
theorem ggX5_clear_X5_isNo : GoodIn wsX5_clear wsX5_isNo := goodIn_r _ [5, 6, 7, 4, 8] (by decide +kernel) (by decide +kernel)
set_option maxRecDepth 20000 in
theorem gX5_clear_X5_isNo : GoodIn wsX5_clear (va_wsS RX5 124 yX5_isNo wsX5_isNo) := goodIn_app (goodIn_of _ (by decide +kernel)) ggX5_clear_X5_isNo
set_option maxRecDepth 20000 in
theorem ggX5_clear_X5_fails : GoodIn wsX5_clear wsX5_fails := goodIn_r _ [12, 13, 26, 27, 28, 29, 30, 31, 32] (by decide +kernel) (by decide +kernel)
set_option maxRecDepth 20000 in
theorem gX5_clear_X5_fails : GoodIn wsX5_clear (wsV RX5 127 RX5 yX5_fails wsX5_fails) := goodIn_app (goodIn_of _ (by decide +kernel)) ggX5_clear_X5_fails
set_option maxRecDepth 20000 in
theorem ggX5_clear_J0_length_8abf5 : GoodIn wsX5_clear wsJ0_length_8abf5 := goodIn_r _ [18, 19, 20, 21, 22, 17, 23, 24, 25, 33, 34, 35, 36] (by decide +kernel) (by decide +kernel)
set_option maxRecDepth 20000 in
theorem gX5_clear_J0_length_8abf5 : GoodIn wsX5_clear (wsV RX5 42 RJ0 yJ0_length_8abf5 wsJ0_length_8abf5) := goodIn_app (goodIn_of _ (by decide +kernel)) ggX5_clear_J0_length_8abf5
theorem dX5_clear_0 : decode cX5_clear 0 = .ok (.aload_n 0, 1) := by decide +kernel
theorem dX5_clear_1 : decode cX5_clear 1 = .ok (.iload_n 1, 1) := by decide +kernel
theorem dX5_clear_2 : decode cX5_clear 2 = .ok (.invokestatic 124, 3) := by decide +kernel
theorem dX5_clear_5 : decode cX5_clear 5 = .ok (.iconst 0, 1) := by decide +kernel
theorem dX5_clear_6 : decode cX5_clear 6 = .ok (.iconst 0, 1) := by decide +kernel
theorem dX5_clear_7 : decode cX5_clear 7 = .ok (.invokevirtual 127, 3) := by decide +kernel
theorem dX5_clear_10 : decode cX5_clear 10 = .ok (.ifCond .eq 5, 3) := by decide +kernel
theorem dX5_clear_13 : decode cX5_clear 13 = .ok (.iconst 0, 1) := by decide +kernel
theorem dX5_clear_14 : decode cX5_clear 14 = .ok (.ireturn, 1) := by decide +kernel
theorem dX5_clear_15 : decode cX5_clear 15 = .ok (.aload_n 0, 1) := by decide +kernel
theorem dX5_clear_16 : decode cX5_clear 16 = .ok (.getfield 11, 3) := by decide +kernel
theorem dX5_clear_19 : decode cX5_clear 19 = .ok (.iload_n 1, 1) := by decide +kernel
theorem dX5_clear_20 : decode cX5_clear 20 = .ok (.aaload, 1) := by decide +kernel
theorem dX5_clear_21 : decode cX5_clear 21 = .ok (.invokevirtual 42, 3) := by decide +kernel
theorem dX5_clear_24 : decode cX5_clear 24 = .ok (.istore_n 2, 1) := by decide +kernel
theorem dX5_clear_25 : decode cX5_clear 25 = .ok (.aload_n 0, 1) := by decide +kernel
theorem dX5_clear_26 : decode cX5_clear 26 = .ok (.getfield 11, 3) := by decide +kernel
theorem dX5_clear_29 : decode cX5_clear 29 = .ok (.iload_n 1, 1) := by decide +kernel
theorem dX5_clear_30 : decode cX5_clear 30 = .ok (.ldc 9, 2) := by decide +kernel
theorem dX5_clear_32 : decode cX5_clear 32 = .ok (.aastore, 1) := by decide +kernel
theorem dX5_clear_33 : decode cX5_clear 33 = .ok (.iload_n 2, 1) := by decide +kernel
theorem dX5_clear_34 : decode cX5_clear 34 = .ok (.ireturn, 1) := by decide +kernel
set_option maxRecDepth 20000 in
theorem ggX5_lay_X5_isNo : GoodIn wsX5_lay wsX5_isNo := goodIn_r _ [5, 6, 7, 4, 8] (by decide +kernel) (by decide +kernel)
set_option maxRecDepth 20000 in
theorem gX5_lay_X5_isNo : GoodIn wsX5_lay (va_wsS RX5 124 yX5_isNo wsX5_isNo) := goodIn_app (goodIn_of _ (by decide +kernel)) ggX5_lay_X5_isNo
set_option maxRecDepth 20000 in
theorem ggX5_lay_J0_length_8abf5 : GoodIn wsX5_lay wsJ0_length_8abf5 := goodIn_r _ [13, 14, 15, 16, 17, 12, 18, 19, 20, 271, 272, 273, 274] (by decide +kernel) (by decide +kernel)
set_option maxRecDepth 20000 in
theorem gX5_lay_J0_length_8abf5 : GoodIn wsX5_lay (wsV RX5 42 RJ0 yJ0_length_8abf5 wsJ0_length_8abf5) := goodIn_app (goodIn_of _ (by decide +kernel)) ggX5_lay_J0_length_8abf5
set_option maxRecDepth 20000 in
theorem ggX5_lay_X5_isIn : GoodIn wsX5_lay wsX5_isIn := goodIn_r _ [8] (by decide +kernel) (by decide +kernel)
set_option maxRecDepth 20000 in
theorem gX5_lay_X5_isIn : GoodIn wsX5_lay (va_wsS RX5 31 yX5_isIn wsX5_isIn) := goodIn_app (goodIn_of _ (by decide +kernel)) ggX5_lay_X5_isIn
set_option maxRecDepth 20000 in
theorem ggX5_lay_X5_fails : GoodIn wsX5_lay wsX5_fails := goodIn_r _ [24, 25, 264, 265, 266, 267, 268, 269, 270] (by decide +kernel) (by decide +kernel)
set_option maxRecDepth 20000 in
theorem gX5_lay_X5_fails : GoodIn wsX5_lay (wsV RX5 127 RX5 yX5_fails wsX5_fails) := goodIn_app (goodIn_of _ (by decide +kernel)) ggX5_lay_X5_fails
theorem dX5_lay_0 : decode cX5_lay 0 = .ok (.aload_n 0, 1) := by decide +kernel
theorem dX5_lay_1 : decode cX5_lay 1 = .ok (.iload_n 1, 1) := by decide +kernel
theorem dX5_lay_2 : decode cX5_lay 2 = .ok (.invokestatic 124, 3) := by decide +kernel
theorem dX5_lay_5 : decode cX5_lay 5 = .ok (.ifCond .ne 27, 3) := by decide +kernel
theorem dX5_lay_8 : decode cX5_lay 8 = .ok (.iload_n 3, 1) := by decide +kernel
theorem dX5_lay_9 : decode cX5_lay 9 = .ok (.invokestatic 124, 3) := by decide +kernel
theorem dX5_lay_12 : decode cX5_lay 12 = .ok (.ifCond .ne 20, 3) := by decide +kernel
theorem dX5_lay_15 : decode cX5_lay 15 = .ok (.iload_n 2, 1) := by decide +kernel
theorem dX5_lay_16 : decode cX5_lay 16 = .ok (.iconst 0, 1) := by decide +kernel
theorem dX5_lay_17 : decode cX5_lay 17 = .ok (.aload_n 0, 1) := by decide +kernel
theorem dX5_lay_18 : decode cX5_lay 18 = .ok (.getfield 11, 3) := by decide +kernel
theorem dX5_lay_21 : decode cX5_lay 21 = .ok (.iload_n 1, 1) := by decide +kernel
theorem dX5_lay_22 : decode cX5_lay 22 = .ok (.aaload, 1) := by decide +kernel
theorem dX5_lay_23 : decode cX5_lay 23 = .ok (.invokevirtual 42, 3) := by decide +kernel
theorem dX5_lay_26 : decode cX5_lay 26 = .ok (.invokestatic 31, 3) := by decide +kernel
theorem dX5_lay_29 : decode cX5_lay 29 = .ok (.ifCond .ne 7, 3) := by decide +kernel
theorem dX5_lay_32 : decode cX5_lay 32 = .ok (.iconst 1, 1) := by decide +kernel
theorem dX5_lay_33 : decode cX5_lay 33 = .ok (.goto 4, 3) := by decide +kernel
theorem dX5_lay_36 : decode cX5_lay 36 = .ok (.iconst 0, 1) := by decide +kernel
theorem dX5_lay_37 : decode cX5_lay 37 = .ok (.iconst 0, 1) := by decide +kernel
theorem dX5_lay_38 : decode cX5_lay 38 = .ok (.iconst 0, 1) := by decide +kernel
theorem dX5_lay_39 : decode cX5_lay 39 = .ok (.invokevirtual 127, 3) := by decide +kernel
theorem dX5_lay_42 : decode cX5_lay 42 = .ok (.ifCond .eq 5, 3) := by decide +kernel
theorem dX5_lay_45 : decode cX5_lay 45 = .ok (.iconst 0, 1) := by decide +kernel
theorem dX5_lay_46 : decode cX5_lay 46 = .ok (.ireturn, 1) := by decide +kernel
theorem dX5_lay_47 : decode cX5_lay 47 = .ok (.aload_n 0, 1) := by decide +kernel
theorem dX5_lay_48 : decode cX5_lay 48 = .ok (.getfield 11, 3) := by decide +kernel
theorem dX5_lay_51 : decode cX5_lay 51 = .ok (.iload_n 1, 1) := by decide +kernel
theorem dX5_lay_52 : decode cX5_lay 52 = .ok (.aaload, 1) := by decide +kernel
theorem dX5_lay_53 : decode cX5_lay 53 = .ok (.iload_n 2, 1) := by decide +kernel
theorem dX5_lay_54 : decode cX5_lay 54 = .ok (.iconst 0, 1) := by decide +kernel
theorem dX5_lay_55 : decode cX5_lay 55 = .ok (.aload_n 0, 1) := by decide +kernel
theorem dX5_lay_56 : decode cX5_lay 56 = .ok (.getfield 11, 3) := by decide +kernel
theorem dX5_lay_59 : decode cX5_lay 59 = .ok (.iload_n 3, 1) := by decide +kernel
theorem dX5_lay_60 : decode cX5_lay 60 = .ok (.aaload, 1) := by decide +kernel
theorem dX5_lay_61 : decode cX5_lay 61 = .ok (.invokestatic 87, 3) := by decide +kernel
theorem dX5_lay_64 : decode cX5_lay 64 = .ok (.astore 4, 2) := by decide +kernel
theorem dX5_lay_66 : decode cX5_lay 66 = .ok (.aload 4, 2) := by decide +kernel
theorem dX5_lay_68 : decode cX5_lay 68 = .ok (.invokevirtual 42, 3) := by decide +kernel
theorem dX5_lay_71 : decode cX5_lay 71 = .ok (.bipush 32, 2) := by decide +kernel
theorem dX5_lay_73 : decode cX5_lay 73 = .ok (.if_icmp .le 8, 3) := by decide +kernel
theorem dX5_lay_76 : decode cX5_lay 76 = .ok (.aload_n 0, 1) := by decide +kernel
theorem dX5_lay_77 : decode cX5_lay 77 = .ok (.invokevirtual 131, 3) := by decide +kernel
theorem dX5_lay_80 : decode cX5_lay 80 = .ok (.ireturn, 1) := by decide +kernel
theorem dX5_lay_81 : decode cX5_lay 81 = .ok (.aload_n 0, 1) := by decide +kernel
theorem dX5_lay_82 : decode cX5_lay 82 = .ok (.getfield 11, 3) := by decide +kernel
theorem dX5_lay_85 : decode cX5_lay 85 = .ok (.iload_n 1, 1) := by decide +kernel
theorem dX5_lay_86 : decode cX5_lay 86 = .ok (.aload 4, 2) := by decide +kernel
theorem dX5_lay_88 : decode cX5_lay 88 = .ok (.aastore, 1) := by decide +kernel
theorem dX5_lay_89 : decode cX5_lay 89 = .ok (.aload 4, 2) := by decide +kernel
theorem dX5_lay_91 : decode cX5_lay 91 = .ok (.invokevirtual 42, 3) := by decide +kernel
theorem dX5_lay_94 : decode cX5_lay 94 = .ok (.ireturn, 1) := by decide +kernel
set_option maxRecDepth 20000 in
theorem ggX5_text_X5_isNo : GoodIn wsX5_text wsX5_isNo := goodIn_r _ [5, 6, 7, 4, 8] (by decide +kernel) (by decide +kernel)
set_option maxRecDepth 20000 in
theorem gX5_text_X5_isNo : GoodIn wsX5_text (va_wsS RX5 124 yX5_isNo wsX5_isNo) := goodIn_app (goodIn_of _ (by decide +kernel)) ggX5_text_X5_isNo
set_option maxRecDepth 20000 in
theorem ggX5_text_X5_fails : GoodIn wsX5_text wsX5_fails := goodIn_r _ [12, 13, 14, 15, 16, 17, 18, 19, 20] (by decide +kernel) (by decide +kernel)
set_option maxRecDepth 20000 in
theorem gX5_text_X5_fails : GoodIn wsX5_text (wsV RX5 127 RX5 yX5_fails wsX5_fails) := goodIn_app (goodIn_of _ (by decide +kernel)) ggX5_text_X5_fails
theorem dX5_text_0 : decode cX5_text 0 = .ok (.aload_n 0, 1) := by decide +kernel
theorem dX5_text_1 : decode cX5_text 1 = .ok (.iload_n 1, 1) := by decide +kernel
theorem dX5_text_2 : decode cX5_text 2 = .ok (.invokestatic 124, 3) := by decide +kernel
theorem dX5_text_5 : decode cX5_text 5 = .ok (.iconst 0, 1) := by decide +kernel
theorem dX5_text_6 : decode cX5_text 6 = .ok (.iconst 0, 1) := by decide +kernel
theorem dX5_text_7 : decode cX5_text 7 = .ok (.invokevirtual 127, 3) := by decide +kernel
theorem dX5_text_10 : decode cX5_text 10 = .ok (.ifCond .eq 8, 3) := by decide +kernel
theorem dX5_text_13 : decode cX5_text 13 = .ok (.ldc 9, 2) := by decide +kernel
theorem dX5_text_15 : decode cX5_text 15 = .ok (.goto 9, 3) := by decide +kernel
theorem dX5_text_18 : decode cX5_text 18 = .ok (.aload_n 0, 1) := by decide +kernel
theorem dX5_text_19 : decode cX5_text 19 = .ok (.getfield 11, 3) := by decide +kernel
theorem dX5_text_22 : decode cX5_text 22 = .ok (.iload_n 1, 1) := by decide +kernel
theorem dX5_text_23 : decode cX5_text 23 = .ok (.aaload, 1) := by decide +kernel
theorem dX5_text_24 : decode cX5_text 24 = .ok (.areturn, 1) := by decide +kernel
set_option maxRecDepth 20000 in
theorem ggX5_meets_X5_allPeaks : GoodIn wsX5_meets wsX5_allPeaks := goodIn_r _ [6, 7, 8, 9, 10, 11, 12, 13, 14, 15, 16, 17, 18, 19, 20, 21, 22, 23, 24, 25, 26, 27, 28, 29, 30, 31, 32, 33, 34, 35, 36, 37, 38, 39, 40, 41, 42, 43, 44, 45, 46, 47, 48, 49, 50, 51, 52, 53, 54, 55, 56, 57, 58, 59, 60, 61, 62, 63, 64, 65, 66, 67, 68, 69, 70, 71, 72, 73, 74, 75, 76, 77, 78, 79, 80, 81, 82, 83, 84, 85, 86, 87, 88, 89, 90, 91, 92, 93, 94, 95, 96, 97, 98, 99, 100, 101, 102, 103, 104, 105, 106, 107, 108, 109, 110, 111, 112, 113, 114, 115, 116, 117, 118, 119, 120, 121, 122, 123, 124, 125, 126, 127, 128, 129, 130, 131, 132, 133, 134, 135, 136, 137, 138, 139, 140, 141, 142, 143, 144, 145, 146, 147, 148, 149, 150, 151, 152, 153, 154, 155, 156, 157, 158, 159, 5, 160, 161, 162, 163, 164, 165, 166, 167, 168, 169, 170, 171, 172, 173, 174, 175, 176, 177, 178, 179, 180, 181, 182, 183, 184, 185, 186, 187, 188, 189, 190, 191, 192, 193, 194, 195, 196, 197, 198, 199, 200, 201, 202, 203, 204, 205, 206, 207, 208, 209, 210, 211, 212, 213, 214, 215, 216, 217, 218, 219, 220, 221, 222, 223, 224, 225, 226, 227, 228, 229, 230, 231, 232, 233, 234, 235, 236, 237, 238, 239, 240, 241, 242, 243, 244, 245, 246, 247, 248, 249, 250, 251, 252, 253, 254, 255, 256, 257, 258, 259, 260, 261, 262, 263, 264, 265, 266, 267, 268, 269, 270, 271, 272, 273, 274, 275, 276, 277, 278, 279, 280, 281, 282, 283, 284, 285, 286, 287, 288, 289, 290, 291, 292, 293, 294, 295, 296, 297, 298, 299, 300, 301, 302, 303, 304, 305, 306, 307, 308, 309, 310, 311, 312, 313, 314, 315, 316, 317, 318, 319, 320, 321, 322, 323, 324, 325, 326, 327, 328, 329, 330, 331, 332, 333, 334, 335, 336, 337, 338, 339, 340, 341, 342, 343, 344, 345, 346, 347, 385, 386, 387, 388, 389, 390, 391, 392, 393, 394, 395, 396, 397, 398, 399, 400, 401, 402] (by decide +kernel) (by decide +kernel)
set_option maxRecDepth 20000 in
theorem gX5_meets_X5_allPeaks : GoodIn wsX5_meets (wsV RX5 110 RX5 yX5_allPeaks wsX5_allPeaks) := goodIn_app (goodIn_of _ (by decide +kernel)) ggX5_meets_X5_allPeaks
set_option maxRecDepth 20000 in
theorem ggX5_meets_Jx4a65c_size_8abf5 : GoodIn wsX5_meets wsJx4a65c_size_8abf5 := goodIn_r _ [37, 38, 385, 386, 387] (by decide +kernel) (by decide +kernel)
set_option maxRecDepth 20000 in
theorem gX5_meets_Jx4a65c_size_8abf5 : GoodIn wsX5_meets (wsV RX5 35 RJx4a65c yJx4a65c_size_8abf5 wsJx4a65c_size_8abf5) := goodIn_app (goodIn_of _ (by decide +kernel)) ggX5_meets_Jx4a65c_size_8abf5
set_option maxRecDepth 20000 in
theorem ggX5_meets_X5_isIn : GoodIn wsX5_meets wsX5_isIn := goodIn_r _ [350] (by decide +kernel) (by decide +kernel)
set_option maxRecDepth 20000 in
theorem gX5_meets_X5_isIn : GoodIn wsX5_meets (va_wsS RX5 31 yX5_isIn wsX5_isIn) := goodIn_app (goodIn_of _ (by decide +kernel)) ggX5_meets_X5_isIn
set_option maxRecDepth 20000 in
theorem ggX5_meets_X5_fails : GoodIn wsX5_meets wsX5_fails := goodIn_r _ [354, 355, 388, 389, 390, 391, 392, 393, 394] (by decide +kernel) (by decide +kernel)
set_option maxRecDepth 20000 in
theorem gX5_meets_X5_fails : GoodIn wsX5_meets (wsV RX5 127 RX5 yX5_fails wsX5_fails) := goodIn_app (goodIn_of _ (by decide +kernel)) ggX5_meets_X5_fails
theorem dX5_meets_0 : decode cX5_meets 0 = .ok (.aload_n 0, 1) := by decide +kernel
theorem dX5_meets_1 : decode cX5_meets 1 = .ok (.invokevirtual 110, 3) := by decide +kernel
theorem dX5_meets_4 : decode cX5_meets 4 = .ok (.astore_n 2, 1) := by decide +kernel
theorem dX5_meets_5 : decode cX5_meets 5 = .ok (.aload_n 0, 1) := by decide +kernel
theorem dX5_meets_6 : decode cX5_meets 6 = .ok (.iload_n 1, 1) := by decide +kernel
theorem dX5_meets_7 : decode cX5_meets 7 = .ok (.iconst 0, 1) := by decide +kernel
theorem dX5_meets_8 : decode cX5_meets 8 = .ok (.aload_n 2, 1) := by decide +kernel
theorem dX5_meets_9 : decode cX5_meets 9 = .ok (.invokevirtual 35, 3) := by decide +kernel
theorem dX5_meets_12 : decode cX5_meets 12 = .ok (.iconst 1, 1) := by decide +kernel
theorem dX5_meets_13 : decode cX5_meets 13 = .ok (.isub, 1) := by decide +kernel
theorem dX5_meets_14 : decode cX5_meets 14 = .ok (.invokestatic 31, 3) := by decide +kernel
theorem dX5_meets_17 : decode cX5_meets 17 = .ok (.ifCond .ne 7, 3) := by decide +kernel
theorem dX5_meets_20 : decode cX5_meets 20 = .ok (.iconst 1, 1) := by decide +kernel
theorem dX5_meets_21 : decode cX5_meets 21 = .ok (.goto 4, 3) := by decide +kernel
theorem dX5_meets_24 : decode cX5_meets 24 = .ok (.iconst 0, 1) := by decide +kernel
theorem dX5_meets_25 : decode cX5_meets 25 = .ok (.iconst 0, 1) := by decide +kernel
theorem dX5_meets_26 : decode cX5_meets 26 = .ok (.iconst 0, 1) := by decide +kernel
theorem dX5_meets_27 : decode cX5_meets 27 = .ok (.invokevirtual 127, 3) := by decide +kernel
theorem dX5_meets_30 : decode cX5_meets 30 = .ok (.ifCond .ne 22, 3) := by decide +kernel
theorem dX5_meets_33 : decode cX5_meets 33 = .ok (.aload_n 0, 1) := by decide +kernel
theorem dX5_meets_34 : decode cX5_meets 34 = .ok (.aload_n 2, 1) := by decide +kernel
theorem dX5_meets_35 : decode cX5_meets 35 = .ok (.iload_n 1, 1) := by decide +kernel
theorem dX5_meets_36 : decode cX5_meets 36 = .ok (.invokevirtual 67, 3) := by decide +kernel
theorem dX5_meets_39 : decode cX5_meets 39 = .ok (.checkcast 114, 3) := by decide +kernel
theorem dX5_meets_42 : decode cX5_meets 42 = .ok (.invokevirtual 115, 3) := by decide +kernel
theorem dX5_meets_45 : decode cX5_meets 45 = .ok (.ifCond .eq 7, 3) := by decide +kernel
theorem dX5_meets_48 : decode cX5_meets 48 = .ok (.iconst 1, 1) := by decide +kernel
theorem dX5_meets_49 : decode cX5_meets 49 = .ok (.goto 4, 3) := by decide +kernel
theorem dX5_meets_52 : decode cX5_meets 52 = .ok (.iconst 0, 1) := by decide +kernel
theorem dX5_meets_53 : decode cX5_meets 53 = .ok (.ireturn, 1) := by decide +kernel
theorem dJ5_init_d00df_0 : decode cJ5_init_d00df 0 = .ok (.aload_n 0, 1) := by decide +kernel
theorem dJ5_init_d00df_1 : decode cJ5_init_d00df 1 = .ok (.invokespecial 3, 3) := by decide +kernel
theorem dJ5_init_d00df_4 : decode cJ5_init_d00df 4 = .ok (.getstatic 18, 3) := by decide +kernel
theorem dJ5_init_d00df_7 : decode cJ5_init_d00df 7 = .ok (.ifCond .eq 18, 3) := by decide +kernel
theorem dJ5_init_d00df_10 : decode cJ5_init_d00df 10 = .ok (.aload_n 0, 1) := by decide +kernel
theorem dJ5_init_d00df_11 : decode cJ5_init_d00df 11 = .ok (.iload_n 1, 1) := by decide +kernel
theorem dJ5_init_d00df_12 : decode cJ5_init_d00df 12 = .ok (.newarray .byte, 2) := by decide +kernel
theorem dJ5_init_d00df_14 : decode cJ5_init_d00df 14 = .ok (.putfield 15, 3) := by decide +kernel
theorem dJ5_init_d00df_17 : decode cJ5_init_d00df 17 = .ok (.aload_n 0, 1) := by decide +kernel
theorem dJ5_init_d00df_18 : decode cJ5_init_d00df 18 = .ok (.iconst 0, 1) := by decide +kernel
theorem dJ5_init_d00df_19 : decode cJ5_init_d00df 19 = .ok (.putfield 22, 3) := by decide +kernel
theorem dJ5_init_d00df_22 : decode cJ5_init_d00df 22 = .ok (.goto 16, 3) := by decide +kernel
theorem dJ5_init_d00df_25 : decode cJ5_init_d00df 25 = .ok (.aload_n 0, 1) := by decide +kernel
theorem dJ5_init_d00df_26 : decode cJ5_init_d00df 26 = .ok (.iload_n 1, 1) := by decide +kernel
theorem dJ5_init_d00df_27 : decode cJ5_init_d00df 27 = .ok (.invokestatic 26, 3) := by decide +kernel
theorem dJ5_init_d00df_30 : decode cJ5_init_d00df 30 = .ok (.putfield 15, 3) := by decide +kernel
theorem dJ5_init_d00df_33 : decode cJ5_init_d00df 33 = .ok (.aload_n 0, 1) := by decide +kernel
theorem dJ5_init_d00df_34 : decode cJ5_init_d00df 34 = .ok (.iconst 1, 1) := by decide +kernel
theorem dJ5_init_d00df_35 : decode cJ5_init_d00df 35 = .ok (.putfield 22, 3) := by decide +kernel
theorem dJ5_init_d00df_38 : decode cJ5_init_d00df 38 = .ok (.return_, 1) := by decide +kernel
theorem dJ5_length_8abf5_0 : decode cJ5_length_8abf5 0 = .ok (.aload_n 0, 1) := by decide +kernel
theorem dJ5_length_8abf5_1 : decode cJ5_length_8abf5 1 = .ok (.getfield 79, 3) := by decide +kernel
theorem dJ5_length_8abf5_4 : decode cJ5_length_8abf5 4 = .ok (.ireturn, 1) := by decide +kernel
theorem dJ5_getValue_6d5f1_0 : decode cJ5_getValue_6d5f1 0 = .ok (.aload_n 0, 1) := by decide +kernel
theorem dJ5_getValue_6d5f1_1 : decode cJ5_getValue_6d5f1 1 = .ok (.getfield 15, 3) := by decide +kernel
theorem dJ5_getValue_6d5f1_4 : decode cJ5_getValue_6d5f1 4 = .ok (.areturn, 1) := by decide +kernel
theorem dJ5_isLatin1_aae02_0 : decode cJ5_isLatin1_aae02 0 = .ok (.getstatic 18, 3) := by decide +kernel
theorem dJ5_isLatin1_aae02_3 : decode cJ5_isLatin1_aae02 3 = .ok (.ifCond .eq 14, 3) := by decide +kernel
theorem dJ5_isLatin1_aae02_6 : decode cJ5_isLatin1_aae02 6 = .ok (.aload_n 0, 1) := by decide +kernel
theorem dJ5_isLatin1_aae02_7 : decode cJ5_isLatin1_aae02 7 = .ok (.getfield 22, 3) := by decide +kernel
theorem dJ5_isLatin1_aae02_10 : decode cJ5_isLatin1_aae02 10 = .ok (.ifCond .ne 7, 3) := by decide +kernel
theorem dJ5_isLatin1_aae02_13 : decode cJ5_isLatin1_aae02 13 = .ok (.iconst 1, 1) := by decide +kernel
theorem dJ5_isLatin1_aae02_14 : decode cJ5_isLatin1_aae02 14 = .ok (.goto 4, 3) := by decide +kernel
theorem dJ5_isLatin1_aae02_17 : decode cJ5_isLatin1_aae02 17 = .ok (.iconst 0, 1) := by decide +kernel
theorem dJ5_isLatin1_aae02_18 : decode cJ5_isLatin1_aae02 18 = .ok (.ireturn, 1) := by decide +kernel
set_option maxRecDepth 20000 in
theorem ggJ0_init_81219_J0_init_db425 : GoodIn wsJ0_init_81219 wsJ0_init_db425 := goodIn_r _ [4, 5, 6, 7, 8, 9, 10, 11, 12, 13, 14, 15, 16, 17, 18, 19, 20, 21, 22, 23, 24, 25, 26, 27, 28, 29, 30, 31, 32, 33, 34, 35, 36, 37, 38, 39, 40, 41, 42, 43, 44, 45, 46, 47, 48, 49, 50, 51, 52, 53, 54, 55, 56, 57, 58, 59, 60, 61, 62, 63, 64, 65, 66, 67, 68, 69, 70, 71, 72, 73, 74, 75, 76, 77, 78, 79, 3, 80, 81, 82, 83, 84, 85, 86, 87, 88, 89, 90, 91, 92, 93, 94, 95, 96, 97, 98, 99, 100, 101, 102, 103, 104, 105, 106, 107] (by decide +kernel) (by decide +kernel)
set_option maxRecDepth 20000 in
theorem gJ0_init_81219_J0_init_db425 : GoodIn wsJ0_init_81219 (wsJ0_init_db425) := ggJ0_init_81219_J0_init_db425
theorem dJ0_init_81219_0 : decode cJ0_init_81219 0 = .ok (.aload_n 0, 1) := by decide +kernel
theorem dJ0_init_81219_1 : decode cJ0_init_81219 1 = .ok (.aload_n 1, 1) := by decide +kernel
theorem dJ0_init_81219_2 : decode cJ0_init_81219 2 = .ok (.aconst_null, 1) := by decide +kernel
theorem dJ0_init_81219_3 : decode cJ0_init_81219 3 = .ok (.invokespecial 489, 3) := by decide +kernel
theorem dJ0_init_81219_6 : decode cJ0_init_81219 6 = .ok (.return_, 1) := by decide +kernel
set_option maxRecDepth 20000 in
theorem ggJ0_length_8abf5_J0_coder_7d493 : GoodIn wsJ0_length_8abf5 wsJ0_coder_7d493 := goodIn_r _ [6, 7, 8, 9, 10, 11, 12] (by decide +kernel) (by decide +kernel)
set_option maxRecDepth 20000 in
theorem gJ0_length_8abf5_J0_coder_7d493 : GoodIn wsJ0_length_8abf5 (wsV RJ0 335 RJ0 yJ0_coder_7d493 wsJ0_coder_7d493) := goodIn_app (goodIn_of _ (by decide +kernel)) ggJ0_length_8abf5_J0_coder_7d493
theorem dJ0_length_8abf5_0 : decode cJ0_length_8abf5 0 = .ok (.aload_n 0, 1) := by decide +kernel
theorem dJ0_length_8abf5_1 : decode cJ0_length_8abf5 1 = .ok (.getfield 9, 3) := by decide +kernel
theorem dJ0_length_8abf5_4 : decode cJ0_length_8abf5 4 = .ok (.arraylength, 1) := by decide +kernel
theorem dJ0_length_8abf5_5 : decode cJ0_length_8abf5 5 = .ok (.aload_n 0, 1) := by decide +kernel
theorem dJ0_length_8abf5_6 : decode cJ0_length_8abf5 6 = .ok (.invokevirtual 335, 3) := by decide +kernel
theorem dJ0_length_8abf5_9 : decode cJ0_length_8abf5 9 = .ok (.ishr, 1) := by decide +kernel
theorem dJ0_length_8abf5_10 : decode cJ0_length_8abf5 10 = .ok (.ireturn, 1) := by decide +kernel
set_option maxRecDepth 20000 in
theorem ggJ0_equals_9ea2d_J1_equals_b5fdf : GoodIn wsJ0_equals_9ea2d wsJ1_equals_b5fdf := goodIn_r _ [8] (by decide +kernel) (by decide +kernel)
set_option maxRecDepth 20000 in
theorem gJ0_equals_9ea2d_J1_equals_b5fdf : GoodIn wsJ0_equals_9ea2d (va_wsS RJ0 541 yJ1_equals_b5fdf wsJ1_equals_b5fdf) := goodIn_app (goodIn_of _ (by decide +kernel)) ggJ0_equals_9ea2d_J1_equals_b5fdf
theorem dJ0_equals_9ea2d_0 : decode cJ0_equals_9ea2d 0 = .ok (.aload_n 0, 1) := by decide +kernel
theorem dJ0_equals_9ea2d_1 : decode cJ0_equals_9ea2d 1 = .ok (.aload_n 1, 1) := by decide +kernel
theorem dJ0_equals_9ea2d_2 : decode cJ0_equals_9ea2d 2 = .ok (.if_acmp .ne 5, 3) := by decide +kernel
theorem dJ0_equals_9ea2d_5 : decode cJ0_equals_9ea2d 5 = .ok (.iconst 1, 1) := by decide +kernel
theorem dJ0_equals_9ea2d_6 : decode cJ0_equals_9ea2d 6 = .ok (.ireturn, 1) := by decide +kernel
theorem dJ0_equals_9ea2d_7 : decode cJ0_equals_9ea2d 7 = .ok (.aload_n 1, 1) := by decide +kernel
theorem dJ0_equals_9ea2d_8 : decode cJ0_equals_9ea2d 8 = .ok (.instanceof 10, 3) := by decide +kernel
theorem dJ0_equals_9ea2d_11 : decode cJ0_equals_9ea2d 11 = .ok (.ifCond .eq 43, 3) := by decide +kernel
theorem dJ0_equals_9ea2d_14 : decode cJ0_equals_9ea2d 14 = .ok (.aload_n 1, 1) := by decide +kernel
theorem dJ0_equals_9ea2d_15 : decode cJ0_equals_9ea2d 15 = .ok (.checkcast 10, 3) := by decide +kernel
theorem dJ0_equals_9ea2d_18 : decode cJ0_equals_9ea2d 18 = .ok (.astore_n 2, 1) := by decide +kernel
theorem dJ0_equals_9ea2d_19 : decode cJ0_equals_9ea2d 19 = .ok (.getstatic 38, 3) := by decide +kernel
theorem dJ0_equals_9ea2d_22 : decode cJ0_equals_9ea2d 22 = .ok (.ifCond .eq 14, 3) := by decide +kernel
theorem dJ0_equals_9ea2d_25 : decode cJ0_equals_9ea2d 25 = .ok (.aload_n 0, 1) := by decide +kernel
theorem dJ0_equals_9ea2d_26 : decode cJ0_equals_9ea2d 26 = .ok (.getfield 15, 3) := by decide +kernel
theorem dJ0_equals_9ea2d_29 : decode cJ0_equals_9ea2d 29 = .ok (.aload_n 2, 1) := by decide +kernel
theorem dJ0_equals_9ea2d_30 : decode cJ0_equals_9ea2d 30 = .ok (.getfield 15, 3) := by decide +kernel
theorem dJ0_equals_9ea2d_33 : decode cJ0_equals_9ea2d 33 = .ok (.if_icmp .ne 21, 3) := by decide +kernel
theorem dJ0_equals_9ea2d_36 : decode cJ0_equals_9ea2d 36 = .ok (.aload_n 0, 1) := by decide +kernel
theorem dJ0_equals_9ea2d_37 : decode cJ0_equals_9ea2d 37 = .ok (.getfield 9, 3) := by decide +kernel
theorem dJ0_equals_9ea2d_40 : decode cJ0_equals_9ea2d 40 = .ok (.aload_n 2, 1) := by decide +kernel
theorem dJ0_equals_9ea2d_41 : decode cJ0_equals_9ea2d 41 = .ok (.getfield 9, 3) := by decide +kernel
theorem dJ0_equals_9ea2d_44 : decode cJ0_equals_9ea2d 44 = .ok (.invokestatic 541, 3) := by decide +kernel
theorem dJ0_equals_9ea2d_47 : decode cJ0_equals_9ea2d 47 = .ok (.ifCond .eq 7, 3) := by decide +kernel
theorem dJ0_equals_9ea2d_50 : decode cJ0_equals_9ea2d 50 = .ok (.iconst 1, 1) := by decide +kernel
theorem dJ0_equals_9ea2d_51 : decode cJ0_equals_9ea2d 51 = .ok (.goto 4, 3) := by decide +kernel
theorem dJ0_equals_9ea2d_54 : decode cJ0_equals_9ea2d 54 = .ok (.iconst 0, 1) := by decide +kernel
theorem dJ0_equals_9ea2d_55 : decode cJ0_equals_9ea2d 55 = .ok (.ireturn, 1) := by decide +kernel
set_option maxRecDepth 20000 in
theorem ggJ0_init_db425_J5_getValue_6d5f1 : GoodIn wsJ0_init_db425 wsJ5_getValue_6d5f1 := goodIn_r _ [13, 14, 101, 102, 103, 104] (by decide +kernel) (by decide +kernel)
set_option maxRecDepth 20000 in
theorem gJ0_init_db425_J5_getValue_6d5f1_u552J4 : GoodIn wsJ0_init_db425 (va_wsU RJ0 552 RJ4 "java/lang/AbstractStringBuilder" ⟨"java/lang/AbstractStringBuilder", "getValue", "()[B"⟩ yJ5_getValue_6d5f1 wsJ5_getValue_6d5f1) := goodIn_app (goodIn_of _ (by decide +kernel)) ggJ0_init_db425_J5_getValue_6d5f1
set_option maxRecDepth 20000 in
theorem ggJ0_init_db425_J4_length_8abf5 : GoodIn wsJ0_init_db425 wsJ4_length_8abf5 := goodIn_r _ [21, 22, 16, 23, 24, 12, 25, 26, 101, 102, 103, 104] (by decide +kernel) (by decide +kernel)
set_option maxRecDepth 20000 in
theorem gJ0_init_db425_J4_length_8abf5_u549J4 : GoodIn wsJ0_init_db425 (va_wsO RJ0 549 RJ4 "java/lang/AbstractStringBuilder" ⟨"java/lang/AbstractStringBuilder", "length", "()I"⟩ yJ4_length_8abf5 wsJ4_length_8abf5) := goodIn_app (goodIn_of _ (by decide +kernel)) ggJ0_init_db425_J4_length_8abf5
set_option maxRecDepth 20000 in
theorem ggJ0_init_db425_J5_isLatin1_aae02 : GoodIn wsJ0_init_db425 wsJ5_isLatin1_aae02 := goodIn_r _ [31, 32, 33, 101, 102, 103, 104] (by decide +kernel) (by decide +kernel)
set_option maxRecDepth 20000 in
theorem gJ0_init_db425_J5_isLatin1_aae02_u1047J4 : GoodIn wsJ0_init_db425 (va_wsU RJ0 1047 RJ4 "java/lang/AbstractStringBuilder" ⟨"java/lang/AbstractStringBuilder", "isLatin1", "()Z"⟩ yJ5_isLatin1_aae02 wsJ5_isLatin1_aae02) := goodIn_app (goodIn_of _ (by decide +kernel)) ggJ0_init_db425_J5_isLatin1_aae02
set_option maxRecDepth 20000 in
theorem ggJ0_init_db425_J7_copyOfRange_39247 : GoodIn wsJ0_init_db425 wsJ7_copyOfRange_39247 := goodIn_r _ [37, 38, 39, 40, 41, 42, 43, 44, 45, 36, 46, 47, 48, 49, 50, 51, 52, 53, 54, 55, 56, 57, 58, 59, 60, 20, 101, 102, 103, 104] (by decide +kernel) (by decide +kernel)
set_option maxRecDepth 20000 in
theorem gJ0_init_db425_J7_copyOfRange_39247 : GoodIn wsJ0_init_db425 (va_wsS RJ0 54 yJ7_copyOfRange_39247 wsJ7_copyOfRange_39247) := goodIn_app (goodIn_of _ (by decide +kernel)) ggJ0_init_db425_J7_copyOfRange_39247
theorem dJ0_init_db425_0 : decode cJ0_init_db425 0 = .ok (.aload_n 0, 1) := by decide +kernel
theorem dJ0_init_db425_1 : decode cJ0_init_db425 1 = .ok (.invokespecial 1, 3) := by decide +kernel
theorem dJ0_init_db425_4 : decode cJ0_init_db425 4 = .ok (.aload_n 1, 1) := by decide +kernel
theorem dJ0_init_db425_5 : decode cJ0_init_db425 5 = .ok (.invokevirtual 552, 3) := by decide +kernel
theorem dJ0_init_db425_8 : decode cJ0_init_db425 8 = .ok (.astore_n 3, 1) := by decide +kernel
theorem dJ0_init_db425_9 : decode cJ0_init_db425 9 = .ok (.aload_n 1, 1) := by decide +kernel
theorem dJ0_init_db425_10 : decode cJ0_init_db425 10 = .ok (.invokevirtual 549, 3) := by decide +kernel
theorem dJ0_init_db425_13 : decode cJ0_init_db425 13 = .ok (.istore 4, 2) := by decide +kernel
theorem dJ0_init_db425_15 : decode cJ0_init_db425 15 = .ok (.aload_n 1, 1) := by decide +kernel
theorem dJ0_init_db425_16 : decode cJ0_init_db425 16 = .ok (.invokevirtual 1047, 3) := by decide +kernel
theorem dJ0_init_db425_19 : decode cJ0_init_db425 19 = .ok (.ifCond .eq 22, 3) := by decide +kernel
theorem dJ0_init_db425_22 : decode cJ0_init_db425 22 = .ok (.aload_n 0, 1) := by decide +kernel
theorem dJ0_init_db425_23 : decode cJ0_init_db425 23 = .ok (.iconst 0, 1) := by decide +kernel
theorem dJ0_init_db425_24 : decode cJ0_init_db425 24 = .ok (.putfield 15, 3) := by decide +kernel
theorem dJ0_init_db425_27 : decode cJ0_init_db425 27 = .ok (.aload_n 0, 1) := by decide +kernel
theorem dJ0_init_db425_28 : decode cJ0_init_db425 28 = .ok (.aload_n 3, 1) := by decide +kernel
theorem dJ0_init_db425_29 : decode cJ0_init_db425 29 = .ok (.iconst 0, 1) := by decide +kernel
theorem dJ0_init_db425_30 : decode cJ0_init_db425 30 = .ok (.iload 4, 2) := by decide +kernel
theorem dJ0_init_db425_32 : decode cJ0_init_db425 32 = .ok (.invokestatic 54, 3) := by decide +kernel
theorem dJ0_init_db425_35 : decode cJ0_init_db425 35 = .ok (.putfield 9, 3) := by decide +kernel
theorem dJ0_init_db425_38 : decode cJ0_init_db425 38 = .ok (.goto 59, 3) := by decide +kernel
theorem dJ0_init_db425_41 : decode cJ0_init_db425 41 = .ok (.getstatic 38, 3) := by decide +kernel
theorem dJ0_init_db425_44 : decode cJ0_init_db425 44 = .ok (.ifCond .eq 35, 3) := by decide +kernel
theorem dJ0_init_db425_47 : decode cJ0_init_db425 47 = .ok (.aload_n 1, 1) := by decide +kernel
theorem dJ0_init_db425_48 : decode cJ0_init_db425 48 = .ok (.getfield 1048, 3) := by decide +kernel
theorem dJ0_init_db425_51 : decode cJ0_init_db425 51 = .ok (.ifCond .eq 28, 3) := by decide +kernel
theorem dJ0_init_db425_54 : decode cJ0_init_db425 54 = .ok (.aload_n 0, 1) := by decide +kernel
theorem dJ0_init_db425_55 : decode cJ0_init_db425 55 = .ok (.aload_n 3, 1) := by decide +kernel
theorem dJ0_init_db425_56 : decode cJ0_init_db425 56 = .ok (.iconst 0, 1) := by decide +kernel
theorem dJ0_init_db425_57 : decode cJ0_init_db425 57 = .ok (.iload 4, 2) := by decide +kernel
theorem dJ0_init_db425_59 : decode cJ0_init_db425 59 = .ok (.invokestatic 1051, 3) := by decide +kernel
theorem dJ0_init_db425_62 : decode cJ0_init_db425 62 = .ok (.putfield 9, 3) := by decide +kernel
theorem dJ0_init_db425_65 : decode cJ0_init_db425 65 = .ok (.aload_n 0, 1) := by decide +kernel
theorem dJ0_init_db425_66 : decode cJ0_init_db425 66 = .ok (.aload_n 0, 1) := by decide +kernel
theorem dJ0_init_db425_67 : decode cJ0_init_db425 67 = .ok (.getfield 9, 3) := by decide +kernel
theorem dJ0_init_db425_70 : decode cJ0_init_db425 70 = .ok (.iload 4, 2) := by decide +kernel
theorem dJ0_init_db425_72 : decode cJ0_init_db425 72 = .ok (.invokestatic 47, 3) := by decide +kernel
theorem dJ0_init_db425_75 : decode cJ0_init_db425 75 = .ok (.putfield 15, 3) := by decide +kernel
theorem dJ0_init_db425_78 : decode cJ0_init_db425 78 = .ok (.return_, 1) := by decide +kernel
theorem dJ0_init_db425_79 : decode cJ0_init_db425 79 = .ok (.aload_n 0, 1) := by decide +kernel
theorem dJ0_init_db425_80 : decode cJ0_init_db425 80 = .ok (.iconst 1, 1) := by decide +kernel
theorem dJ0_init_db425_81 : decode cJ0_init_db425 81 = .ok (.putfield 15, 3) := by decide +kernel
theorem dJ0_init_db425_84 : decode cJ0_init_db425 84 = .ok (.aload_n 0, 1) := by decide +kernel
theorem dJ0_init_db425_85 : decode cJ0_init_db425 85 = .ok (.aload_n 3, 1) := by decide +kernel
theorem dJ0_init_db425_86 : decode cJ0_init_db425 86 = .ok (.iconst 0, 1) := by decide +kernel
theorem dJ0_init_db425_87 : decode cJ0_init_db425 87 = .ok (.iload 4, 2) := by decide +kernel
theorem dJ0_init_db425_89 : decode cJ0_init_db425 89 = .ok (.iconst 1, 1) := by decide +kernel
theorem dJ0_init_db425_90 : decode cJ0_init_db425 90 = .ok (.ishl, 1) := by decide +kernel
theorem dJ0_init_db425_91 : decode cJ0_init_db425 91 = .ok (.invokestatic 54, 3) := by decide +kernel
theorem dJ0_init_db425_94 : decode cJ0_init_db425 94 = .ok (.putfield 9, 3) := by decide +kernel
theorem dJ0_init_db425_97 : decode cJ0_init_db425 97 = .ok (.return_, 1) := by decide +kernel
theorem dJ0_coder_7d493_0 : decode cJ0_coder_7d493 0 = .ok (.getstatic 38, 3) := by decide +kernel
theorem dJ0_coder_7d493_3 : decode cJ0_coder_7d493 3 = .ok (.ifCond .eq 10, 3) := by decide +kernel
theorem dJ0_coder_7d493_6 : decode cJ0_coder_7d493 6 = .ok (.aload_n 0, 1) := by decide +kernel
theorem dJ0_coder_7d493_7 : decode cJ0_coder_7d493 7 = .ok (.getfield 15, 3) := by decide +kernel
theorem dJ0_coder_7d493_10 : decode cJ0_coder_7d493 10 = .ok (.goto 4, 3) := by decide +kernel
theorem dJ0_coder_7d493_13 : decode cJ0_coder_7d493 13 = .ok (.iconst 1, 1) := by decide +kernel
theorem dJ0_coder_7d493_14 : decode cJ0_coder_7d493 14 = .ok (.ireturn, 1) := by decide +kernel
set_option maxRecDepth 20000 in
theorem ggJ4_init_da8c8_J5_init_d00df : GoodIn wsJ4_init_da8c8 wsJ5_init_d00df := goodIn_r _ [4, 5, 6, 7, 8, 9, 10, 11, 12, 13, 14, 15, 16, 17, 18, 19, 20, 21, 22, 23] (by decide +kernel) (by decide +kernel)
set_option maxRecDepth 20000 in
theorem gJ4_init_da8c8_J5_init_d00df : GoodIn wsJ4_init_da8c8 (wsJ5_init_d00df) := ggJ4_init_da8c8_J5_init_d00df
theorem dJ4_init_da8c8_0 : decode cJ4_init_da8c8 0 = .ok (.aload_n 0, 1) := by decide +kernel
theorem dJ4_init_da8c8_1 : decode cJ4_init_da8c8 1 = .ok (.bipush 16, 2) := by decide +kernel
theorem dJ4_init_da8c8_3 : decode cJ4_init_da8c8 3 = .ok (.invokespecial 1, 3) := by decide +kernel
theorem dJ4_init_da8c8_6 : decode cJ4_init_da8c8 6 = .ok (.return_, 1) := by decide +kernel
set_option maxRecDepth 20000 in
theorem ggJ4_toString_0e30d_J0_init_81219 : GoodIn wsJ4_toString_0e30d wsJ0_init_81219 := goodIn_r _ [6, 7, 8, 3, 9, 10, 11, 12, 13, 14, 15, 16, 17, 18, 19, 20, 21, 22, 23, 24, 25, 26, 27, 28, 29, 30, 31, 32, 33, 34, 35, 36, 37, 38, 39, 40, 41, 42, 43, 44, 45, 46, 47, 48, 49, 50, 51, 52, 53, 54, 55, 56, 57, 58, 59, 60, 61, 62, 63, 64, 65, 66, 67, 68, 69, 70, 71, 72, 73, 74, 75, 76, 77, 78, 79, 80, 81, 82, 83, 84, 85, 86, 87, 88, 89, 90, 91, 92, 93, 94, 95, 96, 97, 98, 99, 100, 101, 102, 103, 104, 105, 106, 107, 108, 109, 110, 111, 112] (by decide +kernel) (by decide +kernel)
set_option maxRecDepth 20000 in
theorem gJ4_toString_0e30d_J0_init_81219 : GoodIn wsJ4_toString_0e30d (wsJ0_init_81219) := ggJ4_toString_0e30d_J0_init_81219
theorem dJ4_toString_0e30d_0 : decode cJ4_toString_0e30d 0 = .ok (.new 18, 3) := by decide +kernel
theorem dJ4_toString_0e30d_3 : decode cJ4_toString_0e30d 3 = .ok (.dup, 1) := by decide +kernel
theorem dJ4_toString_0e30d_4 : decode cJ4_toString_0e30d 4 = .ok (.aload_n 0, 1) := by decide +kernel
theorem dJ4_toString_0e30d_5 : decode cJ4_toString_0e30d 5 = .ok (.invokespecial 137, 3) := by decide +kernel
theorem dJ4_toString_0e30d_8 : decode cJ4_toString_0e30d 8 = .ok (.areturn, 1) := by decide +kernel
set_option maxRecDepth 20000 in
theorem ggJ4_length_8abf5_J5_length_8abf5 : GoodIn wsJ4_length_8abf5 wsJ5_length_8abf5 := goodIn_r _ [6, 7, 8, 9, 10, 11] (by decide +kernel) (by decide +kernel)
set_option maxRecDepth 20000 in
theorem gJ4_length_8abf5_J5_length_8abf5_s343 : GoodIn wsJ4_length_8abf5 (va_wsSU RJ4 343 yJ5_length_8abf5 wsJ5_length_8abf5) := goodIn_app (goodIn_of _ (by decide +kernel)) ggJ4_length_8abf5_J5_length_8abf5
theorem dJ4_length_8abf5_0 : decode cJ4_length_8abf5 0 = .ok (.aload_n 0, 1) := by decide +kernel
theorem dJ4_length_8abf5_1 : decode cJ4_length_8abf5 1 = .ok (.invokespecial 343, 3) := by decide +kernel
theorem dJ4_length_8abf5_4 : decode cJ4_length_8abf5 4 = .ok (.ireturn, 1) := by decide +kernel
theorem dJ1_equals_b5fdf_0 : decode cJ1_equals_b5fdf 0 = .ok (.aload_n 0, 1) := by decide +kernel
theorem dJ1_equals_b5fdf_1 : decode cJ1_equals_b5fdf 1 = .ok (.arraylength, 1) := by decide +kernel
theorem dJ1_equals_b5fdf_2 : decode cJ1_equals_b5fdf 2 = .ok (.aload_n 1, 1) := by decide +kernel
theorem dJ1_equals_b5fdf_3 : decode cJ1_equals_b5fdf 3 = .ok (.arraylength, 1) := by decide +kernel
theorem dJ1_equals_b5fdf_4 : decode cJ1_equals_b5fdf 4 = .ok (.if_icmp .ne 30, 3) := by decide +kernel
theorem dJ1_equals_b5fdf_7 : decode cJ1_equals_b5fdf 7 = .ok (.iconst 0, 1) := by decide +kernel
theorem dJ1_equals_b5fdf_8 : decode cJ1_equals_b5fdf 8 = .ok (.istore_n 2, 1) := by decide +kernel
theorem dJ1_equals_b5fdf_9 : decode cJ1_equals_b5fdf 9 = .ok (.iload_n 2, 1) := by decide +kernel
theorem dJ1_equals_b5fdf_10 : decode cJ1_equals_b5fdf 10 = .ok (.aload_n 0, 1) := by decide +kernel
theorem dJ1_equals_b5fdf_11 : decode cJ1_equals_b5fdf 11 = .ok (.arraylength, 1) := by decide +kernel
theorem dJ1_equals_b5fdf_12 : decode cJ1_equals_b5fdf 12 = .ok (.if_icmp .ge 20, 3) := by decide +kernel
theorem dJ1_equals_b5fdf_15 : decode cJ1_equals_b5fdf 15 = .ok (.aload_n 0, 1) := by decide +kernel
theorem dJ1_equals_b5fdf_16 : decode cJ1_equals_b5fdf 16 = .ok (.iload_n 2, 1) := by decide +kernel
theorem dJ1_equals_b5fdf_17 : decode cJ1_equals_b5fdf 17 = .ok (.baload, 1) := by decide +kernel
theorem dJ1_equals_b5fdf_18 : decode cJ1_equals_b5fdf 18 = .ok (.aload_n 1, 1) := by decide +kernel
theorem dJ1_equals_b5fdf_19 : decode cJ1_equals_b5fdf 19 = .ok (.iload_n 2, 1) := by decide +kernel
theorem dJ1_equals_b5fdf_20 : decode cJ1_equals_b5fdf 20 = .ok (.baload, 1) := by decide +kernel
theorem dJ1_equals_b5fdf_21 : decode cJ1_equals_b5fdf 21 = .ok (.if_icmp .eq 5, 3) := by decide +kernel
theorem dJ1_equals_b5fdf_24 : decode cJ1_equals_b5fdf 24 = .ok (.iconst 0, 1) := by decide +kernel
theorem dJ1_equals_b5fdf_25 : decode cJ1_equals_b5fdf 25 = .ok (.ireturn, 1) := by decide +kernel
theorem dJ1_equals_b5fdf_26 : decode cJ1_equals_b5fdf 26 = .ok (.iinc 2 1, 3) := by decide +kernel
theorem dJ1_equals_b5fdf_29 : decode cJ1_equals_b5fdf 29 = .ok (.goto (-20), 3) := by decide +kernel
theorem dJ1_equals_b5fdf_32 : decode cJ1_equals_b5fdf 32 = .ok (.iconst 1, 1) := by decide +kernel
theorem dJ1_equals_b5fdf_33 : decode cJ1_equals_b5fdf 33 = .ok (.ireturn, 1) := by decide +kernel
theorem dJ1_equals_b5fdf_34 : decode cJ1_equals_b5fdf 34 = .ok (.iconst 0, 1) := by decide +kernel
theorem dJ1_equals_b5fdf_35 : decode cJ1_equals_b5fdf 35 = .ok (.ireturn, 1) := by decide +kernel
theorem dJxa1e45_init_da8c8_0 : decode cJxa1e45_init_da8c8 0 = .ok (.aload_n 0, 1) := by decide +kernel
theorem dJxa1e45_init_da8c8_1 : decode cJxa1e45_init_da8c8 1 = .ok (.invokespecial 1, 3) := by decide +kernel
theorem dJxa1e45_init_da8c8_4 : decode cJxa1e45_init_da8c8 4 = .ok (.return_, 1) := by decide +kernel
set_option maxRecDepth 20000 in
theorem ggJxc12de_init_da8c8_Jxa1e45_init_da8c8 : GoodIn wsJxc12de_init_da8c8 wsJxa1e45_init_da8c8 := goodIn_r _ [5, 6, 7, 8] (by decide +kernel) (by decide +kernel)
set_option maxRecDepth 20000 in
theorem gJxc12de_init_da8c8_Jxa1e45_init_da8c8 : GoodIn wsJxc12de_init_da8c8 (wsJxa1e45_init_da8c8) := ggJxc12de_init_da8c8_Jxa1e45_init_da8c8
theorem dJxc12de_init_da8c8_0 : decode cJxc12de_init_da8c8 0 = .ok (.aload_n 0, 1) := by decide +kernel
theorem dJxc12de_init_da8c8_1 : decode cJxc12de_init_da8c8 1 = .ok (.invokespecial 1, 3) := by decide +kernel
theorem dJxc12de_init_da8c8_4 : decode cJxc12de_init_da8c8 4 = .ok (.aload_n 0, 1) := by decide +kernel
theorem dJxc12de_init_da8c8_5 : decode cJxc12de_init_da8c8 5 = .ok (.iconst 0, 1) := by decide +kernel
theorem dJxc12de_init_da8c8_6 : decode cJxc12de_init_da8c8 6 = .ok (.putfield 7, 3) := by decide +kernel
theorem dJxc12de_init_da8c8_9 : decode cJxc12de_init_da8c8 9 = .ok (.return_, 1) := by decide +kernel
set_option maxRecDepth 20000 in
theorem ggJx4a65c_init_da8c8_Jxc12de_init_da8c8 : GoodIn wsJx4a65c_init_da8c8 wsJxc12de_init_da8c8 := goodIn_r _ [6, 7, 8, 9, 10, 11, 12, 13, 14, 15, 16, 17] (by decide +kernel) (by decide +kernel)
set_option maxRecDepth 20000 in
theorem gJx4a65c_init_da8c8_Jxc12de_init_da8c8 : GoodIn wsJx4a65c_init_da8c8 (wsJxc12de_init_da8c8) := ggJx4a65c_init_da8c8_Jxc12de_init_da8c8
theorem dJx4a65c_init_da8c8_0 : decode cJx4a65c_init_da8c8 0 = .ok (.aload_n 0, 1) := by decide +kernel
theorem dJx4a65c_init_da8c8_1 : decode cJx4a65c_init_da8c8 1 = .ok (.invokespecial 1, 3) := by decide +kernel
theorem dJx4a65c_init_da8c8_4 : decode cJx4a65c_init_da8c8 4 = .ok (.aload_n 0, 1) := by decide +kernel
theorem dJx4a65c_init_da8c8_5 : decode cJx4a65c_init_da8c8 5 = .ok (.getstatic 39, 3) := by decide +kernel
theorem dJx4a65c_init_da8c8_8 : decode cJx4a65c_init_da8c8 8 = .ok (.putfield 9, 3) := by decide +kernel
theorem dJx4a65c_init_da8c8_11 : decode cJx4a65c_init_da8c8 11 = .ok (.return_, 1) := by decide +kernel
theorem dJx4a65c_size_8abf5_0 : decode cJx4a65c_size_8abf5 0 = .ok (.aload_n 0, 1) := by decide +kernel
theorem dJx4a65c_size_8abf5_1 : decode cJx4a65c_size_8abf5 1 = .ok (.getfield 48, 3) := by decide +kernel
theorem dJx4a65c_size_8abf5_4 : decode cJx4a65c_size_8abf5 4 = .ok (.ireturn, 1) := by decide +kernel
theorem dJ7_checkLength_df160_0 : decode cJ7_checkLength_df160 0 = .ok (.iload_n 1, 1) := by decide +kernel
theorem dJ7_checkLength_df160_1 : decode cJ7_checkLength_df160 1 = .ok (.iload_n 0, 1) := by decide +kernel
theorem dJ7_checkLength_df160_2 : decode cJ7_checkLength_df160 2 = .ok (.if_icmp .ge 35, 3) := by decide +kernel
theorem dJ7_checkLength_df160_5 : decode cJ7_checkLength_df160 5 = .ok (.new 43, 3) := by decide +kernel
theorem dJ7_checkLength_df160_8 : decode cJ7_checkLength_df160 8 = .ok (.dup, 1) := by decide +kernel
theorem dJ7_checkLength_df160_9 : decode cJ7_checkLength_df160 9 = .ok (.new 45, 3) := by decide +kernel
theorem dJ7_checkLength_df160_12 : decode cJ7_checkLength_df160 12 = .ok (.dup, 1) := by decide +kernel
theorem dJ7_checkLength_df160_13 : decode cJ7_checkLength_df160 13 = .ok (.invokespecial 47, 3) := by decide +kernel
theorem dJ7_checkLength_df160_16 : decode cJ7_checkLength_df160 16 = .ok (.iload_n 0, 1) := by decide +kernel
theorem dJ7_checkLength_df160_17 : decode cJ7_checkLength_df160 17 = .ok (.invokevirtual 54, 3) := by decide +kernel
theorem dJ7_checkLength_df160_20 : decode cJ7_checkLength_df160 20 = .ok (.ldc_w 337, 3) := by decide +kernel
theorem dJ7_checkLength_df160_23 : decode cJ7_checkLength_df160 23 = .ok (.invokevirtual 50, 3) := by decide +kernel
theorem dJ7_checkLength_df160_26 : decode cJ7_checkLength_df160 26 = .ok (.iload_n 1, 1) := by decide +kernel
theorem dJ7_checkLength_df160_27 : decode cJ7_checkLength_df160 27 = .ok (.invokevirtual 54, 3) := by decide +kernel
theorem dJ7_checkLength_df160_30 : decode cJ7_checkLength_df160 30 = .ok (.invokevirtual 61, 3) := by decide +kernel
theorem dJ7_checkLength_df160_33 : decode cJ7_checkLength_df160 33 = .ok (.invokespecial 65, 3) := by decide +kernel
theorem dJ7_checkLength_df160_36 : decode cJ7_checkLength_df160 36 = .ok (.athrow, 1) := by decide +kernel
theorem dJ7_checkLength_df160_37 : decode cJ7_checkLength_df160 37 = .ok (.return_, 1) := by decide +kernel
set_option maxRecDepth 20000 in
theorem ggJ7_copyOfRange_39247_J7_copyOfRangeByte_39247 : GoodIn wsJ7_copyOfRange_39247 wsJ7_copyOfRangeByte_39247 := goodIn_r _ [10, 11, 12, 13, 14, 15, 16, 17, 18, 19, 20, 21, 9, 22, 23, 24, 25, 26, 27, 28, 29] (by decide +kernel) (by decide +kernel)
set_option maxRecDepth 20000 in
theorem gJ7_copyOfRange_39247_J7_copyOfRangeByte_39247 : GoodIn wsJ7_copyOfRange_39247 (va_wsS RJ7 339 yJ7_copyOfRangeByte_39247 wsJ7_copyOfRangeByte_39247) := goodIn_app (goodIn_of _ (by decide +kernel)) ggJ7_copyOfRange_39247_J7_copyOfRangeByte_39247
theorem dJ7_copyOfRange_39247_0 : decode cJ7_copyOfRange_39247 0 = .ok (.iload_n 1, 1) := by decide +kernel
theorem dJ7_copyOfRange_39247_1 : decode cJ7_copyOfRange_39247 1 = .ok (.ifCond .ne 9, 3) := by decide +kernel
theorem dJ7_copyOfRange_39247_4 : decode cJ7_copyOfRange_39247 4 = .ok (.iload_n 2, 1) := by decide +kernel
theorem dJ7_copyOfRange_39247_5 : decode cJ7_copyOfRange_39247 5 = .ok (.aload_n 0, 1) := by decide +kernel
theorem dJ7_copyOfRange_39247_6 : decode cJ7_copyOfRange_39247 6 = .ok (.arraylength, 1) := by decide +kernel
theorem dJ7_copyOfRange_39247_7 : decode cJ7_copyOfRange_39247 7 = .ok (.if_icmp .eq 10, 3) := by decide +kernel
theorem dJ7_copyOfRange_39247_10 : decode cJ7_copyOfRange_39247 10 = .ok (.aload_n 0, 1) := by decide +kernel
theorem dJ7_copyOfRange_39247_11 : decode cJ7_copyOfRange_39247 11 = .ok (.iload_n 1, 1) := by decide +kernel
theorem dJ7_copyOfRange_39247_12 : decode cJ7_copyOfRange_39247 12 = .ok (.iload_n 2, 1) := by decide +kernel
theorem dJ7_copyOfRange_39247_13 : decode cJ7_copyOfRange_39247 13 = .ok (.invokestatic 339, 3) := by decide +kernel
theorem dJ7_copyOfRange_39247_16 : decode cJ7_copyOfRange_39247 16 = .ok (.areturn, 1) := by decide +kernel
theorem dJ7_copyOfRange_39247_17 : decode cJ7_copyOfRange_39247 17 = .ok (.aload_n 0, 1) := by decide +kernel
theorem dJ7_copyOfRange_39247_18 : decode cJ7_copyOfRange_39247 18 = .ok (.invokevirtual 310, 3) := by decide +kernel
theorem dJ7_copyOfRange_39247_21 : decode cJ7_copyOfRange_39247 21 = .ok (.checkcast 311, 3) := by decide +kernel
theorem dJ7_copyOfRange_39247_24 : decode cJ7_copyOfRange_39247 24 = .ok (.areturn, 1) := by decide +kernel
set_option maxRecDepth 20000 in
theorem ggJ7_copyOfRangeByte_39247_J7_checkLength_df160 : GoodIn wsJ7_copyOfRangeByte_39247 wsJ7_checkLength_df160 := goodIn_r _ [13, 14, 15, 16, 17, 18, 19, 20] (by decide +kernel) (by decide +kernel)
set_option maxRecDepth 20000 in
theorem gJ7_copyOfRangeByte_39247_J7_checkLength_df160 : GoodIn wsJ7_copyOfRangeByte_39247 (va_wsS RJ7 343 yJ7_checkLength_df160 wsJ7_checkLength_df160) := goodIn_app (goodIn_of _ (by decide +kernel)) ggJ7_copyOfRangeByte_39247_J7_checkLength_df160
theorem dJ7_copyOfRangeByte_39247_0 : decode cJ7_copyOfRangeByte_39247 0 = .ok (.iload_n 1, 1) := by decide +kernel
theorem dJ7_copyOfRangeByte_39247_1 : decode cJ7_copyOfRangeByte_39247 1 = .ok (.iload_n 2, 1) := by decide +kernel
theorem dJ7_copyOfRangeByte_39247_2 : decode cJ7_copyOfRangeByte_39247 2 = .ok (.invokestatic 343, 3) := by decide +kernel
theorem dJ7_copyOfRangeByte_39247_5 : decode cJ7_copyOfRangeByte_39247 5 = .ok (.iload_n 2, 1) := by decide +kernel
theorem dJ7_copyOfRangeByte_39247_6 : decode cJ7_copyOfRangeByte_39247 6 = .ok (.iload_n 1, 1) := by decide +kernel
theorem dJ7_copyOfRangeByte_39247_7 : decode cJ7_copyOfRangeByte_39247 7 = .ok (.isub, 1) := by decide +kernel
theorem dJ7_copyOfRangeByte_39247_8 : decode cJ7_copyOfRangeByte_39247 8 = .ok (.istore_n 3, 1) := by decide +kernel
theorem dJ7_copyOfRangeByte_39247_9 : decode cJ7_copyOfRangeByte_39247 9 = .ok (.iload_n 3, 1) := by decide +kernel
theorem dJ7_copyOfRangeByte_39247_10 : decode cJ7_copyOfRangeByte_39247 10 = .ok (.newarray .byte, 2) := by decide +kernel
theorem dJ7_copyOfRangeByte_39247_12 : decode cJ7_copyOfRangeByte_39247 12 = .ok (.astore 4, 2) := by decide +kernel
theorem dJ7_copyOfRangeByte_39247_14 : decode cJ7_copyOfRangeByte_39247 14 = .ok (.aload_n 0, 1) := by decide +kernel
theorem dJ7_copyOfRangeByte_39247_15 : decode cJ7_copyOfRangeByte_39247 15 = .ok (.iload_n 1, 1) := by decide +kernel
theorem dJ7_copyOfRangeByte_39247_16 : decode cJ7_copyOfRangeByte_39247 16 = .ok (.aload 4, 2) := by decide +kernel
theorem dJ7_copyOfRangeByte_39247_18 : decode cJ7_copyOfRangeByte_39247 18 = .ok (.iconst 0, 1) := by decide +kernel
theorem dJ7_copyOfRangeByte_39247_19 : decode cJ7_copyOfRangeByte_39247 19 = .ok (.aload_n 0, 1) := by decide +kernel
theorem dJ7_copyOfRangeByte_39247_20 : decode cJ7_copyOfRangeByte_39247 20 = .ok (.arraylength, 1) := by decide +kernel
theorem dJ7_copyOfRangeByte_39247_21 : decode cJ7_copyOfRangeByte_39247 21 = .ok (.iload_n 1, 1) := by decide +kernel
theorem dJ7_copyOfRangeByte_39247_22 : decode cJ7_copyOfRangeByte_39247 22 = .ok (.isub, 1) := by decide +kernel
theorem dJ7_copyOfRangeByte_39247_23 : decode cJ7_copyOfRangeByte_39247 23 = .ok (.iload_n 3, 1) := by decide +kernel
theorem dJ7_copyOfRangeByte_39247_24 : decode cJ7_copyOfRangeByte_39247 24 = .ok (.invokestatic 304, 3) := by decide +kernel
theorem dJ7_copyOfRangeByte_39247_27 : decode cJ7_copyOfRangeByte_39247 27 = .ok (.invokestatic 150, 3) := by decide +kernel
theorem dJ7_copyOfRangeByte_39247_30 : decode cJ7_copyOfRangeByte_39247 30 = .ok (.aload 4, 2) := by decide +kernel
theorem dJ7_copyOfRangeByte_39247_32 : decode cJ7_copyOfRangeByte_39247 32 = .ok (.areturn, 1) := by decide +kernel
set_option maxRecDepth 20000 in
theorem ggL_clear_X3_clear : GoodIn wsL_clear wsX3_clear := goodIn_ca (goodIn_r _ [6, 7, 8, 9, 10, 5, 11, 12, 13, 14, 15, 16, 17, 18, 19, 22, 23, 24, 25, 26, 27, 28, 29, 30, 31, 32] (by decide +kernel) (by decide +kernel)) (goodIn_sub (fun _ h => List.mem_cons_of_mem _ (List.mem_append_right _ h)) (by decide +kernel))
set_option maxRecDepth 20000 in
theorem gL_clear_X3_clear : GoodIn wsL_clear (wsV RL 25 RX3 yX3_clear wsX3_clear) := goodIn_app (goodIn_of _ (by decide +kernel)) ggL_clear_X3_clear
theorem dL_clear_0 : decode cL_clear 0 = .ok (.aload_n 2, 1) := by decide +kernel
theorem dL_clear_1 : decode cL_clear 1 = .ok (.aload_n 0, 1) := by decide +kernel
theorem dL_clear_2 : decode cL_clear 2 = .ok (.iload_n 1, 1) := by decide +kernel
theorem dL_clear_3 : decode cL_clear 3 = .ok (.invokevirtual 25, 3) := by decide +kernel
theorem dL_clear_6 : decode cL_clear 6 = .ok (.i2l, 1) := by decide +kernel
theorem dL_clear_7 : decode cL_clear 7 = .ok (.putfield 13, 3) := by decide +kernel
theorem dL_clear_10 : decode cL_clear 10 = .ok (.goto 6, 3) := by decide +kernel
theorem dL_clear_13 : decode cL_clear 13 = .ok (.astore_n 3, 1) := by decide +kernel
theorem dL_clear_14 : decode cL_clear 14 = .ok (.iconst 1, 1) := by decide +kernel
theorem dL_clear_15 : decode cL_clear 15 = .ok (.ireturn, 1) := by decide +kernel
theorem dL_clear_16 : decode cL_clear 16 = .ok (.iconst 0, 1) := by decide +kernel
theorem dL_clear_17 : decode cL_clear 17 = .ok (.ireturn, 1) := by decide +kernel
set_option maxRecDepth 20000 in
theorem ggL_lay_X3_lay : GoodIn wsL_lay wsX3_lay := goodIn_ca (goodIn_r _ [6, 7, 8, 9, 10, 11, 5, 12, 13, 14, 15, 16, 17, 18, 19, 20, 21, 22, 23, 24, 25, 26, 27, 28, 29, 30, 31, 32, 33, 34, 35, 36, 37, 40, 41, 42, 43, 44, 45, 46, 47, 48, 49, 50] (by decide +kernel) (by decide +kernel)) (goodIn_sub (fun _ h => List.mem_cons_of_mem _ (List.mem_append_right _ h)) (by decide +kernel))
set_option maxRecDepth 20000 in
theorem gL_lay_X3_lay : GoodIn wsL_lay (wsV RL 33 RX3 yX3_lay wsX3_lay) := goodIn_app (goodIn_of _ (by decide +kernel)) ggL_lay_X3_lay
theorem dL_lay_0 : decode cL_lay 0 = .ok (.aload 4, 2) := by decide +kernel
theorem dL_lay_2 : decode cL_lay 2 = .ok (.aload_n 0, 1) := by decide +kernel
theorem dL_lay_3 : decode cL_lay 3 = .ok (.iload_n 1, 1) := by decide +kernel
theorem dL_lay_4 : decode cL_lay 4 = .ok (.iload_n 2, 1) := by decide +kernel
theorem dL_lay_5 : decode cL_lay 5 = .ok (.iload_n 3, 1) := by decide +kernel
theorem dL_lay_6 : decode cL_lay 6 = .ok (.invokevirtual 33, 3) := by decide +kernel
theorem dL_lay_9 : decode cL_lay 9 = .ok (.i2l, 1) := by decide +kernel
theorem dL_lay_10 : decode cL_lay 10 = .ok (.putfield 13, 3) := by decide +kernel
theorem dL_lay_13 : decode cL_lay 13 = .ok (.goto 7, 3) := by decide +kernel
theorem dL_lay_16 : decode cL_lay 16 = .ok (.astore 5, 2) := by decide +kernel
theorem dL_lay_18 : decode cL_lay 18 = .ok (.iconst 1, 1) := by decide +kernel
theorem dL_lay_19 : decode cL_lay 19 = .ok (.ireturn, 1) := by decide +kernel
theorem dL_lay_20 : decode cL_lay 20 = .ok (.iconst 0, 1) := by decide +kernel
theorem dL_lay_21 : decode cL_lay 21 = .ok (.ireturn, 1) := by decide +kernel
set_option maxRecDepth 20000 in
theorem ggL_text_X3_text : GoodIn wsL_text wsX3_text := goodIn_ca (goodIn_r _ [6, 7, 8, 9, 5, 10, 11, 12, 13, 14, 15, 16, 17, 18, 19, 20, 21, 22, 23, 24, 25, 26, 27, 28, 29, 30, 31, 32, 33, 34, 35, 36, 37, 38, 39, 40, 41, 42, 43, 44, 45, 46, 47, 48, 49, 50, 51, 52, 53, 54, 55, 56, 57, 58, 59, 60, 61, 62, 63, 64, 65, 66, 67, 68, 69, 70, 71, 72, 73, 74, 75, 76, 77, 78, 79, 80, 81, 82, 83, 84, 85, 86, 87, 88, 89, 90, 91, 92, 93, 94, 95, 96, 97, 98, 99, 100, 101, 102, 103, 104, 105, 106, 107, 108, 109, 110, 111, 112, 113, 114, 115, 116, 117, 118, 119, 120, 121, 122, 123, 124, 125, 126, 127, 128, 129, 130, 131, 132, 133, 134, 135, 136, 137, 138, 139, 140, 141, 142, 143, 144, 145, 146, 147, 148, 149, 150, 151, 152, 153, 154, 155, 156, 157, 158, 159, 160, 161, 162, 163, 164, 165, 166, 167, 168, 169, 170, 171, 172, 173, 174, 175, 176, 177, 178, 179, 180, 181, 182, 183, 184, 185, 186, 187, 188, 189, 190, 191, 192, 193, 194, 195, 196, 197, 198, 199, 200, 201, 202, 203, 204, 205, 206, 209, 210, 211, 212, 213, 214, 215, 216, 217, 218, 219, 220, 221, 222, 223, 224, 225, 226, 227] (by decide +kernel) (by decide +kernel)) (goodIn_sub (fun _ h => List.mem_cons_of_mem _ (List.mem_append_right _ h)) (by decide +kernel))
set_option maxRecDepth 20000 in
theorem gL_text_X3_text : GoodIn wsL_text (wsV RL 43 RX3 yX3_text wsX3_text) := goodIn_app (goodIn_of _ (by decide +kernel)) ggL_text_X3_text
theorem dL_text_0 : decode cL_text 0 = .ok (.aload_n 2, 1) := by decide +kernel
theorem dL_text_1 : decode cL_text 1 = .ok (.aload_n 0, 1) := by decide +kernel
theorem dL_text_2 : decode cL_text 2 = .ok (.iload_n 1, 1) := by decide +kernel
theorem dL_text_3 : decode cL_text 3 = .ok (.invokevirtual 43, 3) := by decide +kernel
theorem dL_text_6 : decode cL_text 6 = .ok (.putfield 47, 3) := by decide +kernel
theorem dL_text_9 : decode cL_text 9 = .ok (.goto 6, 3) := by decide +kernel
theorem dL_text_12 : decode cL_text 12 = .ok (.astore_n 3, 1) := by decide +kernel
theorem dL_text_13 : decode cL_text 13 = .ok (.iconst 1, 1) := by decide +kernel
theorem dL_text_14 : decode cL_text 14 = .ok (.ireturn, 1) := by decide +kernel
theorem dL_text_15 : decode cL_text 15 = .ok (.iconst 0, 1) := by decide +kernel
theorem dL_text_16 : decode cL_text 16 = .ok (.ireturn, 1) := by decide +kernel
set_option maxRecDepth 20000 in
theorem ggL_meets_X3_meets : GoodIn wsL_meets wsX3_meets := goodIn_ca (goodIn_r _ [6, 7, 8, 9, 10, 11, 12, 13, 14, 15, 16, 17, 18, 19, 20, 21, 22, 23, 24, 25, 26, 27, 28, 29, 30, 31, 32, 33, 34, 35, 36, 37, 38, 39, 40, 41, 42, 43, 44, 45, 46, 47, 48, 49, 50, 51, 52, 53, 54, 55, 56, 57, 58, 59, 60, 61, 62, 63, 64, 65, 66, 67, 68, 69, 70, 71, 72, 73, 74, 75, 76, 77, 78, 79, 80, 81, 82, 83, 84, 85, 86, 87, 88, 89, 90, 91, 92, 93, 94, 95, 96, 97, 98, 99, 100, 101, 102, 103, 104, 105, 106, 107, 108, 109, 110, 111, 112, 113, 114, 115, 116, 117, 118, 119, 120, 121, 122, 123, 124, 125, 126, 127, 128, 131, 132, 133, 134, 135, 136, 137, 138, 139, 140, 141, 142, 143, 144, 145, 146, 147, 148, 149, 150, 151, 152, 153, 154, 155, 156, 157] (by decide +kernel) (by decide +kernel)) (goodIn_sub (fun _ h => List.mem_cons_of_mem _ (List.mem_append_right _ h)) (by decide +kernel))
set_option maxRecDepth 20000 in
theorem gL_meets_X3_meets : GoodIn wsL_meets (wsV RL 111 RX3 yX3_meets wsX3_meets) := goodIn_app (goodIn_of _ (by decide +kernel)) ggL_meets_X3_meets
theorem dL_meets_0 : decode cL_meets 0 = .ok (.aload_n 2, 1) := by decide +kernel
theorem dL_meets_1 : decode cL_meets 1 = .ok (.aload_n 0, 1) := by decide +kernel
theorem dL_meets_2 : decode cL_meets 2 = .ok (.iload_n 1, 1) := by decide +kernel
theorem dL_meets_3 : decode cL_meets 3 = .ok (.invokevirtual 111, 3) := by decide +kernel
theorem dL_meets_6 : decode cL_meets 6 = .ok (.ifCond .eq 7, 3) := by decide +kernel
theorem dL_meets_9 : decode cL_meets 9 = .ok (.lconst 1, 1) := by decide +kernel
theorem dL_meets_10 : decode cL_meets 10 = .ok (.goto 4, 3) := by decide +kernel
theorem dL_meets_13 : decode cL_meets 13 = .ok (.lconst 0, 1) := by decide +kernel
theorem dL_meets_14 : decode cL_meets 14 = .ok (.putfield 13, 3) := by decide +kernel
theorem dL_meets_17 : decode cL_meets 17 = .ok (.goto 6, 3) := by decide +kernel
theorem dL_meets_20 : decode cL_meets 20 = .ok (.astore_n 3, 1) := by decide +kernel
theorem dL_meets_21 : decode cL_meets 21 = .ok (.iconst 1, 1) := by decide +kernel
theorem dL_meets_22 : decode cL_meets 22 = .ok (.ireturn, 1) := by decide +kernel
theorem dL_meets_23 : decode cL_meets 23 = .ok (.iconst 0, 1) := by decide +kernel
theorem dL_meets_24 : decode cL_meets 24 = .ok (.ireturn, 1) := by decide +kernel
abbrev vwCl : List vw_C := [(RJ0, TJ0, 4), (RJ4, TJ4, 4), (RJ6, TJ6, 1), (RJx4a65c, TJx4a65c, 3), (RX0, TX0, 8), (RX1, TX1, 8), (RX2, TX2, 2), (RX3, TX3, 9), (RX4, TX4, 2), (RX5, TX5, 7)]
