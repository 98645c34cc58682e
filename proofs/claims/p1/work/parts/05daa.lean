set_option maxRecDepth 20000 in
theorem ggX0_init_X2_init : GoodIn wsX0_init wsX2_init := goodIn_r _ [17, 18, 2, 3, 19, 20, 21, 30, 31] (by decide +kernel) (by decide +kernel)
set_option maxRecDepth 20000 in
theorem gX0_init_X2_init_n17 : GoodIn wsX0_init (wsX2_init) := ggX0_init_X2_init
theorem dX0_init_0 : decode cX0_init 0 = .ok (.aload_n 0, 1) := by decide +kernel
theorem dX0_init_1 : decode cX0_init 1 = .ok (.invokespecial 5, 3) := by decide +kernel
theorem dX0_init_4 : decode cX0_init 4 = .ok (.aload_n 0, 1) := by decide +kernel
theorem dX0_init_5 : decode cX0_init 5 = .ok (.sipush 704, 3) := by decide +kernel
theorem dX0_init_8 : decode cX0_init 8 = .ok (.newarray .int, 2) := by decide +kernel
theorem dX0_init_10 : decode cX0_init 10 = .ok (.putfield 11, 3) := by decide +kernel
theorem dX0_init_13 : decode cX0_init 13 = .ok (.aload_n 0, 1) := by decide +kernel
theorem dX0_init_14 : decode cX0_init 14 = .ok (.new 15, 3) := by decide +kernel
theorem dX0_init_17 : decode cX0_init 17 = .ok (.dup, 1) := by decide +kernel
theorem dX0_init_18 : decode cX0_init 18 = .ok (.invokespecial 17, 3) := by decide +kernel
theorem dX0_init_21 : decode cX0_init 21 = .ok (.putfield 18, 3) := by decide +kernel
theorem dX0_init_24 : decode cX0_init 24 = .ok (.aload_n 0, 1) := by decide +kernel
theorem dX0_init_25 : decode cX0_init 25 = .ok (.new 15, 3) := by decide +kernel
theorem dX0_init_28 : decode cX0_init 28 = .ok (.dup, 1) := by decide +kernel
theorem dX0_init_29 : decode cX0_init 29 = .ok (.invokespecial 17, 3) := by decide +kernel
theorem dX0_init_32 : decode cX0_init 32 = .ok (.putfield 22, 3) := by decide +kernel
theorem dX0_init_35 : decode cX0_init 35 = .ok (.aload_n 0, 1) := by decide +kernel
theorem dX0_init_36 : decode cX0_init 36 = .ok (.new 15, 3) := by decide +kernel
theorem dX0_init_39 : decode cX0_init 39 = .ok (.dup, 1) := by decide +kernel
theorem dX0_init_40 : decode cX0_init 40 = .ok (.invokespecial 17, 3) := by decide +kernel
theorem dX0_init_43 : decode cX0_init 43 = .ok (.putfield 25, 3) := by decide +kernel
theorem dX0_init_46 : decode cX0_init 46 = .ok (.aload_n 0, 1) := by decide +kernel
theorem dX0_init_47 : decode cX0_init 47 = .ok (.iconst 0, 1) := by decide +kernel
theorem dX0_init_48 : decode cX0_init 48 = .ok (.putfield 28, 3) := by decide +kernel
theorem dX0_init_51 : decode cX0_init 51 = .ok (.aload_n 0, 1) := by decide +kernel
theorem dX0_init_52 : decode cX0_init 52 = .ok (.iconst 0, 1) := by decide +kernel
theorem dX0_init_53 : decode cX0_init 53 = .ok (.putfield 32, 3) := by decide +kernel
theorem dX0_init_56 : decode cX0_init 56 = .ok (.aload_n 0, 1) := by decide +kernel
theorem dX0_init_57 : decode cX0_init 57 = .ok (.bipush (-2), 2) := by decide +kernel
theorem dX0_init_59 : decode cX0_init 59 = .ok (.putfield 35, 3) := by decide +kernel
theorem dX0_init_62 : decode cX0_init 62 = .ok (.aload_n 0, 1) := by decide +kernel
theorem dX0_init_63 : decode cX0_init 63 = .ok (.aload_n 1, 1) := by decide +kernel
theorem dX0_init_64 : decode cX0_init 64 = .ok (.putfield 38, 3) := by decide +kernel
theorem dX0_init_67 : decode cX0_init 67 = .ok (.return_, 1) := by decide +kernel
set_option maxRecDepth 20000 in
theorem ggX0_size_X0_list : GoodIn wsX0_size wsX0_list := goodIn_r _ [6, 7, 8, 9, 1, 10, 11, 12, 13, 14, 5, 15, 16, 17, 18, 19, 20, 21, 22, 23, 24, 25, 26, 27, 28, 29, 30, 31, 32, 33, 34, 35, 36, 37, 38, 39, 40, 41, 42, 43, 44, 45, 46, 47, 48, 49, 50, 51, 52, 53, 54, 55, 56, 57, 58, 59] (by decide +kernel) (by decide +kernel)
set_option maxRecDepth 20000 in
theorem gX0_size_X0_list : GoodIn wsX0_size (wsV RX0 42 RX0 yX0_list wsX0_list) := goodIn_app (goodIn_of _ (by decide +kernel)) ggX0_size_X0_list
theorem dX0_size_0 : decode cX0_size 0 = .ok (.aload_n 0, 1) := by decide +kernel
theorem dX0_size_1 : decode cX0_size 1 = .ok (.invokevirtual 42, 3) := by decide +kernel
theorem dX0_size_4 : decode cX0_size 4 = .ok (.aload_n 0, 1) := by decide +kernel
theorem dX0_size_5 : decode cX0_size 5 = .ok (.getfield 28, 3) := by decide +kernel
theorem dX0_size_8 : decode cX0_size 8 = .ok (.ireturn, 1) := by decide +kernel
set_option maxRecDepth 20000 in
theorem ggX0_has_X0_size : GoodIn wsX0_has wsX0_size := goodIn_r _ [5, 6, 7, 8, 9, 4, 10, 11, 12, 13, 14, 15, 16, 17, 18, 19, 20, 21, 22, 23, 24, 25, 26, 27, 28, 29, 30, 31, 32, 33, 34, 35, 36, 37, 38, 39, 40, 41, 42, 43, 44, 45, 46, 47, 48, 49, 50, 51, 52, 53, 54, 55, 56, 57, 58, 59, 60, 61, 62, 63] (by decide +kernel) (by decide +kernel)
set_option maxRecDepth 20000 in
theorem gX0_has_X0_size : GoodIn wsX0_has (wsV RX0 45 RX0 yX0_size wsX0_size) := goodIn_app (goodIn_of _ (by decide +kernel)) ggX0_has_X0_size
theorem dX0_has_0 : decode cX0_has 0 = .ok (.iload_n 1, 1) := by decide +kernel
theorem dX0_has_1 : decode cX0_has 1 = .ok (.ifCond .lt 15, 3) := by decide +kernel
theorem dX0_has_4 : decode cX0_has 4 = .ok (.iload_n 1, 1) := by decide +kernel
theorem dX0_has_5 : decode cX0_has 5 = .ok (.aload_n 0, 1) := by decide +kernel
theorem dX0_has_6 : decode cX0_has 6 = .ok (.invokevirtual 45, 3) := by decide +kernel
theorem dX0_has_9 : decode cX0_has 9 = .ok (.if_icmp .ge 7, 3) := by decide +kernel
theorem dX0_has_16 : decode cX0_has 16 = .ok (.iconst 0, 1) := by decide +kernel
theorem dX0_has_17 : decode cX0_has 17 = .ok (.ireturn, 1) := by decide +kernel
theorem dX0_list_0 : decode cX0_list 0 = .ok (.aload_n 0, 1) := by decide +kernel
theorem dX0_list_1 : decode cX0_list 1 = .ok (.getfield 32, 3) := by decide +kernel
theorem dX0_list_4 : decode cX0_list 4 = .ok (.aload_n 0, 1) := by decide +kernel
theorem dX0_list_5 : decode cX0_list 5 = .ok (.getfield 38, 3) := by decide +kernel
theorem dX0_list_8 : decode cX0_list 8 = .ok (.getfield 49, 3) := by decide +kernel
theorem dX0_list_11 : decode cX0_list 11 = .ok (.if_icmp .ne 4, 3) := by decide +kernel
theorem dX0_list_14 : decode cX0_list 14 = .ok (.return_, 1) := by decide +kernel
set_option maxRecDepth 20000 in
theorem ggX0_firstUnmet_X0_list : GoodIn wsX0_firstUnmet wsX0_list := goodIn_r _ [7, 8, 9, 10, 2, 1, 11, 12, 13, 14, 6, 15, 16, 17, 18, 19, 20, 21, 22, 23, 24, 25, 26, 27, 28, 29, 30, 31, 32, 33, 34, 35, 36, 37, 38, 39, 40, 41, 112, 113, 114, 115, 116, 117, 118, 119, 120, 121, 122, 123, 124, 125, 126, 127, 128, 129] (by decide +kernel) (by decide +kernel)
set_option maxRecDepth 20000 in
theorem gX0_firstUnmet_X0_list : GoodIn wsX0_firstUnmet (wsV RX0 42 RX0 yX0_list wsX0_list) := goodIn_app (goodIn_of _ (by decide +kernel)) ggX0_firstUnmet_X0_list
theorem dX0_firstUnmet_0 : decode cX0_firstUnmet 0 = .ok (.aload_n 0, 1) := by decide +kernel
theorem dX0_firstUnmet_1 : decode cX0_firstUnmet 1 = .ok (.invokevirtual 42, 3) := by decide +kernel
theorem dX0_firstUnmet_4 : decode cX0_firstUnmet 4 = .ok (.aload_n 0, 1) := by decide +kernel
theorem dX0_firstUnmet_5 : decode cX0_firstUnmet 5 = .ok (.getfield 35, 3) := by decide +kernel
theorem dX0_firstUnmet_8 : decode cX0_firstUnmet 8 = .ok (.bipush (-2), 2) := by decide +kernel
theorem dX0_firstUnmet_10 : decode cX0_firstUnmet 10 = .ok (.if_icmp .ne 45, 3) := by decide +kernel
theorem dX0_firstUnmet_13 : decode cX0_firstUnmet 13 = .ok (.aload_n 0, 1) := by decide +kernel
theorem dX0_firstUnmet_14 : decode cX0_firstUnmet 14 = .ok (.iconst (-1), 1) := by decide +kernel
theorem dX0_firstUnmet_15 : decode cX0_firstUnmet 15 = .ok (.putfield 35, 3) := by decide +kernel
theorem dX0_firstUnmet_18 : decode cX0_firstUnmet 18 = .ok (.iconst 0, 1) := by decide +kernel
theorem dX0_firstUnmet_19 : decode cX0_firstUnmet 19 = .ok (.istore_n 1, 1) := by decide +kernel
theorem dX0_firstUnmet_20 : decode cX0_firstUnmet 20 = .ok (.iload_n 1, 1) := by decide +kernel
theorem dX0_firstUnmet_21 : decode cX0_firstUnmet 21 = .ok (.aload_n 0, 1) := by decide +kernel
theorem dX0_firstUnmet_22 : decode cX0_firstUnmet 22 = .ok (.getfield 28, 3) := by decide +kernel
theorem dX0_firstUnmet_25 : decode cX0_firstUnmet 25 = .ok (.if_icmp .ge 30, 3) := by decide +kernel
theorem dX0_firstUnmet_55 : decode cX0_firstUnmet 55 = .ok (.aload_n 0, 1) := by decide +kernel
theorem dX0_firstUnmet_56 : decode cX0_firstUnmet 56 = .ok (.getfield 35, 3) := by decide +kernel
theorem dX0_firstUnmet_59 : decode cX0_firstUnmet 59 = .ok (.ireturn, 1) := by decide +kernel
set_option maxRecDepth 20000 in
theorem ggX1_init_X2_init : GoodIn wsX1_init wsX2_init := goodIn_r _ [16, 17, 2, 3, 18, 19, 20, 29, 30] (by decide +kernel) (by decide +kernel)
set_option maxRecDepth 20000 in
theorem gX1_init_X2_init_n20 : GoodIn wsX1_init (wsX2_init) := ggX1_init_X2_init
theorem dX1_init_0 : decode cX1_init 0 = .ok (.aload_n 0, 1) := by decide +kernel
theorem dX1_init_1 : decode cX1_init 1 = .ok (.invokespecial 3, 3) := by decide +kernel
theorem dX1_init_4 : decode cX1_init 4 = .ok (.aload_n 0, 1) := by decide +kernel
theorem dX1_init_5 : decode cX1_init 5 = .ok (.bipush 8, 2) := by decide +kernel
theorem dX1_init_7 : decode cX1_init 7 = .ok (.anewarray 9, 3) := by decide +kernel
theorem dX1_init_10 : decode cX1_init 10 = .ok (.putfield 11, 3) := by decide +kernel
theorem dX1_init_13 : decode cX1_init 13 = .ok (.aload_n 0, 1) := by decide +kernel
theorem dX1_init_14 : decode cX1_init 14 = .ok (.bipush 8, 2) := by decide +kernel
theorem dX1_init_16 : decode cX1_init 16 = .ok (.anewarray 9, 3) := by decide +kernel
theorem dX1_init_19 : decode cX1_init 19 = .ok (.putfield 17, 3) := by decide +kernel
theorem dX1_init_22 : decode cX1_init 22 = .ok (.aload_n 0, 1) := by decide +kernel
theorem dX1_init_23 : decode cX1_init 23 = .ok (.new 9, 3) := by decide +kernel
theorem dX1_init_26 : decode cX1_init 26 = .ok (.dup, 1) := by decide +kernel
theorem dX1_init_27 : decode cX1_init 27 = .ok (.invokespecial 20, 3) := by decide +kernel
theorem dX1_init_30 : decode cX1_init 30 = .ok (.putfield 21, 3) := by decide +kernel
theorem dX1_init_33 : decode cX1_init 33 = .ok (.aload_n 0, 1) := by decide +kernel
theorem dX1_init_34 : decode cX1_init 34 = .ok (.new 9, 3) := by decide +kernel
theorem dX1_init_37 : decode cX1_init 37 = .ok (.dup, 1) := by decide +kernel
theorem dX1_init_38 : decode cX1_init 38 = .ok (.invokespecial 20, 3) := by decide +kernel
theorem dX1_init_41 : decode cX1_init 41 = .ok (.putfield 25, 3) := by decide +kernel
theorem dX1_init_44 : decode cX1_init 44 = .ok (.aload_n 0, 1) := by decide +kernel
theorem dX1_init_45 : decode cX1_init 45 = .ok (.new 9, 3) := by decide +kernel
theorem dX1_init_48 : decode cX1_init 48 = .ok (.dup, 1) := by decide +kernel
theorem dX1_init_49 : decode cX1_init 49 = .ok (.invokespecial 20, 3) := by decide +kernel
theorem dX1_init_52 : decode cX1_init 52 = .ok (.putfield 28, 3) := by decide +kernel
theorem dX1_init_55 : decode cX1_init 55 = .ok (.aload_n 0, 1) := by decide +kernel
theorem dX1_init_56 : decode cX1_init 56 = .ok (.new 9, 3) := by decide +kernel
theorem dX1_init_59 : decode cX1_init 59 = .ok (.dup, 1) := by decide +kernel
theorem dX1_init_60 : decode cX1_init 60 = .ok (.invokespecial 20, 3) := by decide +kernel
theorem dX1_init_63 : decode cX1_init 63 = .ok (.putfield 31, 3) := by decide +kernel
theorem dX1_init_66 : decode cX1_init 66 = .ok (.aload_n 0, 1) := by decide +kernel
theorem dX1_init_67 : decode cX1_init 67 = .ok (.iconst 0, 1) := by decide +kernel
theorem dX1_init_68 : decode cX1_init 68 = .ok (.putfield 34, 3) := by decide +kernel
theorem dX1_init_71 : decode cX1_init 71 = .ok (.aload_n 0, 1) := by decide +kernel
theorem dX1_init_72 : decode cX1_init 72 = .ok (.iconst 0, 1) := by decide +kernel
theorem dX1_init_73 : decode cX1_init 73 = .ok (.putfield 38, 3) := by decide +kernel
theorem dX1_init_76 : decode cX1_init 76 = .ok (.iconst 0, 1) := by decide +kernel
theorem dX1_init_77 : decode cX1_init 77 = .ok (.istore_n 1, 1) := by decide +kernel
theorem dX1_init_78 : decode cX1_init 78 = .ok (.iload_n 1, 1) := by decide +kernel
theorem dX1_init_79 : decode cX1_init 79 = .ok (.bipush 8, 2) := by decide +kernel
theorem dX1_init_81 : decode cX1_init 81 = .ok (.if_icmp .ge 35, 3) := by decide +kernel
theorem dX1_init_84 : decode cX1_init 84 = .ok (.aload_n 0, 1) := by decide +kernel
theorem dX1_init_85 : decode cX1_init 85 = .ok (.getfield 11, 3) := by decide +kernel
theorem dX1_init_88 : decode cX1_init 88 = .ok (.iload_n 1, 1) := by decide +kernel
theorem dX1_init_89 : decode cX1_init 89 = .ok (.new 9, 3) := by decide +kernel
theorem dX1_init_92 : decode cX1_init 92 = .ok (.dup, 1) := by decide +kernel
theorem dX1_init_93 : decode cX1_init 93 = .ok (.invokespecial 20, 3) := by decide +kernel
theorem dX1_init_96 : decode cX1_init 96 = .ok (.aastore, 1) := by decide +kernel
theorem dX1_init_97 : decode cX1_init 97 = .ok (.aload_n 0, 1) := by decide +kernel
theorem dX1_init_98 : decode cX1_init 98 = .ok (.getfield 17, 3) := by decide +kernel
theorem dX1_init_101 : decode cX1_init 101 = .ok (.iload_n 1, 1) := by decide +kernel
theorem dX1_init_102 : decode cX1_init 102 = .ok (.new 9, 3) := by decide +kernel
theorem dX1_init_105 : decode cX1_init 105 = .ok (.dup, 1) := by decide +kernel
theorem dX1_init_106 : decode cX1_init 106 = .ok (.invokespecial 20, 3) := by decide +kernel
theorem dX1_init_109 : decode cX1_init 109 = .ok (.aastore, 1) := by decide +kernel
theorem dX1_init_110 : decode cX1_init 110 = .ok (.iinc 1 1, 3) := by decide +kernel
theorem dX1_init_113 : decode cX1_init 113 = .ok (.goto (-35), 3) := by decide +kernel
theorem dX1_init_116 : decode cX1_init 116 = .ok (.return_, 1) := by decide +kernel
theorem dX1_placeOf_0 : decode cX1_placeOf 0 = .ok (.iload_n 0, 1) := by decide +kernel
theorem dX1_placeOf_1 : decode cX1_placeOf 1 = .ok (.bipush 8, 2) := by decide +kernel
theorem dX1_placeOf_3 : decode cX1_placeOf 3 = .ok (.idiv, 1) := by decide +kernel
theorem dX1_placeOf_4 : decode cX1_placeOf 4 = .ok (.ireturn, 1) := by decide +kernel
theorem dX1_ruleOf_0 : decode cX1_ruleOf 0 = .ok (.iload_n 0, 1) := by decide +kernel
theorem dX1_ruleOf_1 : decode cX1_ruleOf 1 = .ok (.bipush 8, 2) := by decide +kernel
theorem dX1_ruleOf_3 : decode cX1_ruleOf 3 = .ok (.irem, 1) := by decide +kernel
theorem dX1_ruleOf_4 : decode cX1_ruleOf 4 = .ok (.ireturn, 1) := by decide +kernel
theorem dX1_takeAllOut_0 : decode cX1_takeAllOut 0 = .ok (.aload_n 0, 1) := by decide +kernel
theorem dX1_takeAllOut_1 : decode cX1_takeAllOut 1 = .ok (.iconst 0, 1) := by decide +kernel
theorem dX1_takeAllOut_2 : decode cX1_takeAllOut 2 = .ok (.putfield 34, 3) := by decide +kernel
theorem dX1_takeAllOut_5 : decode cX1_takeAllOut 5 = .ok (.aload_n 0, 1) := by decide +kernel
theorem dX1_takeAllOut_6 : decode cX1_takeAllOut 6 = .ok (.dup, 1) := by decide +kernel
theorem dX1_takeAllOut_7 : decode cX1_takeAllOut 7 = .ok (.getfield 38, 3) := by decide +kernel
theorem dX1_takeAllOut_10 : decode cX1_takeAllOut 10 = .ok (.iconst 1, 1) := by decide +kernel
theorem dX1_takeAllOut_11 : decode cX1_takeAllOut 11 = .ok (.iadd, 1) := by decide +kernel
theorem dX1_takeAllOut_12 : decode cX1_takeAllOut 12 = .ok (.putfield 38, 3) := by decide +kernel
theorem dX1_takeAllOut_15 : decode cX1_takeAllOut 15 = .ok (.return_, 1) := by decide +kernel
theorem dX1_areAllFalling_0 : decode cX1_areAllFalling 0 = .ok (.iconst 0, 1) := by decide +kernel
theorem dX1_areAllFalling_1 : decode cX1_areAllFalling 1 = .ok (.istore_n 1, 1) := by decide +kernel
theorem dX1_areAllFalling_2 : decode cX1_areAllFalling 2 = .ok (.iload_n 1, 1) := by decide +kernel
theorem dX1_areAllFalling_3 : decode cX1_areAllFalling 3 = .ok (.aload_n 0, 1) := by decide +kernel
theorem dX1_areAllFalling_4 : decode cX1_areAllFalling 4 = .ok (.getfield 34, 3) := by decide +kernel
theorem dX1_areAllFalling_7 : decode cX1_areAllFalling 7 = .ok (.if_icmp .ge 19, 3) := by decide +kernel
theorem dX1_areAllFalling_26 : decode cX1_areAllFalling 26 = .ok (.iconst 1, 1) := by decide +kernel
theorem dX1_areAllFalling_27 : decode cX1_areAllFalling 27 = .ok (.ireturn, 1) := by decide +kernel
set_option maxRecDepth 20000 in
theorem ggX1_spotFrom_X1_ruleOf : GoodIn wsX1_spotFrom wsX1_ruleOf := goodIn_r _ [7] (by decide +kernel) (by decide +kernel)
set_option maxRecDepth 20000 in
theorem gX1_spotFrom_X1_ruleOf : GoodIn wsX1_spotFrom (va_wsS RX1 53 yX1_ruleOf wsX1_ruleOf) := goodIn_app (goodIn_of _ (by decide +kernel)) ggX1_spotFrom_X1_ruleOf
set_option maxRecDepth 20000 in
theorem ggX1_spotFrom_X1_placeOf : GoodIn wsX1_spotFrom wsX1_placeOf := goodIn_r _ [10] (by decide +kernel) (by decide +kernel)
set_option maxRecDepth 20000 in
theorem gX1_spotFrom_X1_placeOf : GoodIn wsX1_spotFrom (va_wsS RX1 57 yX1_placeOf wsX1_placeOf) := goodIn_app (goodIn_of _ (by decide +kernel)) ggX1_spotFrom_X1_placeOf
theorem dX1_spotFrom_0 : decode cX1_spotFrom 0 = .ok (.iload_n 2, 1) := by decide +kernel
theorem dX1_spotFrom_1 : decode cX1_spotFrom 1 = .ok (.invokestatic 53, 3) := by decide +kernel
theorem dX1_spotFrom_4 : decode cX1_spotFrom 4 = .ok (.istore_n 3, 1) := by decide +kernel
theorem dX1_spotFrom_5 : decode cX1_spotFrom 5 = .ok (.iload_n 2, 1) := by decide +kernel
theorem dX1_spotFrom_6 : decode cX1_spotFrom 6 = .ok (.invokestatic 57, 3) := by decide +kernel
theorem dX1_spotFrom_9 : decode cX1_spotFrom 9 = .ok (.istore 4, 2) := by decide +kernel
theorem dX1_spotFrom_11 : decode cX1_spotFrom 11 = .ok (.iload 4, 2) := by decide +kernel
theorem dX1_spotFrom_13 : decode cX1_spotFrom 13 = .ok (.aload_n 1, 1) := by decide +kernel
theorem dX1_spotFrom_14 : decode cX1_spotFrom 14 = .ok (.getfield 60, 3) := by decide +kernel
theorem dX1_spotFrom_17 : decode cX1_spotFrom 17 = .ok (.if_icmp .ge 48, 3) := by decide +kernel
theorem dX1_spotFrom_65 : decode cX1_spotFrom 65 = .ok (.iconst (-1), 1) := by decide +kernel
theorem dX1_spotFrom_66 : decode cX1_spotFrom 66 = .ok (.ireturn, 1) := by decide +kernel
theorem dX1_spotOfGreatestPlace_0 : decode cX1_spotOfGreatestPlace 0 = .ok (.aload_n 1, 1) := by decide +kernel
theorem dX1_spotOfGreatestPlace_1 : decode cX1_spotOfGreatestPlace 1 = .ok (.getfield 60, 3) := by decide +kernel
theorem dX1_spotOfGreatestPlace_4 : decode cX1_spotOfGreatestPlace 4 = .ok (.iconst 1, 1) := by decide +kernel
theorem dX1_spotOfGreatestPlace_5 : decode cX1_spotOfGreatestPlace 5 = .ok (.isub, 1) := by decide +kernel
theorem dX1_spotOfGreatestPlace_6 : decode cX1_spotOfGreatestPlace 6 = .ok (.istore_n 2, 1) := by decide +kernel
theorem dX1_spotOfGreatestPlace_7 : decode cX1_spotOfGreatestPlace 7 = .ok (.iload_n 2, 1) := by decide +kernel
theorem dX1_spotOfGreatestPlace_8 : decode cX1_spotOfGreatestPlace 8 = .ok (.ifCond .lt 46, 3) := by decide +kernel
theorem dX1_spotOfGreatestPlace_54 : decode cX1_spotOfGreatestPlace 54 = .ok (.iconst (-1), 1) := by decide +kernel
theorem dX1_spotOfGreatestPlace_55 : decode cX1_spotOfGreatestPlace 55 = .ok (.ireturn, 1) := by decide +kernel
theorem dX1_spotOfLeastRule_0 : decode cX1_spotOfLeastRule 0 = .ok (.iconst 0, 1) := by decide +kernel
theorem dX1_spotOfLeastRule_1 : decode cX1_spotOfLeastRule 1 = .ok (.istore_n 2, 1) := by decide +kernel
theorem dX1_spotOfLeastRule_2 : decode cX1_spotOfLeastRule 2 = .ok (.iload_n 2, 1) := by decide +kernel
theorem dX1_spotOfLeastRule_3 : decode cX1_spotOfLeastRule 3 = .ok (.aload_n 0, 1) := by decide +kernel
theorem dX1_spotOfLeastRule_4 : decode cX1_spotOfLeastRule 4 = .ok (.getfield 34, 3) := by decide +kernel
theorem dX1_spotOfLeastRule_7 : decode cX1_spotOfLeastRule 7 = .ok (.if_icmp .ge 46, 3) := by decide +kernel
theorem dX1_spotOfLeastRule_53 : decode cX1_spotOfLeastRule 53 = .ok (.iconst (-1), 1) := by decide +kernel
theorem dX1_spotOfLeastRule_54 : decode cX1_spotOfLeastRule 54 = .ok (.ireturn, 1) := by decide +kernel
set_option maxRecDepth 20000 in
theorem ggX1_spotByWay_X1_spotOfGreatestPlace : GoodIn wsX1_spotByWay wsX1_spotOfGreatestPlace := goodIn_r _ [5, 6, 7, 8, 9, 10, 11, 12, 13, 14, 15, 30, 31, 32, 33, 34, 35, 36, 37, 38, 39] (by decide +kernel) (by decide +kernel)
set_option maxRecDepth 20000 in
theorem gX1_spotByWay_X1_spotOfGreatestPlace : GoodIn wsX1_spotByWay (wsV RX1 67 RX1 yX1_spotOfGreatestPlace wsX1_spotOfGreatestPlace) := goodIn_app (goodIn_of _ (by decide +kernel)) ggX1_spotByWay_X1_spotOfGreatestPlace
set_option maxRecDepth 20000 in
theorem ggX1_spotByWay_X1_spotOfLeastRule : GoodIn wsX1_spotByWay wsX1_spotOfLeastRule := goodIn_r _ [19, 7, 6, 8, 9, 10, 11, 12, 13, 14, 15, 32, 33, 34, 35, 36, 37, 38, 39, 30, 31] (by decide +kernel) (by decide +kernel)
set_option maxRecDepth 20000 in
theorem gX1_spotByWay_X1_spotOfLeastRule : GoodIn wsX1_spotByWay (wsV RX1 70 RX1 yX1_spotOfLeastRule wsX1_spotOfLeastRule) := goodIn_app (goodIn_of _ (by decide +kernel)) ggX1_spotByWay_X1_spotOfLeastRule
set_option maxRecDepth 20000 in
theorem ggX1_spotByWay_X1_spotFrom : GoodIn wsX1_spotByWay wsX1_spotFrom := goodIn_r _ [23, 6, 7, 8, 24, 25, 4, 26, 27, 28, 29, 9, 10, 11, 12, 13, 14, 15, 30, 31, 32, 33, 34, 35, 36, 37, 38, 39] (by decide +kernel) (by decide +kernel)
set_option maxRecDepth 20000 in
theorem gX1_spotByWay_X1_spotFrom : GoodIn wsX1_spotByWay (wsV RX1 73 RX1 yX1_spotFrom wsX1_spotFrom) := goodIn_app (goodIn_of _ (by decide +kernel)) ggX1_spotByWay_X1_spotFrom
theorem dX1_spotByWay_0 : decode cX1_spotByWay 0 = .ok (.iload_n 2, 1) := by decide +kernel
theorem dX1_spotByWay_1 : decode cX1_spotByWay 1 = .ok (.lookupswitch 39 #[(1, 27), (2, 33)], 27) := by decide +kernel
theorem dX1_spotByWay_28 : decode cX1_spotByWay 28 = .ok (.aload_n 0, 1) := by decide +kernel
theorem dX1_spotByWay_29 : decode cX1_spotByWay 29 = .ok (.aload_n 1, 1) := by decide +kernel
theorem dX1_spotByWay_30 : decode cX1_spotByWay 30 = .ok (.invokevirtual 67, 3) := by decide +kernel
theorem dX1_spotByWay_33 : decode cX1_spotByWay 33 = .ok (.ireturn, 1) := by decide +kernel
theorem dX1_spotByWay_34 : decode cX1_spotByWay 34 = .ok (.aload_n 0, 1) := by decide +kernel
theorem dX1_spotByWay_35 : decode cX1_spotByWay 35 = .ok (.aload_n 1, 1) := by decide +kernel
theorem dX1_spotByWay_36 : decode cX1_spotByWay 36 = .ok (.invokevirtual 70, 3) := by decide +kernel
theorem dX1_spotByWay_39 : decode cX1_spotByWay 39 = .ok (.ireturn, 1) := by decide +kernel
theorem dX1_spotByWay_40 : decode cX1_spotByWay 40 = .ok (.aload_n 0, 1) := by decide +kernel
theorem dX1_spotByWay_41 : decode cX1_spotByWay 41 = .ok (.aload_n 1, 1) := by decide +kernel
theorem dX1_spotByWay_42 : decode cX1_spotByWay 42 = .ok (.iconst 0, 1) := by decide +kernel
theorem dX1_spotByWay_43 : decode cX1_spotByWay 43 = .ok (.invokevirtual 73, 3) := by decide +kernel
theorem dX1_spotByWay_46 : decode cX1_spotByWay 46 = .ok (.ireturn, 1) := by decide +kernel
theorem dX1_countSpots_0 : decode cX1_countSpots 0 = .ok (.iconst 0, 1) := by decide +kernel
theorem dX1_countSpots_1 : decode cX1_countSpots 1 = .ok (.istore_n 2, 1) := by decide +kernel
theorem dX1_countSpots_2 : decode cX1_countSpots 2 = .ok (.iconst 0, 1) := by decide +kernel
theorem dX1_countSpots_3 : decode cX1_countSpots 3 = .ok (.istore_n 3, 1) := by decide +kernel
theorem dX1_countSpots_4 : decode cX1_countSpots 4 = .ok (.iload_n 3, 1) := by decide +kernel
theorem dX1_countSpots_5 : decode cX1_countSpots 5 = .ok (.aload_n 1, 1) := by decide +kernel
theorem dX1_countSpots_6 : decode cX1_countSpots 6 = .ok (.getfield 60, 3) := by decide +kernel
theorem dX1_countSpots_9 : decode cX1_countSpots 9 = .ok (.if_icmp .ge 45, 3) := by decide +kernel
theorem dX1_countSpots_54 : decode cX1_countSpots 54 = .ok (.iload_n 2, 1) := by decide +kernel
theorem dX1_countSpots_55 : decode cX1_countSpots 55 = .ok (.ireturn, 1) := by decide +kernel
theorem dX1_spotOfNumber_0 : decode cX1_spotOfNumber 0 = .ok (.iload_n 2, 1) := by decide +kernel
theorem dX1_spotOfNumber_1 : decode cX1_spotOfNumber 1 = .ok (.ifCond .lt 14, 3) := by decide +kernel
theorem dX1_spotOfNumber_4 : decode cX1_spotOfNumber 4 = .ok (.iload_n 2, 1) := by decide +kernel
theorem dX1_spotOfNumber_5 : decode cX1_spotOfNumber 5 = .ok (.aload_n 1, 1) := by decide +kernel
theorem dX1_spotOfNumber_6 : decode cX1_spotOfNumber 6 = .ok (.getfield 60, 3) := by decide +kernel
theorem dX1_spotOfNumber_9 : decode cX1_spotOfNumber 9 = .ok (.bipush 8, 2) := by decide +kernel
theorem dX1_spotOfNumber_11 : decode cX1_spotOfNumber 11 = .ok (.imul, 1) := by decide +kernel
theorem dX1_spotOfNumber_12 : decode cX1_spotOfNumber 12 = .ok (.if_icmp .lt 5, 3) := by decide +kernel
theorem dX1_spotOfNumber_15 : decode cX1_spotOfNumber 15 = .ok (.iconst (-1), 1) := by decide +kernel
theorem dX1_spotOfNumber_16 : decode cX1_spotOfNumber 16 = .ok (.ireturn, 1) := by decide +kernel
set_option maxRecDepth 20000 in
theorem ggX1_isDone_X1_spotFrom : GoodIn wsX1_isDone wsX1_spotFrom := goodIn_r _ [5, 6, 7, 8, 9, 10, 4, 11, 12, 13, 14, 15, 16, 17, 18, 19, 20, 21, 22, 23, 24, 25, 26, 27, 28, 29, 30, 31] (by decide +kernel) (by decide +kernel)
set_option maxRecDepth 20000 in
theorem gX1_isDone_X1_spotFrom : GoodIn wsX1_isDone (wsV RX1 73 RX1 yX1_spotFrom wsX1_spotFrom) := goodIn_app (goodIn_of _ (by decide +kernel)) ggX1_isDone_X1_spotFrom
theorem dX1_isDone_0 : decode cX1_isDone 0 = .ok (.aload_n 0, 1) := by decide +kernel
theorem dX1_isDone_1 : decode cX1_isDone 1 = .ok (.aload_n 1, 1) := by decide +kernel
theorem dX1_isDone_2 : decode cX1_isDone 2 = .ok (.iconst 0, 1) := by decide +kernel
theorem dX1_isDone_3 : decode cX1_isDone 3 = .ok (.invokevirtual 73, 3) := by decide +kernel
theorem dX1_isDone_6 : decode cX1_isDone 6 = .ok (.iconst (-1), 1) := by decide +kernel
theorem dX1_isDone_7 : decode cX1_isDone 7 = .ok (.if_icmp .ne 7, 3) := by decide +kernel
theorem dX1_isDone_10 : decode cX1_isDone 10 = .ok (.iconst 1, 1) := by decide +kernel
theorem dX1_isDone_11 : decode cX1_isDone 11 = .ok (.goto 4, 3) := by decide +kernel
theorem dX1_isDone_15 : decode cX1_isDone 15 = .ok (.ireturn, 1) := by decide +kernel
set_option maxRecDepth 20000 in
theorem ggX1_rewriteByWay_X1_spotByWay : GoodIn wsX1_rewriteByWay wsX1_spotByWay := goodIn_r _ [5, 6, 7, 8, 4, 9, 10, 11, 12, 13, 14, 15, 16, 17, 18, 19, 20, 21, 22, 23, 24, 25, 26, 27, 28, 29, 30, 31, 32, 33, 51, 52, 53, 54, 55, 56, 57, 58, 59, 60] (by decide +kernel) (by decide +kernel)
set_option maxRecDepth 20000 in
theorem gX1_rewriteByWay_X1_spotByWay : GoodIn wsX1_rewriteByWay (wsV RX1 81 RX1 yX1_spotByWay wsX1_spotByWay) := goodIn_app (goodIn_of _ (by decide +kernel)) ggX1_rewriteByWay_X1_spotByWay
theorem dX1_rewriteByWay_0 : decode cX1_rewriteByWay 0 = .ok (.iconst 0, 1) := by decide +kernel
theorem dX1_rewriteByWay_1 : decode cX1_rewriteByWay 1 = .ok (.istore 4, 2) := by decide +kernel
theorem dX1_rewriteByWay_3 : decode cX1_rewriteByWay 3 = .ok (.iload 4, 2) := by decide +kernel
theorem dX1_rewriteByWay_5 : decode cX1_rewriteByWay 5 = .ok (.iload_n 3, 1) := by decide +kernel
theorem dX1_rewriteByWay_6 : decode cX1_rewriteByWay 6 = .ok (.if_icmp .ge 43, 3) := by decide +kernel
theorem dX1_rewriteByWay_9 : decode cX1_rewriteByWay 9 = .ok (.aload_n 0, 1) := by decide +kernel
theorem dX1_rewriteByWay_10 : decode cX1_rewriteByWay 10 = .ok (.aload_n 1, 1) := by decide +kernel
theorem dX1_rewriteByWay_11 : decode cX1_rewriteByWay 11 = .ok (.iload_n 2, 1) := by decide +kernel
theorem dX1_rewriteByWay_12 : decode cX1_rewriteByWay 12 = .ok (.invokevirtual 81, 3) := by decide +kernel
theorem dX1_rewriteByWay_15 : decode cX1_rewriteByWay 15 = .ok (.istore 5, 2) := by decide +kernel
theorem dX1_rewriteByWay_17 : decode cX1_rewriteByWay 17 = .ok (.iload 5, 2) := by decide +kernel
theorem dX1_rewriteByWay_19 : decode cX1_rewriteByWay 19 = .ok (.iconst (-1), 1) := by decide +kernel
theorem dX1_rewriteByWay_20 : decode cX1_rewriteByWay 20 = .ok (.if_icmp .eq 13, 3) := by decide +kernel
theorem dX1_rewriteByWay_33 : decode cX1_rewriteByWay 33 = .ok (.iload 4, 2) := by decide +kernel
theorem dX1_rewriteByWay_35 : decode cX1_rewriteByWay 35 = .ok (.ireturn, 1) := by decide +kernel
set_option maxRecDepth 20000 in
theorem ggX1_toForm_X1_spotFrom : GoodIn wsX1_toForm wsX1_spotFrom := goodIn_r _ [5, 6, 7, 8, 9, 10, 4, 11, 12, 13, 14, 15, 16, 17, 18, 19, 20, 21, 39, 40, 41, 42, 43, 44, 45, 46, 47, 48] (by decide +kernel) (by decide +kernel)
set_option maxRecDepth 20000 in
theorem gX1_toForm_X1_spotFrom : GoodIn wsX1_toForm (wsV RX1 73 RX1 yX1_spotFrom wsX1_spotFrom) := goodIn_app (goodIn_of _ (by decide +kernel)) ggX1_toForm_X1_spotFrom
theorem dX1_toForm_0 : decode cX1_toForm 0 = .ok (.iconst 0, 1) := by decide +kernel
theorem dX1_toForm_1 : decode cX1_toForm 1 = .ok (.istore_n 2, 1) := by decide +kernel
theorem dX1_toForm_2 : decode cX1_toForm 2 = .ok (.iload_n 2, 1) := by decide +kernel
theorem dX1_toForm_3 : decode cX1_toForm 3 = .ok (.bipush 40, 2) := by decide +kernel
theorem dX1_toForm_5 : decode cX1_toForm 5 = .ok (.if_icmp .ge 37, 3) := by decide +kernel
theorem dX1_toForm_8 : decode cX1_toForm 8 = .ok (.aload_n 0, 1) := by decide +kernel
theorem dX1_toForm_9 : decode cX1_toForm 9 = .ok (.aload_n 1, 1) := by decide +kernel
theorem dX1_toForm_10 : decode cX1_toForm 10 = .ok (.iconst 0, 1) := by decide +kernel
theorem dX1_toForm_11 : decode cX1_toForm 11 = .ok (.invokevirtual 73, 3) := by decide +kernel
theorem dX1_toForm_14 : decode cX1_toForm 14 = .ok (.istore_n 3, 1) := by decide +kernel
theorem dX1_toForm_15 : decode cX1_toForm 15 = .ok (.iload_n 3, 1) := by decide +kernel
theorem dX1_toForm_16 : decode cX1_toForm 16 = .ok (.iconst (-1), 1) := by decide +kernel
theorem dX1_toForm_17 : decode cX1_toForm 17 = .ok (.if_icmp .eq 12, 3) := by decide +kernel
theorem dX1_toForm_29 : decode cX1_toForm 29 = .ok (.return_, 1) := by decide +kernel
theorem dX2_init_0 : decode cX2_init 0 = .ok (.aload_n 0, 1) := by decide +kernel
theorem dX2_init_1 : decode cX2_init 1 = .ok (.invokespecial 3, 3) := by decide +kernel
theorem dX2_init_4 : decode cX2_init 4 = .ok (.aload_n 0, 1) := by decide +kernel
theorem dX2_init_5 : decode cX2_init 5 = .ok (.bipush 64, 2) := by decide +kernel
theorem dX2_init_7 : decode cX2_init 7 = .ok (.newarray .byte, 2) := by decide +kernel
theorem dX2_init_9 : decode cX2_init 9 = .ok (.putfield 11, 3) := by decide +kernel
theorem dX2_init_12 : decode cX2_init 12 = .ok (.aload_n 0, 1) := by decide +kernel
theorem dX2_init_13 : decode cX2_init 13 = .ok (.iconst 0, 1) := by decide +kernel
theorem dX2_init_14 : decode cX2_init 14 = .ok (.putfield 15, 3) := by decide +kernel
theorem dX2_init_17 : decode cX2_init 17 = .ok (.return_, 1) := by decide +kernel
theorem dX2_makeEmpty_0 : decode cX2_makeEmpty 0 = .ok (.aload_n 0, 1) := by decide +kernel
theorem dX2_makeEmpty_1 : decode cX2_makeEmpty 1 = .ok (.iconst 0, 1) := by decide +kernel
theorem dX2_makeEmpty_2 : decode cX2_makeEmpty 2 = .ok (.putfield 15, 3) := by decide +kernel
theorem dX2_makeEmpty_5 : decode cX2_makeEmpty 5 = .ok (.return_, 1) := by decide +kernel
theorem dX2_add_0 : decode cX2_add 0 = .ok (.iload_n 1, 1) := by decide +kernel
theorem dX2_add_1 : decode cX2_add 1 = .ok (.iconst (-1), 1) := by decide +kernel
theorem dX2_add_2 : decode cX2_add 2 = .ok (.if_icmp .eq 33, 3) := by decide +kernel
theorem dX2_add_5 : decode cX2_add 5 = .ok (.aload_n 0, 1) := by decide +kernel
theorem dX2_add_6 : decode cX2_add 6 = .ok (.getfield 15, 3) := by decide +kernel
theorem dX2_add_9 : decode cX2_add 9 = .ok (.bipush 64, 2) := by decide +kernel
theorem dX2_add_11 : decode cX2_add 11 = .ok (.if_icmp .ge 24, 3) := by decide +kernel
theorem dX2_add_14 : decode cX2_add 14 = .ok (.aload_n 0, 1) := by decide +kernel
theorem dX2_add_15 : decode cX2_add 15 = .ok (.getfield 11, 3) := by decide +kernel
theorem dX2_add_18 : decode cX2_add 18 = .ok (.aload_n 0, 1) := by decide +kernel
theorem dX2_add_19 : decode cX2_add 19 = .ok (.getfield 15, 3) := by decide +kernel
theorem dX2_add_22 : decode cX2_add 22 = .ok (.iload_n 1, 1) := by decide +kernel
theorem dX2_add_23 : decode cX2_add 23 = .ok (.i2b, 1) := by decide +kernel
theorem dX2_add_24 : decode cX2_add 24 = .ok (.bastore, 1) := by decide +kernel
theorem dX2_add_25 : decode cX2_add 25 = .ok (.aload_n 0, 1) := by decide +kernel
theorem dX2_add_26 : decode cX2_add 26 = .ok (.dup, 1) := by decide +kernel
theorem dX2_add_27 : decode cX2_add 27 = .ok (.getfield 15, 3) := by decide +kernel
theorem dX2_add_30 : decode cX2_add 30 = .ok (.iconst 1, 1) := by decide +kernel
theorem dX2_add_31 : decode cX2_add 31 = .ok (.iadd, 1) := by decide +kernel
theorem dX2_add_32 : decode cX2_add 32 = .ok (.putfield 15, 3) := by decide +kernel
theorem dX2_add_35 : decode cX2_add 35 = .ok (.return_, 1) := by decide +kernel
theorem dX2_addPart_0 : decode cX2_addPart 0 = .ok (.iload_n 3, 1) := by decide +kernel
theorem dX2_addPart_1 : decode cX2_addPart 1 = .ok (.iload_n 2, 1) := by decide +kernel
theorem dX2_addPart_2 : decode cX2_addPart 2 = .ok (.isub, 1) := by decide +kernel
theorem dX2_addPart_3 : decode cX2_addPart 3 = .ok (.istore 4, 2) := by decide +kernel
theorem dX2_addPart_5 : decode cX2_addPart 5 = .ok (.iload_n 2, 1) := by decide +kernel
theorem dX2_addPart_6 : decode cX2_addPart 6 = .ok (.ifCond .lt 28, 3) := by decide +kernel
theorem dX2_addPart_9 : decode cX2_addPart 9 = .ok (.iload 4, 2) := by decide +kernel
theorem dX2_addPart_11 : decode cX2_addPart 11 = .ok (.ifCond .lt 23, 3) := by decide +kernel
theorem dX2_addPart_14 : decode cX2_addPart 14 = .ok (.iload_n 3, 1) := by decide +kernel
theorem dX2_addPart_15 : decode cX2_addPart 15 = .ok (.aload_n 1, 1) := by decide +kernel
theorem dX2_addPart_16 : decode cX2_addPart 16 = .ok (.getfield 15, 3) := by decide +kernel
theorem dX2_addPart_19 : decode cX2_addPart 19 = .ok (.if_icmp .gt 15, 3) := by decide +kernel
theorem dX2_addPart_22 : decode cX2_addPart 22 = .ok (.aload_n 0, 1) := by decide +kernel
theorem dX2_addPart_23 : decode cX2_addPart 23 = .ok (.getfield 15, 3) := by decide +kernel
theorem dX2_addPart_26 : decode cX2_addPart 26 = .ok (.iload 4, 2) := by decide +kernel
theorem dX2_addPart_28 : decode cX2_addPart 28 = .ok (.iadd, 1) := by decide +kernel
theorem dX2_addPart_29 : decode cX2_addPart 29 = .ok (.bipush 64, 2) := by decide +kernel
theorem dX2_addPart_31 : decode cX2_addPart 31 = .ok (.if_icmp .le 4, 3) := by decide +kernel
theorem dX2_addPart_35 : decode cX2_addPart 35 = .ok (.aload_n 1, 1) := by decide +kernel
theorem dX2_addPart_36 : decode cX2_addPart 36 = .ok (.getfield 11, 3) := by decide +kernel
theorem dX2_addPart_39 : decode cX2_addPart 39 = .ok (.iload_n 2, 1) := by decide +kernel
theorem dX2_addPart_40 : decode cX2_addPart 40 = .ok (.aload_n 0, 1) := by decide +kernel
theorem dX2_addPart_41 : decode cX2_addPart 41 = .ok (.getfield 11, 3) := by decide +kernel
theorem dX2_addPart_44 : decode cX2_addPart 44 = .ok (.aload_n 0, 1) := by decide +kernel
theorem dX2_addPart_45 : decode cX2_addPart 45 = .ok (.getfield 15, 3) := by decide +kernel
theorem dX2_addPart_48 : decode cX2_addPart 48 = .ok (.iload 4, 2) := by decide +kernel
theorem dX2_addPart_50 : decode cX2_addPart 50 = .ok (.invokestatic 19, 3) := by decide +kernel
theorem dX2_addPart_53 : decode cX2_addPart 53 = .ok (.aload_n 0, 1) := by decide +kernel
theorem dX2_addPart_54 : decode cX2_addPart 54 = .ok (.dup, 1) := by decide +kernel
theorem dX2_addPart_55 : decode cX2_addPart 55 = .ok (.getfield 15, 3) := by decide +kernel
theorem dX2_addPart_58 : decode cX2_addPart 58 = .ok (.iload 4, 2) := by decide +kernel
theorem dX2_addPart_60 : decode cX2_addPart 60 = .ok (.iadd, 1) := by decide +kernel
theorem dX2_addPart_61 : decode cX2_addPart 61 = .ok (.putfield 15, 3) := by decide +kernel
theorem dX2_addPart_64 : decode cX2_addPart 64 = .ok (.return_, 1) := by decide +kernel
theorem dX2_become_0 : decode cX2_become 0 = .ok (.aload_n 1, 1) := by decide +kernel
theorem dX2_become_1 : decode cX2_become 1 = .ok (.getfield 11, 3) := by decide +kernel
theorem dX2_become_4 : decode cX2_become 4 = .ok (.iconst 0, 1) := by decide +kernel
theorem dX2_become_5 : decode cX2_become 5 = .ok (.aload_n 0, 1) := by decide +kernel
theorem dX2_become_6 : decode cX2_become 6 = .ok (.getfield 11, 3) := by decide +kernel
theorem dX2_become_9 : decode cX2_become 9 = .ok (.iconst 0, 1) := by decide +kernel
theorem dX2_become_10 : decode cX2_become 10 = .ok (.aload_n 1, 1) := by decide +kernel
theorem dX2_become_11 : decode cX2_become 11 = .ok (.getfield 15, 3) := by decide +kernel
theorem dX2_become_14 : decode cX2_become 14 = .ok (.invokestatic 19, 3) := by decide +kernel
theorem dX2_become_17 : decode cX2_become 17 = .ok (.aload_n 0, 1) := by decide +kernel
theorem dX2_become_18 : decode cX2_become 18 = .ok (.aload_n 1, 1) := by decide +kernel
theorem dX2_become_19 : decode cX2_become 19 = .ok (.getfield 15, 3) := by decide +kernel
theorem dX2_become_22 : decode cX2_become 22 = .ok (.putfield 15, 3) := by decide +kernel
theorem dX2_become_25 : decode cX2_become 25 = .ok (.return_, 1) := by decide +kernel
theorem dX2_replace_0 : decode cX2_replace 0 = .ok (.aload_n 0, 1) := by decide +kernel
theorem dX2_replace_1 : decode cX2_replace 1 = .ok (.getfield 15, 3) := by decide +kernel
theorem dX2_replace_4 : decode cX2_replace 4 = .ok (.iload_n 2, 1) := by decide +kernel
theorem dX2_replace_5 : decode cX2_replace 5 = .ok (.iload_n 1, 1) := by decide +kernel
theorem dX2_replace_6 : decode cX2_replace 6 = .ok (.isub, 1) := by decide +kernel
theorem dX2_replace_7 : decode cX2_replace 7 = .ok (.isub, 1) := by decide +kernel
theorem dX2_replace_8 : decode cX2_replace 8 = .ok (.aload_n 3, 1) := by decide +kernel
theorem dX2_replace_9 : decode cX2_replace 9 = .ok (.getfield 15, 3) := by decide +kernel
theorem dX2_replace_12 : decode cX2_replace 12 = .ok (.iadd, 1) := by decide +kernel
theorem dX2_replace_13 : decode cX2_replace 13 = .ok (.istore 4, 2) := by decide +kernel
theorem dX2_replace_15 : decode cX2_replace 15 = .ok (.iload_n 1, 1) := by decide +kernel
theorem dX2_replace_16 : decode cX2_replace 16 = .ok (.ifCond .lt 23, 3) := by decide +kernel
theorem dX2_replace_19 : decode cX2_replace 19 = .ok (.iload_n 2, 1) := by decide +kernel
theorem dX2_replace_20 : decode cX2_replace 20 = .ok (.iload_n 1, 1) := by decide +kernel
theorem dX2_replace_21 : decode cX2_replace 21 = .ok (.if_icmp .lt 18, 3) := by decide +kernel
theorem dX2_replace_24 : decode cX2_replace 24 = .ok (.iload_n 2, 1) := by decide +kernel
theorem dX2_replace_25 : decode cX2_replace 25 = .ok (.aload_n 0, 1) := by decide +kernel
theorem dX2_replace_26 : decode cX2_replace 26 = .ok (.getfield 15, 3) := by decide +kernel
theorem dX2_replace_29 : decode cX2_replace 29 = .ok (.if_icmp .gt 10, 3) := by decide +kernel
theorem dX2_replace_32 : decode cX2_replace 32 = .ok (.iload 4, 2) := by decide +kernel
theorem dX2_replace_34 : decode cX2_replace 34 = .ok (.bipush 64, 2) := by decide +kernel
theorem dX2_replace_36 : decode cX2_replace 36 = .ok (.if_icmp .le 4, 3) := by decide +kernel
theorem dX2_replace_40 : decode cX2_replace 40 = .ok (.aload_n 0, 1) := by decide +kernel
theorem dX2_replace_41 : decode cX2_replace 41 = .ok (.getfield 11, 3) := by decide +kernel
theorem dX2_replace_44 : decode cX2_replace 44 = .ok (.iload_n 2, 1) := by decide +kernel
theorem dX2_replace_45 : decode cX2_replace 45 = .ok (.aload_n 0, 1) := by decide +kernel
theorem dX2_replace_46 : decode cX2_replace 46 = .ok (.getfield 11, 3) := by decide +kernel
theorem dX2_replace_49 : decode cX2_replace 49 = .ok (.iload_n 1, 1) := by decide +kernel
theorem dX2_replace_50 : decode cX2_replace 50 = .ok (.aload_n 3, 1) := by decide +kernel
theorem dX2_replace_51 : decode cX2_replace 51 = .ok (.getfield 15, 3) := by decide +kernel
theorem dX2_replace_54 : decode cX2_replace 54 = .ok (.iadd, 1) := by decide +kernel
theorem dX2_replace_55 : decode cX2_replace 55 = .ok (.aload_n 0, 1) := by decide +kernel
theorem dX2_replace_56 : decode cX2_replace 56 = .ok (.getfield 15, 3) := by decide +kernel
theorem dX2_replace_59 : decode cX2_replace 59 = .ok (.iload_n 2, 1) := by decide +kernel
theorem dX2_replace_60 : decode cX2_replace 60 = .ok (.isub, 1) := by decide +kernel
theorem dX2_replace_61 : decode cX2_replace 61 = .ok (.invokestatic 19, 3) := by decide +kernel
theorem dX2_replace_64 : decode cX2_replace 64 = .ok (.aload_n 3, 1) := by decide +kernel
theorem dX2_replace_65 : decode cX2_replace 65 = .ok (.getfield 11, 3) := by decide +kernel
theorem dX2_replace_68 : decode cX2_replace 68 = .ok (.iconst 0, 1) := by decide +kernel
theorem dX2_replace_69 : decode cX2_replace 69 = .ok (.aload_n 0, 1) := by decide +kernel
theorem dX2_replace_70 : decode cX2_replace 70 = .ok (.getfield 11, 3) := by decide +kernel
theorem dX2_replace_73 : decode cX2_replace 73 = .ok (.iload_n 1, 1) := by decide +kernel
theorem dX2_replace_74 : decode cX2_replace 74 = .ok (.aload_n 3, 1) := by decide +kernel
theorem dX2_replace_75 : decode cX2_replace 75 = .ok (.getfield 15, 3) := by decide +kernel
theorem dX2_replace_78 : decode cX2_replace 78 = .ok (.invokestatic 19, 3) := by decide +kernel
theorem dX2_replace_81 : decode cX2_replace 81 = .ok (.aload_n 0, 1) := by decide +kernel
theorem dX2_replace_82 : decode cX2_replace 82 = .ok (.iload 4, 2) := by decide +kernel
theorem dX2_replace_84 : decode cX2_replace 84 = .ok (.putfield 15, 3) := by decide +kernel
theorem dX2_replace_87 : decode cX2_replace 87 = .ok (.return_, 1) := by decide +kernel
theorem dX2_turnRound_0 : decode cX2_turnRound 0 = .ok (.iconst 0, 1) := by decide +kernel
theorem dX2_turnRound_1 : decode cX2_turnRound 1 = .ok (.istore_n 1, 1) := by decide +kernel
theorem dX2_turnRound_2 : decode cX2_turnRound 2 = .ok (.aload_n 0, 1) := by decide +kernel
theorem dX2_turnRound_3 : decode cX2_turnRound 3 = .ok (.getfield 15, 3) := by decide +kernel
theorem dX2_turnRound_6 : decode cX2_turnRound 6 = .ok (.iconst 1, 1) := by decide +kernel
theorem dX2_turnRound_7 : decode cX2_turnRound 7 = .ok (.isub, 1) := by decide +kernel
theorem dX2_turnRound_8 : decode cX2_turnRound 8 = .ok (.istore_n 2, 1) := by decide +kernel
theorem dX2_turnRound_9 : decode cX2_turnRound 9 = .ok (.iload_n 1, 1) := by decide +kernel
theorem dX2_turnRound_10 : decode cX2_turnRound 10 = .ok (.iload_n 2, 1) := by decide +kernel
theorem dX2_turnRound_11 : decode cX2_turnRound 11 = .ok (.if_icmp .ge 38, 3) := by decide +kernel
theorem dX2_turnRound_49 : decode cX2_turnRound 49 = .ok (.return_, 1) := by decide +kernel
theorem dX2_holds_0 : decode cX2_holds 0 = .ok (.iload_n 2, 1) := by decide +kernel
theorem dX2_holds_1 : decode cX2_holds 1 = .ok (.ifCond .lt 16, 3) := by decide +kernel
theorem dX2_holds_4 : decode cX2_holds 4 = .ok (.iload_n 2, 1) := by decide +kernel
theorem dX2_holds_5 : decode cX2_holds 5 = .ok (.aload_n 0, 1) := by decide +kernel
theorem dX2_holds_6 : decode cX2_holds 6 = .ok (.getfield 15, 3) := by decide +kernel
theorem dX2_holds_9 : decode cX2_holds 9 = .ok (.aload_n 1, 1) := by decide +kernel
theorem dX2_holds_10 : decode cX2_holds 10 = .ok (.getfield 15, 3) := by decide +kernel
theorem dX2_holds_13 : decode cX2_holds 13 = .ok (.isub, 1) := by decide +kernel
theorem dX2_holds_14 : decode cX2_holds 14 = .ok (.if_icmp .le 5, 3) := by decide +kernel
theorem dX2_holds_19 : decode cX2_holds 19 = .ok (.iconst 0, 1) := by decide +kernel
theorem dX2_holds_20 : decode cX2_holds 20 = .ok (.istore_n 3, 1) := by decide +kernel
theorem dX2_holds_21 : decode cX2_holds 21 = .ok (.iload_n 3, 1) := by decide +kernel
theorem dX2_holds_22 : decode cX2_holds 22 = .ok (.aload_n 1, 1) := by decide +kernel
theorem dX2_holds_23 : decode cX2_holds 23 = .ok (.getfield 15, 3) := by decide +kernel
theorem dX2_holds_26 : decode cX2_holds 26 = .ok (.if_icmp .ge 28, 3) := by decide +kernel
theorem dX2_holds_54 : decode cX2_holds 54 = .ok (.iconst 1, 1) := by decide +kernel
theorem dX2_holds_55 : decode cX2_holds 55 = .ok (.ireturn, 1) := by decide +kernel
set_option maxRecDepth 20000 in
theorem ggX2_isSameAs_X2_holds : GoodIn wsX2_isSameAs wsX2_holds := goodIn_r _ [6, 1, 7, 8, 9] (by decide +kernel) (by decide +kernel)
set_option maxRecDepth 20000 in
theorem gX2_isSameAs_X2_holds : GoodIn wsX2_isSameAs (wsV RX2 25 RX2 yX2_holds wsX2_holds) := goodIn_app (goodIn_of _ (by decide +kernel)) ggX2_isSameAs_X2_holds
theorem dX2_isSameAs_0 : decode cX2_isSameAs 0 = .ok (.aload_n 0, 1) := by decide +kernel
theorem dX2_isSameAs_1 : decode cX2_isSameAs 1 = .ok (.getfield 15, 3) := by decide +kernel
theorem dX2_isSameAs_4 : decode cX2_isSameAs 4 = .ok (.aload_n 1, 1) := by decide +kernel
theorem dX2_isSameAs_5 : decode cX2_isSameAs 5 = .ok (.getfield 15, 3) := by decide +kernel
theorem dX2_isSameAs_8 : decode cX2_isSameAs 8 = .ok (.if_icmp .ne 16, 3) := by decide +kernel
theorem dX2_isSameAs_11 : decode cX2_isSameAs 11 = .ok (.aload_n 0, 1) := by decide +kernel
theorem dX2_isSameAs_12 : decode cX2_isSameAs 12 = .ok (.aload_n 1, 1) := by decide +kernel
theorem dX2_isSameAs_13 : decode cX2_isSameAs 13 = .ok (.iconst 0, 1) := by decide +kernel
theorem dX2_isSameAs_14 : decode cX2_isSameAs 14 = .ok (.invokevirtual 25, 3) := by decide +kernel
theorem dX2_isSameAs_17 : decode cX2_isSameAs 17 = .ok (.ifCond .eq 7, 3) := by decide +kernel
theorem dX2_isSameAs_20 : decode cX2_isSameAs 20 = .ok (.iconst 1, 1) := by decide +kernel
theorem dX2_isSameAs_21 : decode cX2_isSameAs 21 = .ok (.goto 4, 3) := by decide +kernel
theorem dX2_isSameAs_25 : decode cX2_isSameAs 25 = .ok (.ireturn, 1) := by decide +kernel
theorem dX2_compareWith_0 : decode cX2_compareWith 0 = .ok (.aload_n 0, 1) := by decide +kernel
theorem dX2_compareWith_1 : decode cX2_compareWith 1 = .ok (.getfield 15, 3) := by decide +kernel
theorem dX2_compareWith_4 : decode cX2_compareWith 4 = .ok (.aload_n 1, 1) := by decide +kernel
theorem dX2_compareWith_5 : decode cX2_compareWith 5 = .ok (.getfield 15, 3) := by decide +kernel
theorem dX2_compareWith_8 : decode cX2_compareWith 8 = .ok (.if_icmp .eq 20, 3) := by decide +kernel
theorem dX2_compareWith_28 : decode cX2_compareWith 28 = .ok (.iconst 0, 1) := by decide +kernel
theorem dX2_compareWith_29 : decode cX2_compareWith 29 = .ok (.istore_n 2, 1) := by decide +kernel
theorem dX2_compareWith_30 : decode cX2_compareWith 30 = .ok (.iload_n 2, 1) := by decide +kernel
theorem dX2_compareWith_31 : decode cX2_compareWith 31 = .ok (.aload_n 0, 1) := by decide +kernel
theorem dX2_compareWith_32 : decode cX2_compareWith 32 = .ok (.getfield 15, 3) := by decide +kernel
theorem dX2_compareWith_35 : decode cX2_compareWith 35 = .ok (.if_icmp .ge 45, 3) := by decide +kernel
theorem dX2_compareWith_80 : decode cX2_compareWith 80 = .ok (.iconst 0, 1) := by decide +kernel
theorem dX2_compareWith_81 : decode cX2_compareWith 81 = .ok (.ireturn, 1) := by decide +kernel
theorem dX2_appendTo_0 : decode cX2_appendTo 0 = .ok (.iconst 0, 1) := by decide +kernel
theorem dX2_appendTo_1 : decode cX2_appendTo 1 = .ok (.istore_n 2, 1) := by decide +kernel
theorem dX2_appendTo_2 : decode cX2_appendTo 2 = .ok (.iload_n 2, 1) := by decide +kernel
theorem dX2_appendTo_3 : decode cX2_appendTo 3 = .ok (.aload_n 0, 1) := by decide +kernel
theorem dX2_appendTo_4 : decode cX2_appendTo 4 = .ok (.getfield 15, 3) := by decide +kernel
theorem dX2_appendTo_7 : decode cX2_appendTo 7 = .ok (.if_icmp .ge 24, 3) := by decide +kernel
theorem dX2_appendTo_31 : decode cX2_appendTo 31 = .ok (.return_, 1) := by decide +kernel
set_option maxRecDepth 20000 in
theorem ggX2_asString_J4_init_da8c8 : GoodIn wsX2_asString wsJ4_init_da8c8 := goodIn_r _ [6, 7, 8, 9, 10, 11, 12, 13, 14, 15, 16, 17, 18, 19, 20, 21, 22, 23, 24, 25, 191, 192, 193, 194] (by decide +kernel) (by decide +kernel)
set_option maxRecDepth 20000 in
theorem gX2_asString_J4_init_da8c8 : GoodIn wsX2_asString (wsJ4_init_da8c8) := ggX2_asString_J4_init_da8c8
set_option maxRecDepth 20000 in
theorem ggX2_asString_X2_appendTo : GoodIn wsX2_asString wsX2_appendTo := goodIn_r _ [30, 31, 32, 33, 34, 35, 3, 36, 37, 38, 39, 40, 9, 41, 42, 16, 43, 44, 45, 46, 47, 17, 48, 49, 50, 51, 52, 53, 54, 55, 56, 57, 58, 59, 60, 61, 62, 63, 64, 65, 66, 67, 68, 69, 70, 71, 72, 73, 74, 75, 15, 76, 77, 78, 79, 80, 81, 82, 83, 84, 85, 86, 87, 14, 88, 89, 90, 91, 92, 93, 94, 95, 96, 18, 19, 20, 21, 22, 23, 24, 25, 97, 98, 99, 100, 101, 102, 103, 104, 105, 106, 107, 108, 109, 110, 111, 112, 113, 114, 115, 116, 117, 118, 119, 120, 121, 122, 123, 124, 125, 126, 127, 128, 129, 130, 131, 132, 133, 134, 135, 195, 196, 191, 192, 193, 194] (by decide +kernel) (by decide +kernel)
set_option maxRecDepth 20000 in
theorem gX2_asString_X2_appendTo : GoodIn wsX2_asString (wsV RX2 36 RX2 yX2_appendTo wsX2_appendTo) := goodIn_app (goodIn_of _ (by decide +kernel)) ggX2_asString_X2_appendTo
set_option maxRecDepth 20000 in
theorem ggX2_asString_J4_toString_0e30d : GoodIn wsX2_asString wsJ4_toString_0e30d := goodIn_r _ [139, 140, 141, 111, 142, 143, 144, 145, 146, 147, 148, 12, 13, 149, 150, 151, 152, 153, 154, 155, 156, 9, 157, 16, 158, 159, 160, 161, 162, 3, 163, 164, 39, 165, 166, 42, 167, 84, 85, 86, 87, 14, 17, 168, 169, 68, 170, 70, 71, 72, 73, 74, 75, 171, 172, 173, 15, 76, 77, 60, 78, 79, 80, 81, 82, 174, 175, 176, 177, 2, 178, 179, 20, 180, 181, 182, 183, 103, 104, 105, 106, 107, 108, 109, 110, 112, 113, 114, 115, 116, 117, 184, 185, 186, 121, 122, 123, 22, 23, 24, 25, 187, 188, 189, 190, 197, 198, 199, 200, 191, 192, 193, 194] (by decide +kernel) (by decide +kernel)
set_option maxRecDepth 20000 in
theorem gX2_asString_J4_toString_0e30d : GoodIn wsX2_asString (wsV RX2 40 RJ4 yJ4_toString_0e30d wsJ4_toString_0e30d) := goodIn_app (goodIn_of _ (by decide +kernel)) ggX2_asString_J4_toString_0e30d
theorem dX2_asString_0 : decode cX2_asString 0 = .ok (.new 30, 3) := by decide +kernel
theorem dX2_asString_3 : decode cX2_asString 3 = .ok (.dup, 1) := by decide +kernel
theorem dX2_asString_4 : decode cX2_asString 4 = .ok (.invokespecial 35, 3) := by decide +kernel
theorem dX2_asString_7 : decode cX2_asString 7 = .ok (.astore_n 1, 1) := by decide +kernel
theorem dX2_asString_8 : decode cX2_asString 8 = .ok (.aload_n 0, 1) := by decide +kernel
theorem dX2_asString_9 : decode cX2_asString 9 = .ok (.aload_n 1, 1) := by decide +kernel
theorem dX2_asString_10 : decode cX2_asString 10 = .ok (.invokevirtual 36, 3) := by decide +kernel
theorem dX2_asString_13 : decode cX2_asString 13 = .ok (.aload_n 1, 1) := by decide +kernel
theorem dX2_asString_14 : decode cX2_asString 14 = .ok (.invokevirtual 40, 3) := by decide +kernel
theorem dX2_asString_17 : decode cX2_asString 17 = .ok (.areturn, 1) := by decide +kernel
theorem dX2_mixInto_0 : decode cX2_mixInto 0 = .ok (.lload_n 1, 1) := by decide +kernel
theorem dX2_mixInto_1 : decode cX2_mixInto 1 = .ok (.lstore_n 3, 1) := by decide +kernel
theorem dX2_mixInto_2 : decode cX2_mixInto 2 = .ok (.iconst 0, 1) := by decide +kernel
theorem dX2_mixInto_3 : decode cX2_mixInto 3 = .ok (.istore 5, 2) := by decide +kernel
theorem dX2_mixInto_5 : decode cX2_mixInto 5 = .ok (.iload 5, 2) := by decide +kernel
theorem dX2_mixInto_7 : decode cX2_mixInto 7 = .ok (.aload_n 0, 1) := by decide +kernel
theorem dX2_mixInto_8 : decode cX2_mixInto 8 = .ok (.getfield 15, 3) := by decide +kernel
theorem dX2_mixInto_11 : decode cX2_mixInto 11 = .ok (.if_icmp .ge 24, 3) := by decide +kernel
theorem dX2_mixInto_35 : decode cX2_mixInto 35 = .ok (.lload_n 3, 1) := by decide +kernel
theorem dX2_mixInto_36 : decode cX2_mixInto 36 = .ok (.lreturn, 1) := by decide +kernel
set_option maxRecDepth 20000 in
theorem ggX3_init_X1_init : GoodIn wsX3_init wsX1_init := goodIn_r _ [24, 25, 2, 3, 26, 27, 28, 14, 15, 29, 30, 31, 32, 33, 34, 35, 36, 37, 38, 39, 40, 64, 65, 66, 67, 68, 69, 70, 71, 80, 81] (by decide +kernel) (by decide +kernel)
set_option maxRecDepth 20000 in
theorem gX3_init_X1_init : GoodIn wsX3_init (wsX1_init) := ggX3_init_X1_init
set_option maxRecDepth 20000 in
theorem ggX3_init_X0_init : GoodIn wsX3_init wsX0_init := goodIn_r _ [43, 44, 2, 3, 45, 46, 47, 14, 15, 48, 49, 50, 51, 52, 53, 54, 35, 36, 37, 38, 39, 40, 72, 73, 74, 75, 76, 77, 78, 79, 80, 81] (by decide +kernel) (by decide +kernel)
set_option maxRecDepth 20000 in
theorem gX3_init_X0_init : GoodIn wsX3_init (wsX0_init) := ggX3_init_X0_init
set_option maxRecDepth 20000 in
theorem ggX3_init_X2_init : GoodIn wsX3_init wsX2_init := goodIn_r _ [36, 37, 2, 3, 38, 39, 40, 80, 81] (by decide +kernel) (by decide +kernel)
set_option maxRecDepth 20000 in
theorem gX3_init_X2_init_n31 : GoodIn wsX3_init (wsX2_init) := ggX3_init_X2_init
theorem dX3_init_0 : decode cX3_init 0 = .ok (.aload_n 0, 1) := by decide +kernel
theorem dX3_init_1 : decode cX3_init 1 = .ok (.invokespecial 1, 3) := by decide +kernel
theorem dX3_init_4 : decode cX3_init 4 = .ok (.aload_n 0, 1) := by decide +kernel
theorem dX3_init_5 : decode cX3_init 5 = .ok (.iconst 4, 1) := by decide +kernel
theorem dX3_init_6 : decode cX3_init 6 = .ok (.anewarray 9, 3) := by decide +kernel
theorem dX3_init_9 : decode cX3_init 9 = .ok (.putfield 11, 3) := by decide +kernel
theorem dX3_init_12 : decode cX3_init 12 = .ok (.aload_n 0, 1) := by decide +kernel
theorem dX3_init_13 : decode cX3_init 13 = .ok (.new 15, 3) := by decide +kernel
theorem dX3_init_16 : decode cX3_init 16 = .ok (.dup, 1) := by decide +kernel
theorem dX3_init_17 : decode cX3_init 17 = .ok (.invokespecial 17, 3) := by decide +kernel
theorem dX3_init_20 : decode cX3_init 20 = .ok (.putfield 18, 3) := by decide +kernel
theorem dX3_init_23 : decode cX3_init 23 = .ok (.aload_n 0, 1) := by decide +kernel
theorem dX3_init_24 : decode cX3_init 24 = .ok (.new 22, 3) := by decide +kernel
theorem dX3_init_27 : decode cX3_init 27 = .ok (.dup, 1) := by decide +kernel
theorem dX3_init_28 : decode cX3_init 28 = .ok (.aload_n 0, 1) := by decide +kernel
theorem dX3_init_29 : decode cX3_init 29 = .ok (.getfield 18, 3) := by decide +kernel
theorem dX3_init_32 : decode cX3_init 32 = .ok (.invokespecial 24, 3) := by decide +kernel
theorem dX3_init_35 : decode cX3_init 35 = .ok (.putfield 27, 3) := by decide +kernel
theorem dX3_init_38 : decode cX3_init 38 = .ok (.aload_n 0, 1) := by decide +kernel
theorem dX3_init_39 : decode cX3_init 39 = .ok (.new 9, 3) := by decide +kernel
theorem dX3_init_42 : decode cX3_init 42 = .ok (.dup, 1) := by decide +kernel
theorem dX3_init_43 : decode cX3_init 43 = .ok (.invokespecial 31, 3) := by decide +kernel
theorem dX3_init_46 : decode cX3_init 46 = .ok (.putfield 32, 3) := by decide +kernel
theorem dX3_init_49 : decode cX3_init 49 = .ok (.aload_n 0, 1) := by decide +kernel
theorem dX3_init_50 : decode cX3_init 50 = .ok (.new 9, 3) := by decide +kernel
theorem dX3_init_53 : decode cX3_init 53 = .ok (.dup, 1) := by decide +kernel
theorem dX3_init_54 : decode cX3_init 54 = .ok (.invokespecial 31, 3) := by decide +kernel
theorem dX3_init_57 : decode cX3_init 57 = .ok (.putfield 36, 3) := by decide +kernel
theorem dX3_init_60 : decode cX3_init 60 = .ok (.aload_n 0, 1) := by decide +kernel
theorem dX3_init_61 : decode cX3_init 61 = .ok (.new 9, 3) := by decide +kernel
theorem dX3_init_64 : decode cX3_init 64 = .ok (.dup, 1) := by decide +kernel
theorem dX3_init_65 : decode cX3_init 65 = .ok (.invokespecial 31, 3) := by decide +kernel
theorem dX3_init_68 : decode cX3_init 68 = .ok (.putfield 39, 3) := by decide +kernel
theorem dX3_init_71 : decode cX3_init 71 = .ok (.aload_n 0, 1) := by decide +kernel
theorem dX3_init_72 : decode cX3_init 72 = .ok (.iconst 0, 1) := by decide +kernel
theorem dX3_init_73 : decode cX3_init 73 = .ok (.putfield 42, 3) := by decide +kernel
theorem dX3_init_76 : decode cX3_init 76 = .ok (.aload_n 0, 1) := by decide +kernel
theorem dX3_init_77 : decode cX3_init 77 = .ok (.iconst 0, 1) := by decide +kernel
theorem dX3_init_78 : decode cX3_init 78 = .ok (.putfield 46, 3) := by decide +kernel
theorem dX3_init_81 : decode cX3_init 81 = .ok (.aload_n 0, 1) := by decide +kernel
theorem dX3_init_82 : decode cX3_init 82 = .ok (.iconst 0, 1) := by decide +kernel
theorem dX3_init_83 : decode cX3_init 83 = .ok (.putfield 49, 3) := by decide +kernel
theorem dX3_init_86 : decode cX3_init 86 = .ok (.iconst 0, 1) := by decide +kernel
theorem dX3_init_87 : decode cX3_init 87 = .ok (.istore_n 1, 1) := by decide +kernel
theorem dX3_init_88 : decode cX3_init 88 = .ok (.iload_n 1, 1) := by decide +kernel
theorem dX3_init_89 : decode cX3_init 89 = .ok (.iconst 4, 1) := by decide +kernel
theorem dX3_init_90 : decode cX3_init 90 = .ok (.if_icmp .ge 22, 3) := by decide +kernel
theorem dX3_init_93 : decode cX3_init 93 = .ok (.aload_n 0, 1) := by decide +kernel
theorem dX3_init_94 : decode cX3_init 94 = .ok (.getfield 11, 3) := by decide +kernel
theorem dX3_init_97 : decode cX3_init 97 = .ok (.iload_n 1, 1) := by decide +kernel
theorem dX3_init_98 : decode cX3_init 98 = .ok (.new 9, 3) := by decide +kernel
theorem dX3_init_101 : decode cX3_init 101 = .ok (.dup, 1) := by decide +kernel
theorem dX3_init_102 : decode cX3_init 102 = .ok (.invokespecial 31, 3) := by decide +kernel
theorem dX3_init_105 : decode cX3_init 105 = .ok (.aastore, 1) := by decide +kernel
theorem dX3_init_106 : decode cX3_init 106 = .ok (.iinc 1 1, 3) := by decide +kernel
theorem dX3_init_109 : decode cX3_init 109 = .ok (.goto (-21), 3) := by decide +kernel
theorem dX3_init_112 : decode cX3_init 112 = .ok (.return_, 1) := by decide +kernel
set_option maxRecDepth 20000 in
theorem ggX3_type_X3_needRope : GoodIn wsX3_type wsX3_needRope := goodIn_ca (goodIn_r _ [9, 10, 11] (by decide +kernel) (by decide +kernel)) (goodIn_sub (fun _ h => List.mem_cons_of_mem _ (List.mem_append_left _ (List.mem_append_right _ h))) (by decide +kernel))
set_option maxRecDepth 20000 in
theorem gX3_type_X3_needRope : GoodIn wsX3_type (va_wsS RX3 52 yX3_needRope wsX3_needRope) := goodIn_app (goodIn_of _ (by decide +kernel)) ggX3_type_X3_needRope
set_option maxRecDepth 20000 in
theorem ggX3_type_X3_needLetterOrNone : GoodIn wsX3_type wsX3_needLetterOrNone := goodIn_ca (goodIn_r _ [14, 15, 16] (by decide +kernel) (by decide +kernel)) (goodIn_sub (fun _ h => List.mem_cons_of_mem _ (List.mem_append_right _ h)) (by decide +kernel))
set_option maxRecDepth 20000 in
theorem gX3_type_X3_needLetterOrNone : GoodIn wsX3_type (va_wsS RX3 56 yX3_needLetterOrNone wsX3_needLetterOrNone) := goodIn_app (goodIn_of _ (by decide +kernel)) ggX3_type_X3_needLetterOrNone
set_option maxRecDepth 20000 in
theorem ggX3_type_X2_makeEmpty : GoodIn wsX3_type wsX2_makeEmpty := goodIn_r _ [21, 22, 45, 46] (by decide +kernel) (by decide +kernel)
set_option maxRecDepth 20000 in
theorem gX3_type_X2_makeEmpty : GoodIn wsX3_type (wsV RX3 59 RX2 yX2_makeEmpty wsX2_makeEmpty) := goodIn_app (goodIn_of _ (by decide +kernel)) ggX3_type_X2_makeEmpty
set_option maxRecDepth 20000 in
theorem ggX3_type_X2_add : GoodIn wsX3_type wsX2_add := goodIn_r _ [26, 22, 27, 45, 46] (by decide +kernel) (by decide +kernel)
set_option maxRecDepth 20000 in
theorem gX3_type_X2_add : GoodIn wsX3_type (wsV RX3 62 RX2 yX2_add wsX2_add) := goodIn_app (goodIn_of _ (by decide +kernel)) ggX3_type_X2_add
set_option maxRecDepth 20000 in
theorem ggX3_type_X2_addPart : GoodIn wsX3_type wsX2_addPart := goodIn_r _ [31, 22, 27, 32, 33, 34, 35, 45, 46] (by decide +kernel) (by decide +kernel)
set_option maxRecDepth 20000 in
theorem gX3_type_X2_addPart : GoodIn wsX3_type (wsV RX3 75 RX2 yX2_addPart wsX2_addPart) := goodIn_app (goodIn_of _ (by decide +kernel)) ggX3_type_X2_addPart
theorem dX3_type_0 : decode cX3_type 0 = .ok (.iload_n 1, 1) := by decide +kernel
theorem dX3_type_1 : decode cX3_type 1 = .ok (.invokestatic 52, 3) := by decide +kernel
theorem dX3_type_4 : decode cX3_type 4 = .ok (.iload_n 2, 1) := by decide +kernel
theorem dX3_type_5 : decode cX3_type 5 = .ok (.invokestatic 56, 3) := by decide +kernel
theorem dX3_type_8 : decode cX3_type 8 = .ok (.iload_n 3, 1) := by decide +kernel
theorem dX3_type_9 : decode cX3_type 9 = .ok (.invokestatic 56, 3) := by decide +kernel
theorem dX3_type_12 : decode cX3_type 12 = .ok (.iload 4, 2) := by decide +kernel
theorem dX3_type_14 : decode cX3_type 14 = .ok (.invokestatic 56, 3) := by decide +kernel
theorem dX3_type_17 : decode cX3_type 17 = .ok (.iload 5, 2) := by decide +kernel
theorem dX3_type_19 : decode cX3_type 19 = .ok (.invokestatic 56, 3) := by decide +kernel
theorem dX3_type_22 : decode cX3_type 22 = .ok (.iload 6, 2) := by decide +kernel
theorem dX3_type_24 : decode cX3_type 24 = .ok (.invokestatic 56, 3) := by decide +kernel
theorem dX3_type_27 : decode cX3_type 27 = .ok (.aload_n 0, 1) := by decide +kernel
theorem dX3_type_28 : decode cX3_type 28 = .ok (.getfield 32, 3) := by decide +kernel
theorem dX3_type_31 : decode cX3_type 31 = .ok (.invokevirtual 59, 3) := by decide +kernel
theorem dX3_type_34 : decode cX3_type 34 = .ok (.aload_n 0, 1) := by decide +kernel
theorem dX3_type_35 : decode cX3_type 35 = .ok (.getfield 32, 3) := by decide +kernel
theorem dX3_type_38 : decode cX3_type 38 = .ok (.iload_n 2, 1) := by decide +kernel
theorem dX3_type_39 : decode cX3_type 39 = .ok (.invokevirtual 62, 3) := by decide +kernel
theorem dX3_type_42 : decode cX3_type 42 = .ok (.aload_n 0, 1) := by decide +kernel
theorem dX3_type_43 : decode cX3_type 43 = .ok (.getfield 32, 3) := by decide +kernel
theorem dX3_type_46 : decode cX3_type 46 = .ok (.iload_n 3, 1) := by decide +kernel
theorem dX3_type_47 : decode cX3_type 47 = .ok (.invokevirtual 62, 3) := by decide +kernel
theorem dX3_type_50 : decode cX3_type 50 = .ok (.aload_n 0, 1) := by decide +kernel
theorem dX3_type_51 : decode cX3_type 51 = .ok (.getfield 32, 3) := by decide +kernel
theorem dX3_type_54 : decode cX3_type 54 = .ok (.iload 4, 2) := by decide +kernel
theorem dX3_type_56 : decode cX3_type 56 = .ok (.invokevirtual 62, 3) := by decide +kernel
theorem dX3_type_59 : decode cX3_type 59 = .ok (.aload_n 0, 1) := by decide +kernel
theorem dX3_type_60 : decode cX3_type 60 = .ok (.getfield 32, 3) := by decide +kernel
theorem dX3_type_63 : decode cX3_type 63 = .ok (.iload 5, 2) := by decide +kernel
theorem dX3_type_65 : decode cX3_type 65 = .ok (.invokevirtual 62, 3) := by decide +kernel
theorem dX3_type_68 : decode cX3_type 68 = .ok (.aload_n 0, 1) := by decide +kernel
theorem dX3_type_69 : decode cX3_type 69 = .ok (.getfield 32, 3) := by decide +kernel
theorem dX3_type_72 : decode cX3_type 72 = .ok (.iload 6, 2) := by decide +kernel
theorem dX3_type_74 : decode cX3_type 74 = .ok (.invokevirtual 62, 3) := by decide +kernel
theorem dX3_type_77 : decode cX3_type 77 = .ok (.aload_n 0, 1) := by decide +kernel
theorem dX3_type_78 : decode cX3_type 78 = .ok (.getfield 11, 3) := by decide +kernel
theorem dX3_type_81 : decode cX3_type 81 = .ok (.iload_n 1, 1) := by decide +kernel
theorem dX3_type_82 : decode cX3_type 82 = .ok (.aaload, 1) := by decide +kernel
theorem dX3_type_83 : decode cX3_type 83 = .ok (.astore 7, 2) := by decide +kernel
theorem dX3_type_85 : decode cX3_type 85 = .ok (.aload 7, 2) := by decide +kernel
theorem dX3_type_87 : decode cX3_type 87 = .ok (.getfield 65, 3) := by decide +kernel
theorem dX3_type_90 : decode cX3_type 90 = .ok (.aload_n 0, 1) := by decide +kernel
theorem dX3_type_91 : decode cX3_type 91 = .ok (.getfield 32, 3) := by decide +kernel
theorem dX3_type_94 : decode cX3_type 94 = .ok (.getfield 65, 3) := by decide +kernel
theorem dX3_type_97 : decode cX3_type 97 = .ok (.iadd, 1) := by decide +kernel
theorem dX3_type_98 : decode cX3_type 98 = .ok (.bipush 32, 2) := by decide +kernel
theorem dX3_type_100 : decode cX3_type 100 = .ok (.if_icmp .le 13, 3) := by decide +kernel
theorem dX3_type_113 : decode cX3_type 113 = .ok (.aload 7, 2) := by decide +kernel
theorem dX3_type_115 : decode cX3_type 115 = .ok (.aload_n 0, 1) := by decide +kernel
theorem dX3_type_116 : decode cX3_type 116 = .ok (.getfield 32, 3) := by decide +kernel
theorem dX3_type_119 : decode cX3_type 119 = .ok (.iconst 0, 1) := by decide +kernel
theorem dX3_type_120 : decode cX3_type 120 = .ok (.aload_n 0, 1) := by decide +kernel
theorem dX3_type_121 : decode cX3_type 121 = .ok (.getfield 32, 3) := by decide +kernel
theorem dX3_type_124 : decode cX3_type 124 = .ok (.getfield 65, 3) := by decide +kernel
theorem dX3_type_127 : decode cX3_type 127 = .ok (.invokevirtual 75, 3) := by decide +kernel
theorem dX3_type_130 : decode cX3_type 130 = .ok (.aload 7, 2) := by decide +kernel
theorem dX3_type_132 : decode cX3_type 132 = .ok (.getfield 65, 3) := by decide +kernel
theorem dX3_type_135 : decode cX3_type 135 = .ok (.ireturn, 1) := by decide +kernel
set_option maxRecDepth 20000 in
theorem ggX3_clear_X3_needRope : GoodIn wsX3_clear wsX3_needRope := goodIn_ca (goodIn_r _ [6, 7, 8] (by decide +kernel) (by decide +kernel)) (goodIn_sub (fun _ h => List.mem_cons_of_mem _ (List.mem_append_right _ h)) (by decide +kernel))
set_option maxRecDepth 20000 in
theorem gX3_clear_X3_needRope : GoodIn wsX3_clear (va_wsS RX3 52 yX3_needRope wsX3_needRope) := goodIn_app (goodIn_of _ (by decide +kernel)) ggX3_clear_X3_needRope
set_option maxRecDepth 20000 in
theorem ggX3_clear_X2_makeEmpty : GoodIn wsX3_clear wsX2_makeEmpty := goodIn_r _ [13, 14, 24, 25] (by decide +kernel) (by decide +kernel)
set_option maxRecDepth 20000 in
theorem gX3_clear_X2_makeEmpty : GoodIn wsX3_clear (wsV RX3 59 RX2 yX2_makeEmpty wsX2_makeEmpty) := goodIn_app (goodIn_of _ (by decide +kernel)) ggX3_clear_X2_makeEmpty
theorem dX3_clear_0 : decode cX3_clear 0 = .ok (.iload_n 1, 1) := by decide +kernel
theorem dX3_clear_1 : decode cX3_clear 1 = .ok (.invokestatic 52, 3) := by decide +kernel
theorem dX3_clear_4 : decode cX3_clear 4 = .ok (.aload_n 0, 1) := by decide +kernel
theorem dX3_clear_5 : decode cX3_clear 5 = .ok (.getfield 11, 3) := by decide +kernel
theorem dX3_clear_8 : decode cX3_clear 8 = .ok (.iload_n 1, 1) := by decide +kernel
theorem dX3_clear_9 : decode cX3_clear 9 = .ok (.aaload, 1) := by decide +kernel
theorem dX3_clear_10 : decode cX3_clear 10 = .ok (.getfield 65, 3) := by decide +kernel
theorem dX3_clear_13 : decode cX3_clear 13 = .ok (.istore_n 2, 1) := by decide +kernel
theorem dX3_clear_14 : decode cX3_clear 14 = .ok (.aload_n 0, 1) := by decide +kernel
theorem dX3_clear_15 : decode cX3_clear 15 = .ok (.getfield 11, 3) := by decide +kernel
theorem dX3_clear_18 : decode cX3_clear 18 = .ok (.iload_n 1, 1) := by decide +kernel
theorem dX3_clear_19 : decode cX3_clear 19 = .ok (.aaload, 1) := by decide +kernel
theorem dX3_clear_20 : decode cX3_clear 20 = .ok (.invokevirtual 59, 3) := by decide +kernel
theorem dX3_clear_23 : decode cX3_clear 23 = .ok (.iload_n 2, 1) := by decide +kernel
theorem dX3_clear_24 : decode cX3_clear 24 = .ok (.ireturn, 1) := by decide +kernel
set_option maxRecDepth 20000 in
theorem ggX3_copy_X3_needRope : GoodIn wsX3_copy wsX3_needRope := goodIn_ca (goodIn_r _ [6, 7, 8] (by decide +kernel) (by decide +kernel)) (goodIn_sub (fun _ h => List.mem_cons_of_mem _ (List.mem_append_right _ h)) (by decide +kernel))
set_option maxRecDepth 20000 in
theorem gX3_copy_X3_needRope : GoodIn wsX3_copy (va_wsS RX3 52 yX3_needRope wsX3_needRope) := goodIn_app (goodIn_of _ (by decide +kernel)) ggX3_copy_X3_needRope
set_option maxRecDepth 20000 in
theorem ggX3_copy_X2_become : GoodIn wsX3_copy wsX2_become := goodIn_r _ [13, 14, 15, 16, 17, 18, 19, 29, 30] (by decide +kernel) (by decide +kernel)
set_option maxRecDepth 20000 in
theorem gX3_copy_X2_become : GoodIn wsX3_copy (wsV RX3 79 RX2 yX2_become wsX2_become) := goodIn_app (goodIn_of _ (by decide +kernel)) ggX3_copy_X2_become
theorem dX3_copy_0 : decode cX3_copy 0 = .ok (.iload_n 1, 1) := by decide +kernel
theorem dX3_copy_1 : decode cX3_copy 1 = .ok (.invokestatic 52, 3) := by decide +kernel
theorem dX3_copy_4 : decode cX3_copy 4 = .ok (.iload_n 2, 1) := by decide +kernel
theorem dX3_copy_5 : decode cX3_copy 5 = .ok (.invokestatic 52, 3) := by decide +kernel
theorem dX3_copy_8 : decode cX3_copy 8 = .ok (.aload_n 0, 1) := by decide +kernel
theorem dX3_copy_9 : decode cX3_copy 9 = .ok (.getfield 11, 3) := by decide +kernel
theorem dX3_copy_12 : decode cX3_copy 12 = .ok (.iload_n 1, 1) := by decide +kernel
theorem dX3_copy_13 : decode cX3_copy 13 = .ok (.aaload, 1) := by decide +kernel
theorem dX3_copy_14 : decode cX3_copy 14 = .ok (.aload_n 0, 1) := by decide +kernel
theorem dX3_copy_15 : decode cX3_copy 15 = .ok (.getfield 11, 3) := by decide +kernel
theorem dX3_copy_18 : decode cX3_copy 18 = .ok (.iload_n 2, 1) := by decide +kernel
theorem dX3_copy_19 : decode cX3_copy 19 = .ok (.aaload, 1) := by decide +kernel
theorem dX3_copy_20 : decode cX3_copy 20 = .ok (.invokevirtual 79, 3) := by decide +kernel
theorem dX3_copy_23 : decode cX3_copy 23 = .ok (.aload_n 0, 1) := by decide +kernel
theorem dX3_copy_24 : decode cX3_copy 24 = .ok (.getfield 11, 3) := by decide +kernel
theorem dX3_copy_27 : decode cX3_copy 27 = .ok (.iload_n 1, 1) := by decide +kernel
theorem dX3_copy_28 : decode cX3_copy 28 = .ok (.aaload, 1) := by decide +kernel
theorem dX3_copy_29 : decode cX3_copy 29 = .ok (.getfield 65, 3) := by decide +kernel
theorem dX3_copy_32 : decode cX3_copy 32 = .ok (.ireturn, 1) := by decide +kernel
set_option maxRecDepth 20000 in
theorem ggX3_lay_X3_needRope : GoodIn wsX3_lay wsX3_needRope := goodIn_ca (goodIn_r _ [7, 8, 9] (by decide +kernel) (by decide +kernel)) (goodIn_sub (fun _ h => List.mem_cons_of_mem _ (List.mem_append_right _ h)) (by decide +kernel))
set_option maxRecDepth 20000 in
theorem gX3_lay_X3_needRope : GoodIn wsX3_lay (va_wsS RX3 52 yX3_needRope wsX3_needRope) := goodIn_app (goodIn_of _ (by decide +kernel)) ggX3_lay_X3_needRope
set_option maxRecDepth 20000 in
theorem ggX3_lay_X3_needPlace : GoodIn wsX3_lay wsX3_needPlace := goodIn_ca (goodIn_r _ [12, 8, 9, 2, 42, 43] (by decide +kernel) (by decide +kernel)) (goodIn_sub (fun _ h => List.mem_cons_of_mem _ (List.mem_append_right _ h)) (by decide +kernel))
set_option maxRecDepth 20000 in
theorem gX3_lay_X3_needPlace : GoodIn wsX3_lay (va_wsS RX3 83 yX3_needPlace wsX3_needPlace) := goodIn_app (goodIn_of _ (by decide +kernel)) ggX3_lay_X3_needPlace
set_option maxRecDepth 20000 in
theorem ggX3_lay_X2_become : GoodIn wsX3_lay wsX2_become := goodIn_r _ [22, 23, 24, 25, 26, 27, 28, 42, 43] (by decide +kernel) (by decide +kernel)
set_option maxRecDepth 20000 in
theorem gX3_lay_X2_become : GoodIn wsX3_lay (wsV RX3 79 RX2 yX2_become wsX2_become) := goodIn_app (goodIn_of _ (by decide +kernel)) ggX3_lay_X2_become
set_option maxRecDepth 20000 in
theorem ggX3_lay_X2_replace : GoodIn wsX3_lay wsX2_replace := goodIn_r _ [32, 24, 23, 25, 26, 27, 28, 42, 43] (by decide +kernel) (by decide +kernel)
set_option maxRecDepth 20000 in
theorem gX3_lay_X2_replace : GoodIn wsX3_lay (wsV RX3 91 RX2 yX2_replace wsX2_replace) := goodIn_app (goodIn_of _ (by decide +kernel)) ggX3_lay_X2_replace
theorem dX3_lay_0 : decode cX3_lay 0 = .ok (.iload_n 1, 1) := by decide +kernel
theorem dX3_lay_1 : decode cX3_lay 1 = .ok (.invokestatic 52, 3) := by decide +kernel
theorem dX3_lay_4 : decode cX3_lay 4 = .ok (.iload_n 3, 1) := by decide +kernel
theorem dX3_lay_5 : decode cX3_lay 5 = .ok (.invokestatic 52, 3) := by decide +kernel
theorem dX3_lay_8 : decode cX3_lay 8 = .ok (.aload_n 0, 1) := by decide +kernel
theorem dX3_lay_9 : decode cX3_lay 9 = .ok (.getfield 11, 3) := by decide +kernel
theorem dX3_lay_12 : decode cX3_lay 12 = .ok (.iload_n 1, 1) := by decide +kernel
theorem dX3_lay_13 : decode cX3_lay 13 = .ok (.aaload, 1) := by decide +kernel
theorem dX3_lay_14 : decode cX3_lay 14 = .ok (.astore 4, 2) := by decide +kernel
theorem dX3_lay_16 : decode cX3_lay 16 = .ok (.aload 4, 2) := by decide +kernel
theorem dX3_lay_18 : decode cX3_lay 18 = .ok (.iload_n 2, 1) := by decide +kernel
theorem dX3_lay_19 : decode cX3_lay 19 = .ok (.invokestatic 83, 3) := by decide +kernel
theorem dX3_lay_22 : decode cX3_lay 22 = .ok (.aload 4, 2) := by decide +kernel
theorem dX3_lay_24 : decode cX3_lay 24 = .ok (.getfield 65, 3) := by decide +kernel
theorem dX3_lay_27 : decode cX3_lay 27 = .ok (.aload_n 0, 1) := by decide +kernel
theorem dX3_lay_28 : decode cX3_lay 28 = .ok (.getfield 11, 3) := by decide +kernel
theorem dX3_lay_31 : decode cX3_lay 31 = .ok (.iload_n 3, 1) := by decide +kernel
theorem dX3_lay_32 : decode cX3_lay 32 = .ok (.aaload, 1) := by decide +kernel
theorem dX3_lay_33 : decode cX3_lay 33 = .ok (.getfield 65, 3) := by decide +kernel
theorem dX3_lay_36 : decode cX3_lay 36 = .ok (.iadd, 1) := by decide +kernel
theorem dX3_lay_37 : decode cX3_lay 37 = .ok (.bipush 32, 2) := by decide +kernel
theorem dX3_lay_39 : decode cX3_lay 39 = .ok (.if_icmp .le 8, 3) := by decide +kernel
theorem dX3_lay_47 : decode cX3_lay 47 = .ok (.aload_n 0, 1) := by decide +kernel
theorem dX3_lay_48 : decode cX3_lay 48 = .ok (.getfield 32, 3) := by decide +kernel
theorem dX3_lay_51 : decode cX3_lay 51 = .ok (.aload_n 0, 1) := by decide +kernel
theorem dX3_lay_52 : decode cX3_lay 52 = .ok (.getfield 11, 3) := by decide +kernel
theorem dX3_lay_55 : decode cX3_lay 55 = .ok (.iload_n 3, 1) := by decide +kernel
theorem dX3_lay_56 : decode cX3_lay 56 = .ok (.aaload, 1) := by decide +kernel
theorem dX3_lay_57 : decode cX3_lay 57 = .ok (.invokevirtual 79, 3) := by decide +kernel
theorem dX3_lay_60 : decode cX3_lay 60 = .ok (.aload 4, 2) := by decide +kernel
theorem dX3_lay_62 : decode cX3_lay 62 = .ok (.iload_n 2, 1) := by decide +kernel
theorem dX3_lay_63 : decode cX3_lay 63 = .ok (.iload_n 2, 1) := by decide +kernel
theorem dX3_lay_64 : decode cX3_lay 64 = .ok (.aload_n 0, 1) := by decide +kernel
theorem dX3_lay_65 : decode cX3_lay 65 = .ok (.getfield 32, 3) := by decide +kernel
theorem dX3_lay_68 : decode cX3_lay 68 = .ok (.invokevirtual 91, 3) := by decide +kernel
theorem dX3_lay_71 : decode cX3_lay 71 = .ok (.aload 4, 2) := by decide +kernel
theorem dX3_lay_73 : decode cX3_lay 73 = .ok (.getfield 65, 3) := by decide +kernel
theorem dX3_lay_76 : decode cX3_lay 76 = .ok (.ireturn, 1) := by decide +kernel
set_option maxRecDepth 20000 in
theorem ggX3_cut_X3_needRope : GoodIn wsX3_cut wsX3_needRope := goodIn_ca (goodIn_r _ [9, 10, 11] (by decide +kernel) (by decide +kernel)) (goodIn_sub (fun _ h => List.mem_cons_of_mem _ (List.mem_append_right _ h)) (by decide +kernel))
set_option maxRecDepth 20000 in
theorem gX3_cut_X3_needRope : GoodIn wsX3_cut (va_wsS RX3 52 yX3_needRope wsX3_needRope) := goodIn_app (goodIn_of _ (by decide +kernel)) ggX3_cut_X3_needRope
set_option maxRecDepth 20000 in
theorem ggX3_cut_X3_needPlace : GoodIn wsX3_cut wsX3_needPlace := goodIn_ca (goodIn_r _ [14, 10, 11, 5, 39, 40] (by decide +kernel) (by decide +kernel)) (goodIn_sub (fun _ h => List.mem_cons_of_mem _ (List.mem_append_right _ h)) (by decide +kernel))
set_option maxRecDepth 20000 in
theorem gX3_cut_X3_needPlace : GoodIn wsX3_cut (va_wsS RX3 83 yX3_needPlace wsX3_needPlace) := goodIn_app (goodIn_of _ (by decide +kernel)) ggX3_cut_X3_needPlace
