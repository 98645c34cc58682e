set_option maxRecDepth 20000 in
theorem ggX0_init_X2_init : GoodIn wsX0_init wsX2_init := goodIn_r _ [17, 18, 2, 3, 19, 20, 21, 30, 31] (by decide +kernel) (by decide +kernel)
set_option maxRecDepth 20000 in
theorem gX0_init_X2_init_n17 : GoodIn wsX0_init (wsX2_init) := ggX0_init_X2_init
theorem dX0_init_0 : decode cX0_init 0 = .ok (.aload_n 0, 1) := by decide +kernel
theorem dX0_init_1 : decode cX0_init 1 = .ok (.invokespecial 5, 3) := by decide +kernel
theorem dX0_init_4 : decode cX0_init 4 = .ok (.aload_n 0, 1) := by decide +kernel
theorem dX0_init_5 : decode cX0_init 5 = .ok (.sipush 704, 3) := by decide +kernel
theorem dX0_init_8 : decode cX0_init 8 = .ok (.newarray .int, 2) := by decide +kernel
theorem dX0_init_10 : decode cX0_init 10 = .ok (.putfield 11, 3) := by decide +kernel
theorem dX0_init_13 : decode cX0_init 13 = .ok (.aload_n 0, 1) := by decide +kernel
theorem dX0_init_14 : decode cX0_init 14 = .ok (.new 15, 3) := by decide +kernel
theorem dX0_init_17 : decode cX0_init 17 = .ok (.dup, 1) := by decide +kernel
theorem dX0_init_18 : decode cX0_init 18 = .ok (.invokespecial 17, 3) := by decide +kernel
theorem dX0_init_21 : decode cX0_init 21 = .ok (.putfield 18, 3) := by decide +kernel
theorem dX0_init_24 : decode cX0_init 24 = .ok (.aload_n 0, 1) := by decide +kernel
theorem dX0_init_25 : decode cX0_init 25 = .ok (.new 15, 3) := by decide +kernel
theorem dX0_init_28 : decode cX0_init 28 = .ok (.dup, 1) := by decide +kernel
theorem dX0_init_29 : decode cX0_init 29 = .ok (.invokespecial 17, 3) := by decide +kernel
theorem dX0_init_32 : decode cX0_init 32 = .ok (.putfield 22, 3) := by decide +kernel
theorem dX0_init_35 : decode cX0_init 35 = .ok (.aload_n 0, 1) := by decide +kernel
theorem dX0_init_36 : decode cX0_init 36 = .ok (.new 15, 3) := by decide +kernel
theorem dX0_init_39 : decode cX0_init 39 = .ok (.dup, 1) := by decide +kernel
theorem dX0_init_40 : decode cX0_init 40 = .ok (.invokespecial 17, 3) := by decide +kernel
theorem dX0_init_43 : decode cX0_init 43 = .ok (.putfield 25, 3) := by decide +kernel
theorem dX0_init_46 : decode cX0_init 46 = .ok (.aload_n 0, 1) := by decide +kernel
theorem dX0_init_47 : decode cX0_init 47 = .ok (.iconst 0, 1) := by decide +kernel
theorem dX0_init_48 : decode cX0_init 48 = .ok (.putfield 28, 3) := by decide +kernel
theorem dX0_init_51 : decode cX0_init 51 = .ok (.aload_n 0, 1) := by decide +kernel
theorem dX0_init_52 : decode cX0_init 52 = .ok (.iconst 0, 1) := by decide +kernel
theorem dX0_init_53 : decode cX0_init 53 = .ok (.putfield 32, 3) := by decide +kernel
theorem dX0_init_56 : decode cX0_init 56 = .ok (.aload_n 0, 1) := by decide +kernel
theorem dX0_init_57 : decode cX0_init 57 = .ok (.bipush (-2), 2) := by decide +kernel
theorem dX0_init_59 : decode cX0_init 59 = .ok (.putfield 35, 3) := by decide +kernel
theorem dX0_init_62 : decode cX0_init 62 = .ok (.aload_n 0, 1) := by decide +kernel
theorem dX0_init_63 : decode cX0_init 63 = .ok (.aload_n 1, 1) := by decide +kernel
theorem dX0_init_64 : decode cX0_init 64 = .ok (.putfield 38, 3) := by decide +kernel
theorem dX0_init_67 : decode cX0_init 67 = .ok (.return_, 1) := by decide +kernel
set_option maxRecDepth 20000 in
theorem ggX0_size_X0_list : GoodIn wsX0_size wsX0_list := goodIn_r _ [6, 7, 8, 9, 1, 10, 11, 12, 13, 14, 5, 15, 16, 17, 18, 19, 20, 21, 22, 23, 24, 25, 26, 27, 28, 29, 30, 31, 32, 33, 34, 35, 36, 37, 38, 39, 40, 41, 42, 43, 44, 45, 46, 47, 48, 49, 50, 51, 52, 53, 54, 55, 56, 57, 58, 59] (by decide +kernel) (by decide +kernel)
set_option maxRecDepth 20000 in
theorem gX0_size_X0_list : GoodIn wsX0_size (wsV RX0 42 RX0 yX0_list wsX0_list) := goodIn_app (goodIn_of _ (by decide +kernel)) ggX0_size_X0_list
theorem dX0_size_0 : decode cX0_size 0 = .ok (.aload_n 0, 1) := by decide +kernel
theorem dX0_size_1 : decode cX0_size 1 = .ok (.invokevirtual 42, 3) := by decide +kernel
theorem dX0_size_4 : decode cX0_size 4 = .ok (.aload_n 0, 1) := by decide +kernel
theorem dX0_size_5 : decode cX0_size 5 = .ok (.getfield 28, 3) := by decide +kernel
theorem dX0_size_8 : decode cX0_size 8 = .ok (.ireturn, 1) := by decide +kernel
set_option maxRecDepth 20000 in
theorem ggX0_has_X0_size : GoodIn wsX0_has wsX0_size := goodIn_r _ [5, 6, 7, 8, 9, 4, 10, 11, 12, 13, 14, 15, 16, 17, 18, 19, 20, 21, 22, 23, 24, 25, 26, 27, 28, 29, 30, 31, 32, 33, 34, 35, 36, 37, 38, 39, 40, 41, 42, 43, 44, 45, 46, 47, 48, 49, 50, 51, 52, 53, 54, 55, 56, 57, 58, 59, 60, 61, 62, 63] (by decide +kernel) (by decide +kernel)
set_option maxRecDepth 20000 in
theorem gX0_has_X0_size : GoodIn wsX0_has (wsV RX0 45 RX0 yX0_size wsX0_size) := goodIn_app (goodIn_of _ (by decide +kernel)) ggX0_has_X0_size
theorem dX0_has_0 : decode cX0_has 0 = .ok (.iload_n 1, 1) := by decide +kernel
theorem dX0_has_1 : decode cX0_has 1 = .ok (.ifCond .lt 15, 3) := by decide +kernel
theorem dX0_has_4 : decode cX0_has 4 = .ok (.iload_n 1, 1) := by decide +kernel
theorem dX0_has_5 : decode cX0_has 5 = .ok (.aload_n 0, 1) := by decide +kernel
theorem dX0_has_6 : decode cX0_has 6 = .ok (.invokevirtual 45, 3) := by decide +kernel
theorem dX0_has_9 : decode cX0_has 9 = .ok (.if_icmp .ge 7, 3) := by decide +kernel
theorem dX0_has_12 : decode cX0_has 12 = .ok (.iconst 1, 1) := by decide +kernel
theorem dX0_has_13 : decode cX0_has 13 = .ok (.goto 4, 3) := by decide +kernel
theorem dX0_has_16 : decode cX0_has 16 = .ok (.iconst 0, 1) := by decide +kernel
theorem dX0_has_17 : decode cX0_has 17 = .ok (.ireturn, 1) := by decide +kernel
theorem dX0_list_0 : decode cX0_list 0 = .ok (.aload_n 0, 1) := by decide +kernel
theorem dX0_list_1 : decode cX0_list 1 = .ok (.getfield 32, 3) := by decide +kernel
theorem dX0_list_4 : decode cX0_list 4 = .ok (.aload_n 0, 1) := by decide +kernel
theorem dX0_list_5 : decode cX0_list 5 = .ok (.getfield 38, 3) := by decide +kernel
theorem dX0_list_8 : decode cX0_list 8 = .ok (.getfield 49, 3) := by decide +kernel
theorem dX0_list_11 : decode cX0_list 11 = .ok (.if_icmp .ne 4, 3) := by decide +kernel
theorem dX0_list_14 : decode cX0_list 14 = .ok (.return_, 1) := by decide +kernel
theorem dX0_list_15 : decode cX0_list 15 = .ok (.aload_n 0, 1) := by decide +kernel
theorem dX0_list_16 : decode cX0_list 16 = .ok (.aload_n 0, 1) := by decide +kernel
theorem dX0_list_17 : decode cX0_list 17 = .ok (.getfield 38, 3) := by decide +kernel
theorem dX0_list_20 : decode cX0_list 20 = .ok (.getfield 49, 3) := by decide +kernel
theorem dX0_list_23 : decode cX0_list 23 = .ok (.putfield 32, 3) := by decide +kernel
theorem dX0_list_26 : decode cX0_list 26 = .ok (.aload_n 0, 1) := by decide +kernel
theorem dX0_list_27 : decode cX0_list 27 = .ok (.iconst 0, 1) := by decide +kernel
theorem dX0_list_28 : decode cX0_list 28 = .ok (.putfield 28, 3) := by decide +kernel
theorem dX0_list_31 : decode cX0_list 31 = .ok (.aload_n 0, 1) := by decide +kernel
theorem dX0_list_32 : decode cX0_list 32 = .ok (.bipush (-2), 2) := by decide +kernel
theorem dX0_list_34 : decode cX0_list 34 = .ok (.putfield 35, 3) := by decide +kernel
theorem dX0_list_37 : decode cX0_list 37 = .ok (.iconst 0, 1) := by decide +kernel
theorem dX0_list_38 : decode cX0_list 38 = .ok (.istore_n 1, 1) := by decide +kernel
theorem dX0_list_39 : decode cX0_list 39 = .ok (.iload_n 1, 1) := by decide +kernel
theorem dX0_list_40 : decode cX0_list 40 = .ok (.aload_n 0, 1) := by decide +kernel
theorem dX0_list_41 : decode cX0_list 41 = .ok (.getfield 38, 3) := by decide +kernel
theorem dX0_list_44 : decode cX0_list 44 = .ok (.getfield 54, 3) := by decide +kernel
theorem dX0_list_47 : decode cX0_list 47 = .ok (.if_icmp .ge 45, 3) := by decide +kernel
theorem dX0_list_50 : decode cX0_list 50 = .ok (.iconst 0, 1) := by decide +kernel
theorem dX0_list_51 : decode cX0_list 51 = .ok (.istore_n 2, 1) := by decide +kernel
theorem dX0_list_52 : decode cX0_list 52 = .ok (.iload_n 2, 1) := by decide +kernel
theorem dX0_list_53 : decode cX0_list 53 = .ok (.aload_n 0, 1) := by decide +kernel
theorem dX0_list_54 : decode cX0_list 54 = .ok (.getfield 38, 3) := by decide +kernel
theorem dX0_list_57 : decode cX0_list 57 = .ok (.getfield 54, 3) := by decide +kernel
theorem dX0_list_60 : decode cX0_list 60 = .ok (.if_icmp .ge 26, 3) := by decide +kernel
theorem dX0_list_63 : decode cX0_list 63 = .ok (.aload_n 0, 1) := by decide +kernel
theorem dX0_list_64 : decode cX0_list 64 = .ok (.iload_n 1, 1) := by decide +kernel
theorem dX0_list_65 : decode cX0_list 65 = .ok (.iload_n 2, 1) := by decide +kernel
theorem dX0_list_66 : decode cX0_list 66 = .ok (.invokevirtual 56, 3) := by decide +kernel
theorem dX0_list_69 : decode cX0_list 69 = .ok (.iload_n 1, 1) := by decide +kernel
theorem dX0_list_70 : decode cX0_list 70 = .ok (.iload_n 2, 1) := by decide +kernel
theorem dX0_list_71 : decode cX0_list 71 = .ok (.if_icmp .eq 9, 3) := by decide +kernel
theorem dX0_list_74 : decode cX0_list 74 = .ok (.aload_n 0, 1) := by decide +kernel
theorem dX0_list_75 : decode cX0_list 75 = .ok (.iload_n 1, 1) := by decide +kernel
theorem dX0_list_76 : decode cX0_list 76 = .ok (.iload_n 2, 1) := by decide +kernel
theorem dX0_list_77 : decode cX0_list 77 = .ok (.invokevirtual 60, 3) := by decide +kernel
theorem dX0_list_80 : decode cX0_list 80 = .ok (.iinc 2 1, 3) := by decide +kernel
theorem dX0_list_83 : decode cX0_list 83 = .ok (.goto (-31), 3) := by decide +kernel
theorem dX0_list_86 : decode cX0_list 86 = .ok (.iinc 1 1, 3) := by decide +kernel
theorem dX0_list_89 : decode cX0_list 89 = .ok (.goto (-50), 3) := by decide +kernel
theorem dX0_list_92 : decode cX0_list 92 = .ok (.return_, 1) := by decide +kernel
set_option maxRecDepth 20000 in
theorem ggX0_firstUnmet_X0_list : GoodIn wsX0_firstUnmet wsX0_list := goodIn_r _ [7, 8, 9, 10, 2, 1, 11, 12, 13, 14, 6, 15, 16, 17, 18, 19, 20, 21, 22, 23, 24, 25, 26, 27, 28, 29, 30, 31, 32, 33, 34, 35, 36, 37, 38, 39, 40, 41, 112, 113, 114, 115, 116, 117, 118, 119, 120, 121, 122, 123, 124, 125, 126, 127, 128, 129] (by decide +kernel) (by decide +kernel)
set_option maxRecDepth 20000 in
theorem gX0_firstUnmet_X0_list : GoodIn wsX0_firstUnmet (wsV RX0 42 RX0 yX0_list wsX0_list) := goodIn_app (goodIn_of _ (by decide +kernel)) ggX0_firstUnmet_X0_list
theorem dX0_firstUnmet_0 : decode cX0_firstUnmet 0 = .ok (.aload_n 0, 1) := by decide +kernel
theorem dX0_firstUnmet_1 : decode cX0_firstUnmet 1 = .ok (.invokevirtual 42, 3) := by decide +kernel
theorem dX0_firstUnmet_4 : decode cX0_firstUnmet 4 = .ok (.aload_n 0, 1) := by decide +kernel
theorem dX0_firstUnmet_5 : decode cX0_firstUnmet 5 = .ok (.getfield 35, 3) := by decide +kernel
theorem dX0_firstUnmet_8 : decode cX0_firstUnmet 8 = .ok (.bipush (-2), 2) := by decide +kernel
theorem dX0_firstUnmet_10 : decode cX0_firstUnmet 10 = .ok (.if_icmp .ne 45, 3) := by decide +kernel
theorem dX0_firstUnmet_13 : decode cX0_firstUnmet 13 = .ok (.aload_n 0, 1) := by decide +kernel
theorem dX0_firstUnmet_14 : decode cX0_firstUnmet 14 = .ok (.iconst (-1), 1) := by decide +kernel
theorem dX0_firstUnmet_15 : decode cX0_firstUnmet 15 = .ok (.putfield 35, 3) := by decide +kernel
theorem dX0_firstUnmet_18 : decode cX0_firstUnmet 18 = .ok (.iconst 0, 1) := by decide +kernel
theorem dX0_firstUnmet_19 : decode cX0_firstUnmet 19 = .ok (.istore_n 1, 1) := by decide +kernel
theorem dX0_firstUnmet_20 : decode cX0_firstUnmet 20 = .ok (.iload_n 1, 1) := by decide +kernel
theorem dX0_firstUnmet_21 : decode cX0_firstUnmet 21 = .ok (.aload_n 0, 1) := by decide +kernel
theorem dX0_firstUnmet_22 : decode cX0_firstUnmet 22 = .ok (.getfield 28, 3) := by decide +kernel
theorem dX0_firstUnmet_25 : decode cX0_firstUnmet 25 = .ok (.if_icmp .ge 30, 3) := by decide +kernel
theorem dX0_firstUnmet_28 : decode cX0_firstUnmet 28 = .ok (.aload_n 0, 1) := by decide +kernel
theorem dX0_firstUnmet_29 : decode cX0_firstUnmet 29 = .ok (.getfield 35, 3) := by decide +kernel
theorem dX0_firstUnmet_32 : decode cX0_firstUnmet 32 = .ok (.iconst (-1), 1) := by decide +kernel
theorem dX0_firstUnmet_33 : decode cX0_firstUnmet 33 = .ok (.if_icmp .ne 22, 3) := by decide +kernel
theorem dX0_firstUnmet_36 : decode cX0_firstUnmet 36 = .ok (.aload_n 0, 1) := by decide +kernel
theorem dX0_firstUnmet_37 : decode cX0_firstUnmet 37 = .ok (.iload_n 1, 1) := by decide +kernel
theorem dX0_firstUnmet_38 : decode cX0_firstUnmet 38 = .ok (.invokevirtual 119, 3) := by decide +kernel
theorem dX0_firstUnmet_41 : decode cX0_firstUnmet 41 = .ok (.ifCond .ne 8, 3) := by decide +kernel
theorem dX0_firstUnmet_44 : decode cX0_firstUnmet 44 = .ok (.aload_n 0, 1) := by decide +kernel
theorem dX0_firstUnmet_45 : decode cX0_firstUnmet 45 = .ok (.iload_n 1, 1) := by decide +kernel
theorem dX0_firstUnmet_46 : decode cX0_firstUnmet 46 = .ok (.putfield 35, 3) := by decide +kernel
theorem dX0_firstUnmet_49 : decode cX0_firstUnmet 49 = .ok (.iinc 1 1, 3) := by decide +kernel
theorem dX0_firstUnmet_52 : decode cX0_firstUnmet 52 = .ok (.goto (-32), 3) := by decide +kernel
theorem dX0_firstUnmet_55 : decode cX0_firstUnmet 55 = .ok (.aload_n 0, 1) := by decide +kernel
theorem dX0_firstUnmet_56 : decode cX0_firstUnmet 56 = .ok (.getfield 35, 3) := by decide +kernel
theorem dX0_firstUnmet_59 : decode cX0_firstUnmet 59 = .ok (.ireturn, 1) := by decide +kernel
set_option maxRecDepth 20000 in
theorem ggX1_init_X2_init : GoodIn wsX1_init wsX2_init := goodIn_r _ [16, 17, 2, 3, 18, 19, 20, 29, 30] (by decide +kernel) (by decide +kernel)
set_option maxRecDepth 20000 in
theorem gX1_init_X2_init_n20 : GoodIn wsX1_init (wsX2_init) := ggX1_init_X2_init
theorem dX1_init_0 : decode cX1_init 0 = .ok (.aload_n 0, 1) := by decide +kernel
theorem dX1_init_1 : decode cX1_init 1 = .ok (.invokespecial 3, 3) := by decide +kernel
theorem dX1_init_4 : decode cX1_init 4 = .ok (.aload_n 0, 1) := by decide +kernel
theorem dX1_init_5 : decode cX1_init 5 = .ok (.bipush 8, 2) := by decide +kernel
theorem dX1_init_7 : decode cX1_init 7 = .ok (.anewarray 9, 3) := by decide +kernel
theorem dX1_init_10 : decode cX1_init 10 = .ok (.putfield 11, 3) := by decide +kernel
theorem dX1_init_13 : decode cX1_init 13 = .ok (.aload_n 0, 1) := by decide +kernel
theorem dX1_init_14 : decode cX1_init 14 = .ok (.bipush 8, 2) := by decide +kernel
theorem dX1_init_16 : decode cX1_init 16 = .ok (.anewarray 9, 3) := by decide +kernel
theorem dX1_init_19 : decode cX1_init 19 = .ok (.putfield 17, 3) := by decide +kernel
theorem dX1_init_22 : decode cX1_init 22 = .ok (.aload_n 0, 1) := by decide +kernel
theorem dX1_init_23 : decode cX1_init 23 = .ok (.new 9, 3) := by decide +kernel
theorem dX1_init_26 : decode cX1_init 26 = .ok (.dup, 1) := by decide +kernel
theorem dX1_init_27 : decode cX1_init 27 = .ok (.invokespecial 20, 3) := by decide +kernel
theorem dX1_init_30 : decode cX1_init 30 = .ok (.putfield 21, 3) := by decide +kernel
theorem dX1_init_33 : decode cX1_init 33 = .ok (.aload_n 0, 1) := by decide +kernel
theorem dX1_init_34 : decode cX1_init 34 = .ok (.new 9, 3) := by decide +kernel
theorem dX1_init_37 : decode cX1_init 37 = .ok (.dup, 1) := by decide +kernel
theorem dX1_init_38 : decode cX1_init 38 = .ok (.invokespecial 20, 3) := by decide +kernel
theorem dX1_init_41 : decode cX1_init 41 = .ok (.putfield 25, 3) := by decide +kernel
theorem dX1_init_44 : decode cX1_init 44 = .ok (.aload_n 0, 1) := by decide +kernel
theorem dX1_init_45 : decode cX1_init 45 = .ok (.new 9, 3) := by decide +kernel
theorem dX1_init_48 : decode cX1_init 48 = .ok (.dup, 1) := by decide +kernel
theorem dX1_init_49 : decode cX1_init 49 = .ok (.invokespecial 20, 3) := by decide +kernel
theorem dX1_init_52 : decode cX1_init 52 = .ok (.putfield 28, 3) := by decide +kernel
theorem dX1_init_55 : decode cX1_init 55 = .ok (.aload_n 0, 1) := by decide +kernel
theorem dX1_init_56 : decode cX1_init 56 = .ok (.new 9, 3) := by decide +kernel
theorem dX1_init_59 : decode cX1_init 59 = .ok (.dup, 1) := by decide +kernel
theorem dX1_init_60 : decode cX1_init 60 = .ok (.invokespecial 20, 3) := by decide +kernel
theorem dX1_init_63 : decode cX1_init 63 = .ok (.putfield 31, 3) := by decide +kernel
theorem dX1_init_66 : decode cX1_init 66 = .ok (.aload_n 0, 1) := by decide +kernel
theorem dX1_init_67 : decode cX1_init 67 = .ok (.iconst 0, 1) := by decide +kernel
theorem dX1_init_68 : decode cX1_init 68 = .ok (.putfield 34, 3) := by decide +kernel
theorem dX1_init_71 : decode cX1_init 71 = .ok (.aload_n 0, 1) := by decide +kernel
theorem dX1_init_72 : decode cX1_init 72 = .ok (.iconst 0, 1) := by decide +kernel
theorem dX1_init_73 : decode cX1_init 73 = .ok (.putfield 38, 3) := by decide +kernel
theorem dX1_init_76 : decode cX1_init 76 = .ok (.iconst 0, 1) := by decide +kernel
theorem dX1_init_77 : decode cX1_init 77 = .ok (.istore_n 1, 1) := by decide +kernel
theorem dX1_init_78 : decode cX1_init 78 = .ok (.iload_n 1, 1) := by decide +kernel
theorem dX1_init_79 : decode cX1_init 79 = .ok (.bipush 8, 2) := by decide +kernel
theorem dX1_init_81 : decode cX1_init 81 = .ok (.if_icmp .ge 35, 3) := by decide +kernel
theorem dX1_init_84 : decode cX1_init 84 = .ok (.aload_n 0, 1) := by decide +kernel
theorem dX1_init_85 : decode cX1_init 85 = .ok (.getfield 11, 3) := by decide +kernel
theorem dX1_init_88 : decode cX1_init 88 = .ok (.iload_n 1, 1) := by decide +kernel
theorem dX1_init_89 : decode cX1_init 89 = .ok (.new 9, 3) := by decide +kernel
theorem dX1_init_92 : decode cX1_init 92 = .ok (.dup, 1) := by decide +kernel
theorem dX1_init_93 : decode cX1_init 93 = .ok (.invokespecial 20, 3) := by decide +kernel
theorem dX1_init_96 : decode cX1_init 96 = .ok (.aastore, 1) := by decide +kernel
theorem dX1_init_97 : decode cX1_init 97 = .ok (.aload_n 0, 1) := by decide +kernel
theorem dX1_init_98 : decode cX1_init 98 = .ok (.getfield 17, 3) := by decide +kernel
theorem dX1_init_101 : decode cX1_init 101 = .ok (.iload_n 1, 1) := by decide +kernel
theorem dX1_init_102 : decode cX1_init 102 = .ok (.new 9, 3) := by decide +kernel
theorem dX1_init_105 : decode cX1_init 105 = .ok (.dup, 1) := by decide +kernel
theorem dX1_init_106 : decode cX1_init 106 = .ok (.invokespecial 20, 3) := by decide +kernel
theorem dX1_init_109 : decode cX1_init 109 = .ok (.aastore, 1) := by decide +kernel
theorem dX1_init_110 : decode cX1_init 110 = .ok (.iinc 1 1, 3) := by decide +kernel
theorem dX1_init_113 : decode cX1_init 113 = .ok (.goto (-35), 3) := by decide +kernel
theorem dX1_init_116 : decode cX1_init 116 = .ok (.return_, 1) := by decide +kernel
theorem dX1_placeOf_0 : decode cX1_placeOf 0 = .ok (.iload_n 0, 1) := by decide +kernel
theorem dX1_placeOf_1 : decode cX1_placeOf 1 = .ok (.bipush 8, 2) := by decide +kernel
theorem dX1_placeOf_3 : decode cX1_placeOf 3 = .ok (.idiv, 1) := by decide +kernel
theorem dX1_placeOf_4 : decode cX1_placeOf 4 = .ok (.ireturn, 1) := by decide +kernel
theorem dX1_ruleOf_0 : decode cX1_ruleOf 0 = .ok (.iload_n 0, 1) := by decide +kernel
theorem dX1_ruleOf_1 : decode cX1_ruleOf 1 = .ok (.bipush 8, 2) := by decide +kernel
theorem dX1_ruleOf_3 : decode cX1_ruleOf 3 = .ok (.irem, 1) := by decide +kernel
theorem dX1_ruleOf_4 : decode cX1_ruleOf 4 = .ok (.ireturn, 1) := by decide +kernel
theorem dX1_takeAllOut_0 : decode cX1_takeAllOut 0 = .ok (.aload_n 0, 1) := by decide +kernel
theorem dX1_takeAllOut_1 : decode cX1_takeAllOut 1 = .ok (.iconst 0, 1) := by decide +kernel
theorem dX1_takeAllOut_2 : decode cX1_takeAllOut 2 = .ok (.putfield 34, 3) := by decide +kernel
theorem dX1_takeAllOut_5 : decode cX1_takeAllOut 5 = .ok (.aload_n 0, 1) := by decide +kernel
theorem dX1_takeAllOut_6 : decode cX1_takeAllOut 6 = .ok (.dup, 1) := by decide +kernel
theorem dX1_takeAllOut_7 : decode cX1_takeAllOut 7 = .ok (.getfield 38, 3) := by decide +kernel
theorem dX1_takeAllOut_10 : decode cX1_takeAllOut 10 = .ok (.iconst 1, 1) := by decide +kernel
theorem dX1_takeAllOut_11 : decode cX1_takeAllOut 11 = .ok (.iadd, 1) := by decide +kernel
theorem dX1_takeAllOut_12 : decode cX1_takeAllOut 12 = .ok (.putfield 38, 3) := by decide +kernel
theorem dX1_takeAllOut_15 : decode cX1_takeAllOut 15 = .ok (.return_, 1) := by decide +kernel
theorem dX1_areAllFalling_0 : decode cX1_areAllFalling 0 = .ok (.iconst 0, 1) := by decide +kernel
theorem dX1_areAllFalling_1 : decode cX1_areAllFalling 1 = .ok (.istore_n 1, 1) := by decide +kernel
theorem dX1_areAllFalling_2 : decode cX1_areAllFalling 2 = .ok (.iload_n 1, 1) := by decide +kernel
theorem dX1_areAllFalling_3 : decode cX1_areAllFalling 3 = .ok (.aload_n 0, 1) := by decide +kernel
theorem dX1_areAllFalling_4 : decode cX1_areAllFalling 4 = .ok (.getfield 34, 3) := by decide +kernel
theorem dX1_areAllFalling_7 : decode cX1_areAllFalling 7 = .ok (.if_icmp .ge 19, 3) := by decide +kernel
theorem dX1_areAllFalling_10 : decode cX1_areAllFalling 10 = .ok (.aload_n 0, 1) := by decide +kernel
theorem dX1_areAllFalling_11 : decode cX1_areAllFalling 11 = .ok (.iload_n 1, 1) := by decide +kernel
theorem dX1_areAllFalling_12 : decode cX1_areAllFalling 12 = .ok (.invokevirtual 49, 3) := by decide +kernel
theorem dX1_areAllFalling_15 : decode cX1_areAllFalling 15 = .ok (.ifCond .ne 5, 3) := by decide +kernel
theorem dX1_areAllFalling_18 : decode cX1_areAllFalling 18 = .ok (.iconst 0, 1) := by decide +kernel
theorem dX1_areAllFalling_19 : decode cX1_areAllFalling 19 = .ok (.ireturn, 1) := by decide +kernel
theorem dX1_areAllFalling_20 : decode cX1_areAllFalling 20 = .ok (.iinc 1 1, 3) := by decide +kernel
theorem dX1_areAllFalling_23 : decode cX1_areAllFalling 23 = .ok (.goto (-21), 3) := by decide +kernel
theorem dX1_areAllFalling_26 : decode cX1_areAllFalling 26 = .ok (.iconst 1, 1) := by decide +kernel
theorem dX1_areAllFalling_27 : decode cX1_areAllFalling 27 = .ok (.ireturn, 1) := by decide +kernel
set_option maxRecDepth 20000 in
theorem ggX1_spotFrom_X1_ruleOf : GoodIn wsX1_spotFrom wsX1_ruleOf := goodIn_r _ [7] (by decide +kernel) (by decide +kernel)
set_option maxRecDepth 20000 in
theorem gX1_spotFrom_X1_ruleOf : GoodIn wsX1_spotFrom (va_wsS RX1 53 yX1_ruleOf wsX1_ruleOf) := goodIn_app (goodIn_of _ (by decide +kernel)) ggX1_spotFrom_X1_ruleOf
set_option maxRecDepth 20000 in
theorem ggX1_spotFrom_X1_placeOf : GoodIn wsX1_spotFrom wsX1_placeOf := goodIn_r _ [10] (by decide +kernel) (by decide +kernel)
set_option maxRecDepth 20000 in
theorem gX1_spotFrom_X1_placeOf : GoodIn wsX1_spotFrom (va_wsS RX1 57 yX1_placeOf wsX1_placeOf) := goodIn_app (goodIn_of _ (by decide +kernel)) ggX1_spotFrom_X1_placeOf
set_option maxRecDepth 20000 in
theorem ggX1_spotFrom_X2_holds : GoodIn wsX1_spotFrom wsX2_holds := goodIn_r _ [15, 16, 17, 18, 19] (by decide +kernel) (by decide +kernel)
set_option maxRecDepth 20000 in
theorem gX1_spotFrom_X2_holds : GoodIn wsX1_spotFrom (wsV RX1 63 RX2 yX2_holds wsX2_holds) := goodIn_app (goodIn_of _ (by decide +kernel)) ggX1_spotFrom_X2_holds
theorem dX1_spotFrom_0 : decode cX1_spotFrom 0 = .ok (.iload_n 2, 1) := by decide +kernel
theorem dX1_spotFrom_1 : decode cX1_spotFrom 1 = .ok (.invokestatic 53, 3) := by decide +kernel
theorem dX1_spotFrom_4 : decode cX1_spotFrom 4 = .ok (.istore_n 3, 1) := by decide +kernel
theorem dX1_spotFrom_5 : decode cX1_spotFrom 5 = .ok (.iload_n 2, 1) := by decide +kernel
theorem dX1_spotFrom_6 : decode cX1_spotFrom 6 = .ok (.invokestatic 57, 3) := by decide +kernel
theorem dX1_spotFrom_9 : decode cX1_spotFrom 9 = .ok (.istore 4, 2) := by decide +kernel
theorem dX1_spotFrom_11 : decode cX1_spotFrom 11 = .ok (.iload 4, 2) := by decide +kernel
theorem dX1_spotFrom_13 : decode cX1_spotFrom 13 = .ok (.aload_n 1, 1) := by decide +kernel
theorem dX1_spotFrom_14 : decode cX1_spotFrom 14 = .ok (.getfield 60, 3) := by decide +kernel
theorem dX1_spotFrom_17 : decode cX1_spotFrom 17 = .ok (.if_icmp .ge 48, 3) := by decide +kernel
theorem dX1_spotFrom_20 : decode cX1_spotFrom 20 = .ok (.iload_n 3, 1) := by decide +kernel
theorem dX1_spotFrom_21 : decode cX1_spotFrom 21 = .ok (.aload_n 0, 1) := by decide +kernel
theorem dX1_spotFrom_22 : decode cX1_spotFrom 22 = .ok (.getfield 34, 3) := by decide +kernel
theorem dX1_spotFrom_25 : decode cX1_spotFrom 25 = .ok (.if_icmp .ge 32, 3) := by decide +kernel
theorem dX1_spotFrom_28 : decode cX1_spotFrom 28 = .ok (.aload_n 1, 1) := by decide +kernel
theorem dX1_spotFrom_29 : decode cX1_spotFrom 29 = .ok (.aload_n 0, 1) := by decide +kernel
theorem dX1_spotFrom_30 : decode cX1_spotFrom 30 = .ok (.getfield 11, 3) := by decide +kernel
theorem dX1_spotFrom_33 : decode cX1_spotFrom 33 = .ok (.iload_n 3, 1) := by decide +kernel
theorem dX1_spotFrom_34 : decode cX1_spotFrom 34 = .ok (.aaload, 1) := by decide +kernel
theorem dX1_spotFrom_35 : decode cX1_spotFrom 35 = .ok (.iload 4, 2) := by decide +kernel
theorem dX1_spotFrom_37 : decode cX1_spotFrom 37 = .ok (.invokevirtual 63, 3) := by decide +kernel
theorem dX1_spotFrom_40 : decode cX1_spotFrom 40 = .ok (.ifCond .eq 11, 3) := by decide +kernel
theorem dX1_spotFrom_43 : decode cX1_spotFrom 43 = .ok (.iload 4, 2) := by decide +kernel
theorem dX1_spotFrom_45 : decode cX1_spotFrom 45 = .ok (.bipush 8, 2) := by decide +kernel
theorem dX1_spotFrom_47 : decode cX1_spotFrom 47 = .ok (.imul, 1) := by decide +kernel
theorem dX1_spotFrom_48 : decode cX1_spotFrom 48 = .ok (.iload_n 3, 1) := by decide +kernel
theorem dX1_spotFrom_49 : decode cX1_spotFrom 49 = .ok (.iadd, 1) := by decide +kernel
theorem dX1_spotFrom_50 : decode cX1_spotFrom 50 = .ok (.ireturn, 1) := by decide +kernel
theorem dX1_spotFrom_51 : decode cX1_spotFrom 51 = .ok (.iinc 3 1, 3) := by decide +kernel
theorem dX1_spotFrom_54 : decode cX1_spotFrom 54 = .ok (.goto (-34), 3) := by decide +kernel
theorem dX1_spotFrom_57 : decode cX1_spotFrom 57 = .ok (.iconst 0, 1) := by decide +kernel
theorem dX1_spotFrom_58 : decode cX1_spotFrom 58 = .ok (.istore_n 3, 1) := by decide +kernel
theorem dX1_spotFrom_59 : decode cX1_spotFrom 59 = .ok (.iinc 4 1, 3) := by decide +kernel
theorem dX1_spotFrom_62 : decode cX1_spotFrom 62 = .ok (.goto (-51), 3) := by decide +kernel
theorem dX1_spotFrom_65 : decode cX1_spotFrom 65 = .ok (.iconst (-1), 1) := by decide +kernel
theorem dX1_spotFrom_66 : decode cX1_spotFrom 66 = .ok (.ireturn, 1) := by decide +kernel
set_option maxRecDepth 20000 in
theorem ggX1_spotOfGreatestPlace_X2_holds : GoodIn wsX1_spotOfGreatestPlace wsX2_holds := goodIn_r _ [8, 9, 10, 11, 12] (by decide +kernel) (by decide +kernel)
set_option maxRecDepth 20000 in
theorem gX1_spotOfGreatestPlace_X2_holds : GoodIn wsX1_spotOfGreatestPlace (wsV RX1 63 RX2 yX2_holds wsX2_holds) := goodIn_app (goodIn_of _ (by decide +kernel)) ggX1_spotOfGreatestPlace_X2_holds
theorem dX1_spotOfGreatestPlace_0 : decode cX1_spotOfGreatestPlace 0 = .ok (.aload_n 1, 1) := by decide +kernel
theorem dX1_spotOfGreatestPlace_1 : decode cX1_spotOfGreatestPlace 1 = .ok (.getfield 60, 3) := by decide +kernel
theorem dX1_spotOfGreatestPlace_4 : decode cX1_spotOfGreatestPlace 4 = .ok (.iconst 1, 1) := by decide +kernel
theorem dX1_spotOfGreatestPlace_5 : decode cX1_spotOfGreatestPlace 5 = .ok (.isub, 1) := by decide +kernel
theorem dX1_spotOfGreatestPlace_6 : decode cX1_spotOfGreatestPlace 6 = .ok (.istore_n 2, 1) := by decide +kernel
theorem dX1_spotOfGreatestPlace_7 : decode cX1_spotOfGreatestPlace 7 = .ok (.iload_n 2, 1) := by decide +kernel
theorem dX1_spotOfGreatestPlace_8 : decode cX1_spotOfGreatestPlace 8 = .ok (.ifCond .lt 46, 3) := by decide +kernel
theorem dX1_spotOfGreatestPlace_11 : decode cX1_spotOfGreatestPlace 11 = .ok (.iconst 0, 1) := by decide +kernel
theorem dX1_spotOfGreatestPlace_12 : decode cX1_spotOfGreatestPlace 12 = .ok (.istore_n 3, 1) := by decide +kernel
theorem dX1_spotOfGreatestPlace_13 : decode cX1_spotOfGreatestPlace 13 = .ok (.iload_n 3, 1) := by decide +kernel
theorem dX1_spotOfGreatestPlace_14 : decode cX1_spotOfGreatestPlace 14 = .ok (.aload_n 0, 1) := by decide +kernel
theorem dX1_spotOfGreatestPlace_15 : decode cX1_spotOfGreatestPlace 15 = .ok (.getfield 34, 3) := by decide +kernel
theorem dX1_spotOfGreatestPlace_18 : decode cX1_spotOfGreatestPlace 18 = .ok (.if_icmp .ge 30, 3) := by decide +kernel
theorem dX1_spotOfGreatestPlace_21 : decode cX1_spotOfGreatestPlace 21 = .ok (.aload_n 1, 1) := by decide +kernel
theorem dX1_spotOfGreatestPlace_22 : decode cX1_spotOfGreatestPlace 22 = .ok (.aload_n 0, 1) := by decide +kernel
theorem dX1_spotOfGreatestPlace_23 : decode cX1_spotOfGreatestPlace 23 = .ok (.getfield 11, 3) := by decide +kernel
theorem dX1_spotOfGreatestPlace_26 : decode cX1_spotOfGreatestPlace 26 = .ok (.iload_n 3, 1) := by decide +kernel
theorem dX1_spotOfGreatestPlace_27 : decode cX1_spotOfGreatestPlace 27 = .ok (.aaload, 1) := by decide +kernel
theorem dX1_spotOfGreatestPlace_28 : decode cX1_spotOfGreatestPlace 28 = .ok (.iload_n 2, 1) := by decide +kernel
theorem dX1_spotOfGreatestPlace_29 : decode cX1_spotOfGreatestPlace 29 = .ok (.invokevirtual 63, 3) := by decide +kernel
theorem dX1_spotOfGreatestPlace_32 : decode cX1_spotOfGreatestPlace 32 = .ok (.ifCond .eq 10, 3) := by decide +kernel
theorem dX1_spotOfGreatestPlace_35 : decode cX1_spotOfGreatestPlace 35 = .ok (.iload_n 2, 1) := by decide +kernel
theorem dX1_spotOfGreatestPlace_36 : decode cX1_spotOfGreatestPlace 36 = .ok (.bipush 8, 2) := by decide +kernel
theorem dX1_spotOfGreatestPlace_38 : decode cX1_spotOfGreatestPlace 38 = .ok (.imul, 1) := by decide +kernel
theorem dX1_spotOfGreatestPlace_39 : decode cX1_spotOfGreatestPlace 39 = .ok (.iload_n 3, 1) := by decide +kernel
theorem dX1_spotOfGreatestPlace_40 : decode cX1_spotOfGreatestPlace 40 = .ok (.iadd, 1) := by decide +kernel
theorem dX1_spotOfGreatestPlace_41 : decode cX1_spotOfGreatestPlace 41 = .ok (.ireturn, 1) := by decide +kernel
theorem dX1_spotOfGreatestPlace_42 : decode cX1_spotOfGreatestPlace 42 = .ok (.iinc 3 1, 3) := by decide +kernel
theorem dX1_spotOfGreatestPlace_45 : decode cX1_spotOfGreatestPlace 45 = .ok (.goto (-32), 3) := by decide +kernel
theorem dX1_spotOfGreatestPlace_48 : decode cX1_spotOfGreatestPlace 48 = .ok (.iinc 2 (-1), 3) := by decide +kernel
theorem dX1_spotOfGreatestPlace_51 : decode cX1_spotOfGreatestPlace 51 = .ok (.goto (-44), 3) := by decide +kernel
theorem dX1_spotOfGreatestPlace_54 : decode cX1_spotOfGreatestPlace 54 = .ok (.iconst (-1), 1) := by decide +kernel
theorem dX1_spotOfGreatestPlace_55 : decode cX1_spotOfGreatestPlace 55 = .ok (.ireturn, 1) := by decide +kernel
set_option maxRecDepth 20000 in
theorem ggX1_spotOfLeastRule_X2_holds : GoodIn wsX1_spotOfLeastRule wsX2_holds := goodIn_r _ [8, 9, 10, 19, 20] (by decide +kernel) (by decide +kernel)
set_option maxRecDepth 20000 in
theorem gX1_spotOfLeastRule_X2_holds : GoodIn wsX1_spotOfLeastRule (wsV RX1 63 RX2 yX2_holds wsX2_holds) := goodIn_app (goodIn_of _ (by decide +kernel)) ggX1_spotOfLeastRule_X2_holds
theorem dX1_spotOfLeastRule_0 : decode cX1_spotOfLeastRule 0 = .ok (.iconst 0, 1) := by decide +kernel
theorem dX1_spotOfLeastRule_1 : decode cX1_spotOfLeastRule 1 = .ok (.istore_n 2, 1) := by decide +kernel
theorem dX1_spotOfLeastRule_2 : decode cX1_spotOfLeastRule 2 = .ok (.iload_n 2, 1) := by decide +kernel
theorem dX1_spotOfLeastRule_3 : decode cX1_spotOfLeastRule 3 = .ok (.aload_n 0, 1) := by decide +kernel
theorem dX1_spotOfLeastRule_4 : decode cX1_spotOfLeastRule 4 = .ok (.getfield 34, 3) := by decide +kernel
theorem dX1_spotOfLeastRule_7 : decode cX1_spotOfLeastRule 7 = .ok (.if_icmp .ge 46, 3) := by decide +kernel
theorem dX1_spotOfLeastRule_10 : decode cX1_spotOfLeastRule 10 = .ok (.iconst 0, 1) := by decide +kernel
theorem dX1_spotOfLeastRule_11 : decode cX1_spotOfLeastRule 11 = .ok (.istore_n 3, 1) := by decide +kernel
theorem dX1_spotOfLeastRule_12 : decode cX1_spotOfLeastRule 12 = .ok (.iload_n 3, 1) := by decide +kernel
theorem dX1_spotOfLeastRule_13 : decode cX1_spotOfLeastRule 13 = .ok (.aload_n 1, 1) := by decide +kernel
theorem dX1_spotOfLeastRule_14 : decode cX1_spotOfLeastRule 14 = .ok (.getfield 60, 3) := by decide +kernel
theorem dX1_spotOfLeastRule_17 : decode cX1_spotOfLeastRule 17 = .ok (.if_icmp .ge 30, 3) := by decide +kernel
theorem dX1_spotOfLeastRule_20 : decode cX1_spotOfLeastRule 20 = .ok (.aload_n 1, 1) := by decide +kernel
theorem dX1_spotOfLeastRule_21 : decode cX1_spotOfLeastRule 21 = .ok (.aload_n 0, 1) := by decide +kernel
theorem dX1_spotOfLeastRule_22 : decode cX1_spotOfLeastRule 22 = .ok (.getfield 11, 3) := by decide +kernel
theorem dX1_spotOfLeastRule_25 : decode cX1_spotOfLeastRule 25 = .ok (.iload_n 2, 1) := by decide +kernel
theorem dX1_spotOfLeastRule_26 : decode cX1_spotOfLeastRule 26 = .ok (.aaload, 1) := by decide +kernel
theorem dX1_spotOfLeastRule_27 : decode cX1_spotOfLeastRule 27 = .ok (.iload_n 3, 1) := by decide +kernel
theorem dX1_spotOfLeastRule_28 : decode cX1_spotOfLeastRule 28 = .ok (.invokevirtual 63, 3) := by decide +kernel
theorem dX1_spotOfLeastRule_31 : decode cX1_spotOfLeastRule 31 = .ok (.ifCond .eq 10, 3) := by decide +kernel
theorem dX1_spotOfLeastRule_34 : decode cX1_spotOfLeastRule 34 = .ok (.iload_n 3, 1) := by decide +kernel
theorem dX1_spotOfLeastRule_35 : decode cX1_spotOfLeastRule 35 = .ok (.bipush 8, 2) := by decide +kernel
theorem dX1_spotOfLeastRule_37 : decode cX1_spotOfLeastRule 37 = .ok (.imul, 1) := by decide +kernel
theorem dX1_spotOfLeastRule_38 : decode cX1_spotOfLeastRule 38 = .ok (.iload_n 2, 1) := by decide +kernel
theorem dX1_spotOfLeastRule_39 : decode cX1_spotOfLeastRule 39 = .ok (.iadd, 1) := by decide +kernel
theorem dX1_spotOfLeastRule_40 : decode cX1_spotOfLeastRule 40 = .ok (.ireturn, 1) := by decide +kernel
theorem dX1_spotOfLeastRule_41 : decode cX1_spotOfLeastRule 41 = .ok (.iinc 3 1, 3) := by decide +kernel
theorem dX1_spotOfLeastRule_44 : decode cX1_spotOfLeastRule 44 = .ok (.goto (-32), 3) := by decide +kernel
theorem dX1_spotOfLeastRule_47 : decode cX1_spotOfLeastRule 47 = .ok (.iinc 2 1, 3) := by decide +kernel
theorem dX1_spotOfLeastRule_50 : decode cX1_spotOfLeastRule 50 = .ok (.goto (-48), 3) := by decide +kernel
theorem dX1_spotOfLeastRule_53 : decode cX1_spotOfLeastRule 53 = .ok (.iconst (-1), 1) := by decide +kernel
theorem dX1_spotOfLeastRule_54 : decode cX1_spotOfLeastRule 54 = .ok (.ireturn, 1) := by decide +kernel
set_option maxRecDepth 20000 in
theorem ggX1_spotByWay_X1_spotOfGreatestPlace : GoodIn wsX1_spotByWay wsX1_spotOfGreatestPlace := goodIn_r _ [5, 6, 7, 8, 9, 10, 11, 12, 13, 14, 15, 30, 31, 32, 33, 34, 35, 36, 37, 38, 39] (by decide +kernel) (by decide +kernel)
set_option maxRecDepth 20000 in
theorem gX1_spotByWay_X1_spotOfGreatestPlace : GoodIn wsX1_spotByWay (wsV RX1 67 RX1 yX1_spotOfGreatestPlace wsX1_spotOfGreatestPlace) := goodIn_app (goodIn_of _ (by decide +kernel)) ggX1_spotByWay_X1_spotOfGreatestPlace
set_option maxRecDepth 20000 in
theorem ggX1_spotByWay_X1_spotOfLeastRule : GoodIn wsX1_spotByWay wsX1_spotOfLeastRule := goodIn_r _ [19, 7, 6, 8, 9, 10, 11, 12, 13, 14, 15, 32, 33, 34, 35, 36, 37, 38, 39, 30, 31] (by decide +kernel) (by decide +kernel)
set_option maxRecDepth 20000 in
theorem gX1_spotByWay_X1_spotOfLeastRule : GoodIn wsX1_spotByWay (wsV RX1 70 RX1 yX1_spotOfLeastRule wsX1_spotOfLeastRule) := goodIn_app (goodIn_of _ (by decide +kernel)) ggX1_spotByWay_X1_spotOfLeastRule
set_option maxRecDepth 20000 in
theorem ggX1_spotByWay_X1_spotFrom : GoodIn wsX1_spotByWay wsX1_spotFrom := goodIn_r _ [23, 6, 7, 8, 24, 25, 4, 26, 27, 28, 29, 9, 10, 11, 12, 13, 14, 15, 30, 31, 32, 33, 34, 35, 36, 37, 38, 39] (by decide +kernel) (by decide +kernel)
set_option maxRecDepth 20000 in
theorem gX1_spotByWay_X1_spotFrom : GoodIn wsX1_spotByWay (wsV RX1 73 RX1 yX1_spotFrom wsX1_spotFrom) := goodIn_app (goodIn_of _ (by decide +kernel)) ggX1_spotByWay_X1_spotFrom
theorem dX1_spotByWay_0 : decode cX1_spotByWay 0 = .ok (.iload_n 2, 1) := by decide +kernel
theorem dX1_spotByWay_1 : decode cX1_spotByWay 1 = .ok (.lookupswitch 39 #[(1, 27), (2, 33)], 27) := by decide +kernel
theorem dX1_spotByWay_28 : decode cX1_spotByWay 28 = .ok (.aload_n 0, 1) := by decide +kernel
theorem dX1_spotByWay_29 : decode cX1_spotByWay 29 = .ok (.aload_n 1, 1) := by decide +kernel
theorem dX1_spotByWay_30 : decode cX1_spotByWay 30 = .ok (.invokevirtual 67, 3) := by decide +kernel
theorem dX1_spotByWay_33 : decode cX1_spotByWay 33 = .ok (.ireturn, 1) := by decide +kernel
theorem dX1_spotByWay_34 : decode cX1_spotByWay 34 = .ok (.aload_n 0, 1) := by decide +kernel
theorem dX1_spotByWay_35 : decode cX1_spotByWay 35 = .ok (.aload_n 1, 1) := by decide +kernel
theorem dX1_spotByWay_36 : decode cX1_spotByWay 36 = .ok (.invokevirtual 70, 3) := by decide +kernel
theorem dX1_spotByWay_39 : decode cX1_spotByWay 39 = .ok (.ireturn, 1) := by decide +kernel
theorem dX1_spotByWay_40 : decode cX1_spotByWay 40 = .ok (.aload_n 0, 1) := by decide +kernel
theorem dX1_spotByWay_41 : decode cX1_spotByWay 41 = .ok (.aload_n 1, 1) := by decide +kernel
theorem dX1_spotByWay_42 : decode cX1_spotByWay 42 = .ok (.iconst 0, 1) := by decide +kernel
theorem dX1_spotByWay_43 : decode cX1_spotByWay 43 = .ok (.invokevirtual 73, 3) := by decide +kernel
theorem dX1_spotByWay_46 : decode cX1_spotByWay 46 = .ok (.ireturn, 1) := by decide +kernel
set_option maxRecDepth 20000 in
theorem ggX1_countSpots_X2_holds : GoodIn wsX1_countSpots wsX2_holds := goodIn_r _ [8, 9, 10, 11, 12] (by decide +kernel) (by decide +kernel)
set_option maxRecDepth 20000 in
theorem gX1_countSpots_X2_holds : GoodIn wsX1_countSpots (wsV RX1 63 RX2 yX2_holds wsX2_holds) := goodIn_app (goodIn_of _ (by decide +kernel)) ggX1_countSpots_X2_holds
theorem dX1_countSpots_0 : decode cX1_countSpots 0 = .ok (.iconst 0, 1) := by decide +kernel
theorem dX1_countSpots_1 : decode cX1_countSpots 1 = .ok (.istore_n 2, 1) := by decide +kernel
theorem dX1_countSpots_2 : decode cX1_countSpots 2 = .ok (.iconst 0, 1) := by decide +kernel
theorem dX1_countSpots_3 : decode cX1_countSpots 3 = .ok (.istore_n 3, 1) := by decide +kernel
theorem dX1_countSpots_4 : decode cX1_countSpots 4 = .ok (.iload_n 3, 1) := by decide +kernel
theorem dX1_countSpots_5 : decode cX1_countSpots 5 = .ok (.aload_n 1, 1) := by decide +kernel
theorem dX1_countSpots_6 : decode cX1_countSpots 6 = .ok (.getfield 60, 3) := by decide +kernel
theorem dX1_countSpots_9 : decode cX1_countSpots 9 = .ok (.if_icmp .ge 45, 3) := by decide +kernel
theorem dX1_countSpots_12 : decode cX1_countSpots 12 = .ok (.iconst 0, 1) := by decide +kernel
theorem dX1_countSpots_13 : decode cX1_countSpots 13 = .ok (.istore 4, 2) := by decide +kernel
theorem dX1_countSpots_15 : decode cX1_countSpots 15 = .ok (.iload 4, 2) := by decide +kernel
theorem dX1_countSpots_17 : decode cX1_countSpots 17 = .ok (.aload_n 0, 1) := by decide +kernel
theorem dX1_countSpots_18 : decode cX1_countSpots 18 = .ok (.getfield 34, 3) := by decide +kernel
theorem dX1_countSpots_21 : decode cX1_countSpots 21 = .ok (.if_icmp .ge 27, 3) := by decide +kernel
theorem dX1_countSpots_24 : decode cX1_countSpots 24 = .ok (.aload_n 1, 1) := by decide +kernel
theorem dX1_countSpots_25 : decode cX1_countSpots 25 = .ok (.aload_n 0, 1) := by decide +kernel
theorem dX1_countSpots_26 : decode cX1_countSpots 26 = .ok (.getfield 11, 3) := by decide +kernel
theorem dX1_countSpots_29 : decode cX1_countSpots 29 = .ok (.iload 4, 2) := by decide +kernel
theorem dX1_countSpots_31 : decode cX1_countSpots 31 = .ok (.aaload, 1) := by decide +kernel
theorem dX1_countSpots_32 : decode cX1_countSpots 32 = .ok (.iload_n 3, 1) := by decide +kernel
theorem dX1_countSpots_33 : decode cX1_countSpots 33 = .ok (.invokevirtual 63, 3) := by decide +kernel
theorem dX1_countSpots_36 : decode cX1_countSpots 36 = .ok (.ifCond .eq 6, 3) := by decide +kernel
theorem dX1_countSpots_39 : decode cX1_countSpots 39 = .ok (.iinc 2 1, 3) := by decide +kernel
theorem dX1_countSpots_42 : decode cX1_countSpots 42 = .ok (.iinc 4 1, 3) := by decide +kernel
theorem dX1_countSpots_45 : decode cX1_countSpots 45 = .ok (.goto (-30), 3) := by decide +kernel
theorem dX1_countSpots_48 : decode cX1_countSpots 48 = .ok (.iinc 3 1, 3) := by decide +kernel
theorem dX1_countSpots_51 : decode cX1_countSpots 51 = .ok (.goto (-47), 3) := by decide +kernel
theorem dX1_countSpots_54 : decode cX1_countSpots 54 = .ok (.iload_n 2, 1) := by decide +kernel
theorem dX1_countSpots_55 : decode cX1_countSpots 55 = .ok (.ireturn, 1) := by decide +kernel
set_option maxRecDepth 20000 in
theorem ggX1_spotOfNumber_X1_spotFrom : GoodIn wsX1_spotOfNumber wsX1_spotFrom := goodIn_r _ [6, 1, 7, 8, 9, 10, 5, 11, 12, 13, 14, 15, 16, 17, 18, 19, 20, 21, 22, 23, 24, 25, 26, 27, 28, 29, 30, 31] (by decide +kernel) (by decide +kernel)
set_option maxRecDepth 20000 in
theorem gX1_spotOfNumber_X1_spotFrom : GoodIn wsX1_spotOfNumber (wsV RX1 73 RX1 yX1_spotFrom wsX1_spotFrom) := goodIn_app (goodIn_of _ (by decide +kernel)) ggX1_spotOfNumber_X1_spotFrom
theorem dX1_spotOfNumber_0 : decode cX1_spotOfNumber 0 = .ok (.iload_n 2, 1) := by decide +kernel
theorem dX1_spotOfNumber_1 : decode cX1_spotOfNumber 1 = .ok (.ifCond .lt 14, 3) := by decide +kernel
theorem dX1_spotOfNumber_4 : decode cX1_spotOfNumber 4 = .ok (.iload_n 2, 1) := by decide +kernel
theorem dX1_spotOfNumber_5 : decode cX1_spotOfNumber 5 = .ok (.aload_n 1, 1) := by decide +kernel
theorem dX1_spotOfNumber_6 : decode cX1_spotOfNumber 6 = .ok (.getfield 60, 3) := by decide +kernel
theorem dX1_spotOfNumber_9 : decode cX1_spotOfNumber 9 = .ok (.bipush 8, 2) := by decide +kernel
theorem dX1_spotOfNumber_11 : decode cX1_spotOfNumber 11 = .ok (.imul, 1) := by decide +kernel
theorem dX1_spotOfNumber_12 : decode cX1_spotOfNumber 12 = .ok (.if_icmp .lt 5, 3) := by decide +kernel
theorem dX1_spotOfNumber_15 : decode cX1_spotOfNumber 15 = .ok (.iconst (-1), 1) := by decide +kernel
theorem dX1_spotOfNumber_16 : decode cX1_spotOfNumber 16 = .ok (.ireturn, 1) := by decide +kernel
theorem dX1_spotOfNumber_17 : decode cX1_spotOfNumber 17 = .ok (.aload_n 0, 1) := by decide +kernel
theorem dX1_spotOfNumber_18 : decode cX1_spotOfNumber 18 = .ok (.aload_n 1, 1) := by decide +kernel
theorem dX1_spotOfNumber_19 : decode cX1_spotOfNumber 19 = .ok (.iconst 0, 1) := by decide +kernel
theorem dX1_spotOfNumber_20 : decode cX1_spotOfNumber 20 = .ok (.invokevirtual 73, 3) := by decide +kernel
theorem dX1_spotOfNumber_23 : decode cX1_spotOfNumber 23 = .ok (.istore_n 3, 1) := by decide +kernel
theorem dX1_spotOfNumber_24 : decode cX1_spotOfNumber 24 = .ok (.iconst 0, 1) := by decide +kernel
theorem dX1_spotOfNumber_25 : decode cX1_spotOfNumber 25 = .ok (.istore 4, 2) := by decide +kernel
theorem dX1_spotOfNumber_27 : decode cX1_spotOfNumber 27 = .ok (.iload 4, 2) := by decide +kernel
theorem dX1_spotOfNumber_29 : decode cX1_spotOfNumber 29 = .ok (.iload_n 2, 1) := by decide +kernel
theorem dX1_spotOfNumber_30 : decode cX1_spotOfNumber 30 = .ok (.if_icmp .ge 23, 3) := by decide +kernel
theorem dX1_spotOfNumber_33 : decode cX1_spotOfNumber 33 = .ok (.iload_n 3, 1) := by decide +kernel
theorem dX1_spotOfNumber_34 : decode cX1_spotOfNumber 34 = .ok (.iconst (-1), 1) := by decide +kernel
theorem dX1_spotOfNumber_35 : decode cX1_spotOfNumber 35 = .ok (.if_icmp .eq 18, 3) := by decide +kernel
theorem dX1_spotOfNumber_38 : decode cX1_spotOfNumber 38 = .ok (.aload_n 0, 1) := by decide +kernel
theorem dX1_spotOfNumber_39 : decode cX1_spotOfNumber 39 = .ok (.aload_n 1, 1) := by decide +kernel
theorem dX1_spotOfNumber_40 : decode cX1_spotOfNumber 40 = .ok (.iload_n 3, 1) := by decide +kernel
theorem dX1_spotOfNumber_41 : decode cX1_spotOfNumber 41 = .ok (.iconst 1, 1) := by decide +kernel
theorem dX1_spotOfNumber_42 : decode cX1_spotOfNumber 42 = .ok (.iadd, 1) := by decide +kernel
theorem dX1_spotOfNumber_43 : decode cX1_spotOfNumber 43 = .ok (.invokevirtual 73, 3) := by decide +kernel
theorem dX1_spotOfNumber_46 : decode cX1_spotOfNumber 46 = .ok (.istore_n 3, 1) := by decide +kernel
theorem dX1_spotOfNumber_47 : decode cX1_spotOfNumber 47 = .ok (.iinc 4 1, 3) := by decide +kernel
theorem dX1_spotOfNumber_50 : decode cX1_spotOfNumber 50 = .ok (.goto (-23), 3) := by decide +kernel
theorem dX1_spotOfNumber_53 : decode cX1_spotOfNumber 53 = .ok (.iload_n 3, 1) := by decide +kernel
theorem dX1_spotOfNumber_54 : decode cX1_spotOfNumber 54 = .ok (.ireturn, 1) := by decide +kernel
set_option maxRecDepth 20000 in
theorem ggX1_isDone_X1_spotFrom : GoodIn wsX1_isDone wsX1_spotFrom := goodIn_r _ [5, 6, 7, 8, 9, 10, 4, 11, 12, 13, 14, 15, 16, 17, 18, 19, 20, 21, 22, 23, 24, 25, 26, 27, 28, 29, 30, 31] (by decide +kernel) (by decide +kernel)
set_option maxRecDepth 20000 in
theorem gX1_isDone_X1_spotFrom : GoodIn wsX1_isDone (wsV RX1 73 RX1 yX1_spotFrom wsX1_spotFrom) := goodIn_app (goodIn_of _ (by decide +kernel)) ggX1_isDone_X1_spotFrom
theorem dX1_isDone_0 : decode cX1_isDone 0 = .ok (.aload_n 0, 1) := by decide +kernel
theorem dX1_isDone_1 : decode cX1_isDone 1 = .ok (.aload_n 1, 1) := by decide +kernel
theorem dX1_isDone_2 : decode cX1_isDone 2 = .ok (.iconst 0, 1) := by decide +kernel
theorem dX1_isDone_3 : decode cX1_isDone 3 = .ok (.invokevirtual 73, 3) := by decide +kernel
theorem dX1_isDone_6 : decode cX1_isDone 6 = .ok (.iconst (-1), 1) := by decide +kernel
theorem dX1_isDone_7 : decode cX1_isDone 7 = .ok (.if_icmp .ne 7, 3) := by decide +kernel
theorem dX1_isDone_10 : decode cX1_isDone 10 = .ok (.iconst 1, 1) := by decide +kernel
theorem dX1_isDone_11 : decode cX1_isDone 11 = .ok (.goto 4, 3) := by decide +kernel
theorem dX1_isDone_14 : decode cX1_isDone 14 = .ok (.iconst 0, 1) := by decide +kernel
theorem dX1_isDone_15 : decode cX1_isDone 15 = .ok (.ireturn, 1) := by decide +kernel
set_option maxRecDepth 20000 in
theorem ggX1_rewriteByWay_X1_spotByWay : GoodIn wsX1_rewriteByWay wsX1_spotByWay := goodIn_r _ [5, 6, 7, 8, 4, 9, 10, 11, 12, 13, 14, 15, 16, 17, 18, 19, 20, 21, 22, 23, 24, 25, 26, 27, 28, 29, 30, 31, 32, 33, 51, 52, 53, 54, 55, 56, 57, 58, 59, 60] (by decide +kernel) (by decide +kernel)
set_option maxRecDepth 20000 in
theorem gX1_rewriteByWay_X1_spotByWay : GoodIn wsX1_rewriteByWay (wsV RX1 81 RX1 yX1_spotByWay wsX1_spotByWay) := goodIn_app (goodIn_of _ (by decide +kernel)) ggX1_rewriteByWay_X1_spotByWay
theorem dX1_rewriteByWay_0 : decode cX1_rewriteByWay 0 = .ok (.iconst 0, 1) := by decide +kernel
theorem dX1_rewriteByWay_1 : decode cX1_rewriteByWay 1 = .ok (.istore 4, 2) := by decide +kernel
theorem dX1_rewriteByWay_3 : decode cX1_rewriteByWay 3 = .ok (.iload 4, 2) := by decide +kernel
theorem dX1_rewriteByWay_5 : decode cX1_rewriteByWay 5 = .ok (.iload_n 3, 1) := by decide +kernel
theorem dX1_rewriteByWay_6 : decode cX1_rewriteByWay 6 = .ok (.if_icmp .ge 43, 3) := by decide +kernel
theorem dX1_rewriteByWay_9 : decode cX1_rewriteByWay 9 = .ok (.aload_n 0, 1) := by decide +kernel
theorem dX1_rewriteByWay_10 : decode cX1_rewriteByWay 10 = .ok (.aload_n 1, 1) := by decide +kernel
theorem dX1_rewriteByWay_11 : decode cX1_rewriteByWay 11 = .ok (.iload_n 2, 1) := by decide +kernel
theorem dX1_rewriteByWay_12 : decode cX1_rewriteByWay 12 = .ok (.invokevirtual 81, 3) := by decide +kernel
theorem dX1_rewriteByWay_15 : decode cX1_rewriteByWay 15 = .ok (.istore 5, 2) := by decide +kernel
theorem dX1_rewriteByWay_17 : decode cX1_rewriteByWay 17 = .ok (.iload 5, 2) := by decide +kernel
theorem dX1_rewriteByWay_19 : decode cX1_rewriteByWay 19 = .ok (.iconst (-1), 1) := by decide +kernel
theorem dX1_rewriteByWay_20 : decode cX1_rewriteByWay 20 = .ok (.if_icmp .eq 13, 3) := by decide +kernel
theorem dX1_rewriteByWay_23 : decode cX1_rewriteByWay 23 = .ok (.aload_n 0, 1) := by decide +kernel
theorem dX1_rewriteByWay_24 : decode cX1_rewriteByWay 24 = .ok (.aload_n 1, 1) := by decide +kernel
theorem dX1_rewriteByWay_25 : decode cX1_rewriteByWay 25 = .ok (.iload 5, 2) := by decide +kernel
theorem dX1_rewriteByWay_27 : decode cX1_rewriteByWay 27 = .ok (.invokevirtual 84, 3) := by decide +kernel
theorem dX1_rewriteByWay_30 : decode cX1_rewriteByWay 30 = .ok (.ifCond .ne 6, 3) := by decide +kernel
theorem dX1_rewriteByWay_33 : decode cX1_rewriteByWay 33 = .ok (.iload 4, 2) := by decide +kernel
theorem dX1_rewriteByWay_35 : decode cX1_rewriteByWay 35 = .ok (.ireturn, 1) := by decide +kernel
theorem dX1_rewriteByWay_36 : decode cX1_rewriteByWay 36 = .ok (.aload_n 0, 1) := by decide +kernel
theorem dX1_rewriteByWay_37 : decode cX1_rewriteByWay 37 = .ok (.aload_n 1, 1) := by decide +kernel
theorem dX1_rewriteByWay_38 : decode cX1_rewriteByWay 38 = .ok (.iload 5, 2) := by decide +kernel
theorem dX1_rewriteByWay_40 : decode cX1_rewriteByWay 40 = .ok (.invokevirtual 87, 3) := by decide +kernel
theorem dX1_rewriteByWay_43 : decode cX1_rewriteByWay 43 = .ok (.iinc 4 1, 3) := by decide +kernel
theorem dX1_rewriteByWay_46 : decode cX1_rewriteByWay 46 = .ok (.goto (-43), 3) := by decide +kernel
theorem dX1_rewriteByWay_49 : decode cX1_rewriteByWay 49 = .ok (.iload_n 3, 1) := by decide +kernel
theorem dX1_rewriteByWay_50 : decode cX1_rewriteByWay 50 = .ok (.ireturn, 1) := by decide +kernel
set_option maxRecDepth 20000 in
theorem ggX1_toForm_X1_spotFrom : GoodIn wsX1_toForm wsX1_spotFrom := goodIn_r _ [5, 6, 7, 8, 9, 10, 4, 11, 12, 13, 14, 15, 16, 17, 18, 19, 20, 21, 39, 40, 41, 42, 43, 44, 45, 46, 47, 48] (by decide +kernel) (by decide +kernel)
set_option maxRecDepth 20000 in
theorem gX1_toForm_X1_spotFrom : GoodIn wsX1_toForm (wsV RX1 73 RX1 yX1_spotFrom wsX1_spotFrom) := goodIn_app (goodIn_of _ (by decide +kernel)) ggX1_toForm_X1_spotFrom
theorem dX1_toForm_0 : decode cX1_toForm 0 = .ok (.iconst 0, 1) := by decide +kernel
theorem dX1_toForm_1 : decode cX1_toForm 1 = .ok (.istore_n 2, 1) := by decide +kernel
theorem dX1_toForm_2 : decode cX1_toForm 2 = .ok (.iload_n 2, 1) := by decide +kernel
theorem dX1_toForm_3 : decode cX1_toForm 3 = .ok (.bipush 40, 2) := by decide +kernel
theorem dX1_toForm_5 : decode cX1_toForm 5 = .ok (.if_icmp .ge 37, 3) := by decide +kernel
theorem dX1_toForm_8 : decode cX1_toForm 8 = .ok (.aload_n 0, 1) := by decide +kernel
theorem dX1_toForm_9 : decode cX1_toForm 9 = .ok (.aload_n 1, 1) := by decide +kernel
theorem dX1_toForm_10 : decode cX1_toForm 10 = .ok (.iconst 0, 1) := by decide +kernel
theorem dX1_toForm_11 : decode cX1_toForm 11 = .ok (.invokevirtual 73, 3) := by decide +kernel
theorem dX1_toForm_14 : decode cX1_toForm 14 = .ok (.istore_n 3, 1) := by decide +kernel
theorem dX1_toForm_15 : decode cX1_toForm 15 = .ok (.iload_n 3, 1) := by decide +kernel
theorem dX1_toForm_16 : decode cX1_toForm 16 = .ok (.iconst (-1), 1) := by decide +kernel
theorem dX1_toForm_17 : decode cX1_toForm 17 = .ok (.if_icmp .eq 12, 3) := by decide +kernel
theorem dX1_toForm_20 : decode cX1_toForm 20 = .ok (.aload_n 0, 1) := by decide +kernel
theorem dX1_toForm_21 : decode cX1_toForm 21 = .ok (.aload_n 1, 1) := by decide +kernel
theorem dX1_toForm_22 : decode cX1_toForm 22 = .ok (.iload_n 3, 1) := by decide +kernel
theorem dX1_toForm_23 : decode cX1_toForm 23 = .ok (.invokevirtual 84, 3) := by decide +kernel
theorem dX1_toForm_26 : decode cX1_toForm 26 = .ok (.ifCond .ne 4, 3) := by decide +kernel
theorem dX1_toForm_29 : decode cX1_toForm 29 = .ok (.return_, 1) := by decide +kernel
theorem dX1_toForm_30 : decode cX1_toForm 30 = .ok (.aload_n 0, 1) := by decide +kernel
theorem dX1_toForm_31 : decode cX1_toForm 31 = .ok (.aload_n 1, 1) := by decide +kernel
theorem dX1_toForm_32 : decode cX1_toForm 32 = .ok (.iload_n 3, 1) := by decide +kernel
theorem dX1_toForm_33 : decode cX1_toForm 33 = .ok (.invokevirtual 87, 3) := by decide +kernel
theorem dX1_toForm_36 : decode cX1_toForm 36 = .ok (.iinc 2 1, 3) := by decide +kernel
theorem dX1_toForm_39 : decode cX1_toForm 39 = .ok (.goto (-37), 3) := by decide +kernel
theorem dX1_toForm_42 : decode cX1_toForm 42 = .ok (.return_, 1) := by decide +kernel
theorem dX2_init_0 : decode cX2_init 0 = .ok (.aload_n 0, 1) := by decide +kernel
theorem dX2_init_1 : decode cX2_init 1 = .ok (.invokespecial 3, 3) := by decide +kernel
theorem dX2_init_4 : decode cX2_init 4 = .ok (.aload_n 0, 1) := by decide +kernel
theorem dX2_init_5 : decode cX2_init 5 = .ok (.bipush 64, 2) := by decide +kernel
theorem dX2_init_7 : decode cX2_init 7 = .ok (.newarray .byte, 2) := by decide +kernel
theorem dX2_init_9 : decode cX2_init 9 = .ok (.putfield 11, 3) := by decide +kernel
theorem dX2_init_12 : decode cX2_init 12 = .ok (.aload_n 0, 1) := by decide +kernel
theorem dX2_init_13 : decode cX2_init 13 = .ok (.iconst 0, 1) := by decide +kernel
theorem dX2_init_14 : decode cX2_init 14 = .ok (.putfield 15, 3) := by decide +kernel
theorem dX2_init_17 : decode cX2_init 17 = .ok (.return_, 1) := by decide +kernel
theorem dX2_makeEmpty_0 : decode cX2_makeEmpty 0 = .ok (.aload_n 0, 1) := by decide +kernel
theorem dX2_makeEmpty_1 : decode cX2_makeEmpty 1 = .ok (.iconst 0, 1) := by decide +kernel
theorem dX2_makeEmpty_2 : decode cX2_makeEmpty 2 = .ok (.putfield 15, 3) := by decide +kernel
theorem dX2_makeEmpty_5 : decode cX2_makeEmpty 5 = .ok (.return_, 1) := by decide +kernel
theorem dX2_addPart_0 : decode cX2_addPart 0 = .ok (.iload_n 3, 1) := by decide +kernel
theorem dX2_addPart_1 : decode cX2_addPart 1 = .ok (.iload_n 2, 1) := by decide +kernel
theorem dX2_addPart_2 : decode cX2_addPart 2 = .ok (.isub, 1) := by decide +kernel
theorem dX2_addPart_3 : decode cX2_addPart 3 = .ok (.istore 4, 2) := by decide +kernel
theorem dX2_addPart_5 : decode cX2_addPart 5 = .ok (.iload_n 2, 1) := by decide +kernel
theorem dX2_addPart_6 : decode cX2_addPart 6 = .ok (.ifCond .lt 28, 3) := by decide +kernel
theorem dX2_addPart_9 : decode cX2_addPart 9 = .ok (.iload 4, 2) := by decide +kernel
theorem dX2_addPart_11 : decode cX2_addPart 11 = .ok (.ifCond .lt 23, 3) := by decide +kernel
theorem dX2_addPart_14 : decode cX2_addPart 14 = .ok (.iload_n 3, 1) := by decide +kernel
theorem dX2_addPart_15 : decode cX2_addPart 15 = .ok (.aload_n 1, 1) := by decide +kernel
theorem dX2_addPart_16 : decode cX2_addPart 16 = .ok (.getfield 15, 3) := by decide +kernel
theorem dX2_addPart_19 : decode cX2_addPart 19 = .ok (.if_icmp .gt 15, 3) := by decide +kernel
theorem dX2_addPart_22 : decode cX2_addPart 22 = .ok (.aload_n 0, 1) := by decide +kernel
theorem dX2_addPart_23 : decode cX2_addPart 23 = .ok (.getfield 15, 3) := by decide +kernel
theorem dX2_addPart_26 : decode cX2_addPart 26 = .ok (.iload 4, 2) := by decide +kernel
theorem dX2_addPart_28 : decode cX2_addPart 28 = .ok (.iadd, 1) := by decide +kernel
theorem dX2_addPart_29 : decode cX2_addPart 29 = .ok (.bipush 64, 2) := by decide +kernel
theorem dX2_addPart_31 : decode cX2_addPart 31 = .ok (.if_icmp .le 4, 3) := by decide +kernel
theorem dX2_addPart_34 : decode cX2_addPart 34 = .ok (.return_, 1) := by decide +kernel
theorem dX2_addPart_35 : decode cX2_addPart 35 = .ok (.aload_n 1, 1) := by decide +kernel
theorem dX2_addPart_36 : decode cX2_addPart 36 = .ok (.getfield 11, 3) := by decide +kernel
theorem dX2_addPart_39 : decode cX2_addPart 39 = .ok (.iload_n 2, 1) := by decide +kernel
theorem dX2_addPart_40 : decode cX2_addPart 40 = .ok (.aload_n 0, 1) := by decide +kernel
theorem dX2_addPart_41 : decode cX2_addPart 41 = .ok (.getfield 11, 3) := by decide +kernel
theorem dX2_addPart_44 : decode cX2_addPart 44 = .ok (.aload_n 0, 1) := by decide +kernel
theorem dX2_addPart_45 : decode cX2_addPart 45 = .ok (.getfield 15, 3) := by decide +kernel
theorem dX2_addPart_48 : decode cX2_addPart 48 = .ok (.iload 4, 2) := by decide +kernel
theorem dX2_addPart_50 : decode cX2_addPart 50 = .ok (.invokestatic 19, 3) := by decide +kernel
theorem dX2_addPart_53 : decode cX2_addPart 53 = .ok (.aload_n 0, 1) := by decide +kernel
theorem dX2_addPart_54 : decode cX2_addPart 54 = .ok (.dup, 1) := by decide +kernel
theorem dX2_addPart_55 : decode cX2_addPart 55 = .ok (.getfield 15, 3) := by decide +kernel
theorem dX2_addPart_58 : decode cX2_addPart 58 = .ok (.iload 4, 2) := by decide +kernel
theorem dX2_addPart_60 : decode cX2_addPart 60 = .ok (.iadd, 1) := by decide +kernel
theorem dX2_addPart_61 : decode cX2_addPart 61 = .ok (.putfield 15, 3) := by decide +kernel
theorem dX2_addPart_64 : decode cX2_addPart 64 = .ok (.return_, 1) := by decide +kernel
theorem dX2_become_0 : decode cX2_become 0 = .ok (.aload_n 1, 1) := by decide +kernel
theorem dX2_become_1 : decode cX2_become 1 = .ok (.getfield 11, 3) := by decide +kernel
theorem dX2_become_4 : decode cX2_become 4 = .ok (.iconst 0, 1) := by decide +kernel
theorem dX2_become_5 : decode cX2_become 5 = .ok (.aload_n 0, 1) := by decide +kernel
theorem dX2_become_6 : decode cX2_become 6 = .ok (.getfield 11, 3) := by decide +kernel
theorem dX2_become_9 : decode cX2_become 9 = .ok (.iconst 0, 1) := by decide +kernel
theorem dX2_become_10 : decode cX2_become 10 = .ok (.aload_n 1, 1) := by decide +kernel
theorem dX2_become_11 : decode cX2_become 11 = .ok (.getfield 15, 3) := by decide +kernel
theorem dX2_become_14 : decode cX2_become 14 = .ok (.invokestatic 19, 3) := by decide +kernel
theorem dX2_become_17 : decode cX2_become 17 = .ok (.aload_n 0, 1) := by decide +kernel
theorem dX2_become_18 : decode cX2_become 18 = .ok (.aload_n 1, 1) := by decide +kernel
theorem dX2_become_19 : decode cX2_become 19 = .ok (.getfield 15, 3) := by decide +kernel
theorem dX2_become_22 : decode cX2_become 22 = .ok (.putfield 15, 3) := by decide +kernel
theorem dX2_become_25 : decode cX2_become 25 = .ok (.return_, 1) := by decide +kernel
theorem dX2_replace_0 : decode cX2_replace 0 = .ok (.aload_n 0, 1) := by decide +kernel
theorem dX2_replace_1 : decode cX2_replace 1 = .ok (.getfield 15, 3) := by decide +kernel
theorem dX2_replace_4 : decode cX2_replace 4 = .ok (.iload_n 2, 1) := by decide +kernel
theorem dX2_replace_5 : decode cX2_replace 5 = .ok (.iload_n 1, 1) := by decide +kernel
theorem dX2_replace_6 : decode cX2_replace 6 = .ok (.isub, 1) := by decide +kernel
theorem dX2_replace_7 : decode cX2_replace 7 = .ok (.isub, 1) := by decide +kernel
theorem dX2_replace_8 : decode cX2_replace 8 = .ok (.aload_n 3, 1) := by decide +kernel
theorem dX2_replace_9 : decode cX2_replace 9 = .ok (.getfield 15, 3) := by decide +kernel
theorem dX2_replace_12 : decode cX2_replace 12 = .ok (.iadd, 1) := by decide +kernel
theorem dX2_replace_13 : decode cX2_replace 13 = .ok (.istore 4, 2) := by decide +kernel
theorem dX2_replace_15 : decode cX2_replace 15 = .ok (.iload_n 1, 1) := by decide +kernel
theorem dX2_replace_16 : decode cX2_replace 16 = .ok (.ifCond .lt 23, 3) := by decide +kernel
theorem dX2_replace_19 : decode cX2_replace 19 = .ok (.iload_n 2, 1) := by decide +kernel
theorem dX2_replace_20 : decode cX2_replace 20 = .ok (.iload_n 1, 1) := by decide +kernel
theorem dX2_replace_21 : decode cX2_replace 21 = .ok (.if_icmp .lt 18, 3) := by decide +kernel
theorem dX2_replace_24 : decode cX2_replace 24 = .ok (.iload_n 2, 1) := by decide +kernel
theorem dX2_replace_25 : decode cX2_replace 25 = .ok (.aload_n 0, 1) := by decide +kernel
theorem dX2_replace_26 : decode cX2_replace 26 = .ok (.getfield 15, 3) := by decide +kernel
theorem dX2_replace_29 : decode cX2_replace 29 = .ok (.if_icmp .gt 10, 3) := by decide +kernel
theorem dX2_replace_32 : decode cX2_replace 32 = .ok (.iload 4, 2) := by decide +kernel
theorem dX2_replace_34 : decode cX2_replace 34 = .ok (.bipush 64, 2) := by decide +kernel
theorem dX2_replace_36 : decode cX2_replace 36 = .ok (.if_icmp .le 4, 3) := by decide +kernel
theorem dX2_replace_39 : decode cX2_replace 39 = .ok (.return_, 1) := by decide +kernel
theorem dX2_replace_40 : decode cX2_replace 40 = .ok (.aload_n 0, 1) := by decide +kernel
theorem dX2_replace_41 : decode cX2_replace 41 = .ok (.getfield 11, 3) := by decide +kernel
theorem dX2_replace_44 : decode cX2_replace 44 = .ok (.iload_n 2, 1) := by decide +kernel
theorem dX2_replace_45 : decode cX2_replace 45 = .ok (.aload_n 0, 1) := by decide +kernel
theorem dX2_replace_46 : decode cX2_replace 46 = .ok (.getfield 11, 3) := by decide +kernel
theorem dX2_replace_49 : decode cX2_replace 49 = .ok (.iload_n 1, 1) := by decide +kernel
theorem dX2_replace_50 : decode cX2_replace 50 = .ok (.aload_n 3, 1) := by decide +kernel
theorem dX2_replace_51 : decode cX2_replace 51 = .ok (.getfield 15, 3) := by decide +kernel
theorem dX2_replace_54 : decode cX2_replace 54 = .ok (.iadd, 1) := by decide +kernel
theorem dX2_replace_55 : decode cX2_replace 55 = .ok (.aload_n 0, 1) := by decide +kernel
theorem dX2_replace_56 : decode cX2_replace 56 = .ok (.getfield 15, 3) := by decide +kernel
theorem dX2_replace_59 : decode cX2_replace 59 = .ok (.iload_n 2, 1) := by decide +kernel
theorem dX2_replace_60 : decode cX2_replace 60 = .ok (.isub, 1) := by decide +kernel
theorem dX2_replace_61 : decode cX2_replace 61 = .ok (.invokestatic 19, 3) := by decide +kernel
theorem dX2_replace_64 : decode cX2_replace 64 = .ok (.aload_n 3, 1) := by decide +kernel
theorem dX2_replace_65 : decode cX2_replace 65 = .ok (.getfield 11, 3) := by decide +kernel
theorem dX2_replace_68 : decode cX2_replace 68 = .ok (.iconst 0, 1) := by decide +kernel
theorem dX2_replace_69 : decode cX2_replace 69 = .ok (.aload_n 0, 1) := by decide +kernel
theorem dX2_replace_70 : decode cX2_replace 70 = .ok (.getfield 11, 3) := by decide +kernel
theorem dX2_replace_73 : decode cX2_replace 73 = .ok (.iload_n 1, 1) := by decide +kernel
theorem dX2_replace_74 : decode cX2_replace 74 = .ok (.aload_n 3, 1) := by decide +kernel
theorem dX2_replace_75 : decode cX2_replace 75 = .ok (.getfield 15, 3) := by decide +kernel
theorem dX2_replace_78 : decode cX2_replace 78 = .ok (.invokestatic 19, 3) := by decide +kernel
theorem dX2_replace_81 : decode cX2_replace 81 = .ok (.aload_n 0, 1) := by decide +kernel
theorem dX2_replace_82 : decode cX2_replace 82 = .ok (.iload 4, 2) := by decide +kernel
theorem dX2_replace_84 : decode cX2_replace 84 = .ok (.putfield 15, 3) := by decide +kernel
theorem dX2_replace_87 : decode cX2_replace 87 = .ok (.return_, 1) := by decide +kernel
theorem dX2_turnRound_0 : decode cX2_turnRound 0 = .ok (.iconst 0, 1) := by decide +kernel
theorem dX2_turnRound_1 : decode cX2_turnRound 1 = .ok (.istore_n 1, 1) := by decide +kernel
theorem dX2_turnRound_2 : decode cX2_turnRound 2 = .ok (.aload_n 0, 1) := by decide +kernel
theorem dX2_turnRound_3 : decode cX2_turnRound 3 = .ok (.getfield 15, 3) := by decide +kernel
theorem dX2_turnRound_6 : decode cX2_turnRound 6 = .ok (.iconst 1, 1) := by decide +kernel
theorem dX2_turnRound_7 : decode cX2_turnRound 7 = .ok (.isub, 1) := by decide +kernel
theorem dX2_turnRound_8 : decode cX2_turnRound 8 = .ok (.istore_n 2, 1) := by decide +kernel
theorem dX2_turnRound_9 : decode cX2_turnRound 9 = .ok (.iload_n 1, 1) := by decide +kernel
theorem dX2_turnRound_10 : decode cX2_turnRound 10 = .ok (.iload_n 2, 1) := by decide +kernel
theorem dX2_turnRound_11 : decode cX2_turnRound 11 = .ok (.if_icmp .ge 38, 3) := by decide +kernel
theorem dX2_turnRound_14 : decode cX2_turnRound 14 = .ok (.aload_n 0, 1) := by decide +kernel
theorem dX2_turnRound_15 : decode cX2_turnRound 15 = .ok (.getfield 11, 3) := by decide +kernel
theorem dX2_turnRound_18 : decode cX2_turnRound 18 = .ok (.iload_n 1, 1) := by decide +kernel
theorem dX2_turnRound_19 : decode cX2_turnRound 19 = .ok (.baload, 1) := by decide +kernel
theorem dX2_turnRound_20 : decode cX2_turnRound 20 = .ok (.istore_n 3, 1) := by decide +kernel
theorem dX2_turnRound_21 : decode cX2_turnRound 21 = .ok (.aload_n 0, 1) := by decide +kernel
theorem dX2_turnRound_22 : decode cX2_turnRound 22 = .ok (.getfield 11, 3) := by decide +kernel
theorem dX2_turnRound_25 : decode cX2_turnRound 25 = .ok (.iload_n 1, 1) := by decide +kernel
theorem dX2_turnRound_26 : decode cX2_turnRound 26 = .ok (.aload_n 0, 1) := by decide +kernel
theorem dX2_turnRound_27 : decode cX2_turnRound 27 = .ok (.getfield 11, 3) := by decide +kernel
theorem dX2_turnRound_30 : decode cX2_turnRound 30 = .ok (.iload_n 2, 1) := by decide +kernel
theorem dX2_turnRound_31 : decode cX2_turnRound 31 = .ok (.baload, 1) := by decide +kernel
theorem dX2_turnRound_32 : decode cX2_turnRound 32 = .ok (.bastore, 1) := by decide +kernel
theorem dX2_turnRound_33 : decode cX2_turnRound 33 = .ok (.aload_n 0, 1) := by decide +kernel
theorem dX2_turnRound_34 : decode cX2_turnRound 34 = .ok (.getfield 11, 3) := by decide +kernel
theorem dX2_turnRound_37 : decode cX2_turnRound 37 = .ok (.iload_n 2, 1) := by decide +kernel
theorem dX2_turnRound_38 : decode cX2_turnRound 38 = .ok (.iload_n 3, 1) := by decide +kernel
theorem dX2_turnRound_39 : decode cX2_turnRound 39 = .ok (.bastore, 1) := by decide +kernel
theorem dX2_turnRound_40 : decode cX2_turnRound 40 = .ok (.iinc 1 1, 3) := by decide +kernel
theorem dX2_turnRound_43 : decode cX2_turnRound 43 = .ok (.iinc 2 (-1), 3) := by decide +kernel
theorem dX2_turnRound_46 : decode cX2_turnRound 46 = .ok (.goto (-37), 3) := by decide +kernel
theorem dX2_turnRound_49 : decode cX2_turnRound 49 = .ok (.return_, 1) := by decide +kernel
theorem dX2_holds_0 : decode cX2_holds 0 = .ok (.iload_n 2, 1) := by decide +kernel
theorem dX2_holds_1 : decode cX2_holds 1 = .ok (.ifCond .lt 16, 3) := by decide +kernel
theorem dX2_holds_4 : decode cX2_holds 4 = .ok (.iload_n 2, 1) := by decide +kernel
theorem dX2_holds_5 : decode cX2_holds 5 = .ok (.aload_n 0, 1) := by decide +kernel
theorem dX2_holds_6 : decode cX2_holds 6 = .ok (.getfield 15, 3) := by decide +kernel
theorem dX2_holds_9 : decode cX2_holds 9 = .ok (.aload_n 1, 1) := by decide +kernel
theorem dX2_holds_10 : decode cX2_holds 10 = .ok (.getfield 15, 3) := by decide +kernel
theorem dX2_holds_13 : decode cX2_holds 13 = .ok (.isub, 1) := by decide +kernel
theorem dX2_holds_14 : decode cX2_holds 14 = .ok (.if_icmp .le 5, 3) := by decide +kernel
theorem dX2_holds_17 : decode cX2_holds 17 = .ok (.iconst 0, 1) := by decide +kernel
theorem dX2_holds_18 : decode cX2_holds 18 = .ok (.ireturn, 1) := by decide +kernel
theorem dX2_holds_19 : decode cX2_holds 19 = .ok (.iconst 0, 1) := by decide +kernel
theorem dX2_holds_20 : decode cX2_holds 20 = .ok (.istore_n 3, 1) := by decide +kernel
theorem dX2_holds_21 : decode cX2_holds 21 = .ok (.iload_n 3, 1) := by decide +kernel
theorem dX2_holds_22 : decode cX2_holds 22 = .ok (.aload_n 1, 1) := by decide +kernel
theorem dX2_holds_23 : decode cX2_holds 23 = .ok (.getfield 15, 3) := by decide +kernel
theorem dX2_holds_26 : decode cX2_holds 26 = .ok (.if_icmp .ge 28, 3) := by decide +kernel
theorem dX2_holds_29 : decode cX2_holds 29 = .ok (.aload_n 0, 1) := by decide +kernel
theorem dX2_holds_30 : decode cX2_holds 30 = .ok (.getfield 11, 3) := by decide +kernel
theorem dX2_holds_33 : decode cX2_holds 33 = .ok (.iload_n 2, 1) := by decide +kernel
theorem dX2_holds_34 : decode cX2_holds 34 = .ok (.iload_n 3, 1) := by decide +kernel
theorem dX2_holds_35 : decode cX2_holds 35 = .ok (.iadd, 1) := by decide +kernel
theorem dX2_holds_36 : decode cX2_holds 36 = .ok (.baload, 1) := by decide +kernel
theorem dX2_holds_37 : decode cX2_holds 37 = .ok (.aload_n 1, 1) := by decide +kernel
theorem dX2_holds_38 : decode cX2_holds 38 = .ok (.getfield 11, 3) := by decide +kernel
theorem dX2_holds_41 : decode cX2_holds 41 = .ok (.iload_n 3, 1) := by decide +kernel
theorem dX2_holds_42 : decode cX2_holds 42 = .ok (.baload, 1) := by decide +kernel
theorem dX2_holds_43 : decode cX2_holds 43 = .ok (.if_icmp .eq 5, 3) := by decide +kernel
theorem dX2_holds_46 : decode cX2_holds 46 = .ok (.iconst 0, 1) := by decide +kernel
theorem dX2_holds_47 : decode cX2_holds 47 = .ok (.ireturn, 1) := by decide +kernel
theorem dX2_holds_48 : decode cX2_holds 48 = .ok (.iinc 3 1, 3) := by decide +kernel
theorem dX2_holds_51 : decode cX2_holds 51 = .ok (.goto (-30), 3) := by decide +kernel
theorem dX2_holds_54 : decode cX2_holds 54 = .ok (.iconst 1, 1) := by decide +kernel
theorem dX2_holds_55 : decode cX2_holds 55 = .ok (.ireturn, 1) := by decide +kernel
set_option maxRecDepth 20000 in
theorem ggX2_isSameAs_X2_holds : GoodIn wsX2_isSameAs wsX2_holds := goodIn_r _ [6, 1, 7, 8, 9] (by decide +kernel) (by decide +kernel)
set_option maxRecDepth 20000 in
theorem gX2_isSameAs_X2_holds : GoodIn wsX2_isSameAs (wsV RX2 25 RX2 yX2_holds wsX2_holds) := goodIn_app (goodIn_of _ (by decide +kernel)) ggX2_isSameAs_X2_holds
theorem dX2_isSameAs_0 : decode cX2_isSameAs 0 = .ok (.aload_n 0, 1) := by decide +kernel
theorem dX2_isSameAs_1 : decode cX2_isSameAs 1 = .ok (.getfield 15, 3) := by decide +kernel
theorem dX2_isSameAs_4 : decode cX2_isSameAs 4 = .ok (.aload_n 1, 1) := by decide +kernel
theorem dX2_isSameAs_5 : decode cX2_isSameAs 5 = .ok (.getfield 15, 3) := by decide +kernel
theorem dX2_isSameAs_8 : decode cX2_isSameAs 8 = .ok (.if_icmp .ne 16, 3) := by decide +kernel
theorem dX2_isSameAs_11 : decode cX2_isSameAs 11 = .ok (.aload_n 0, 1) := by decide +kernel
theorem dX2_isSameAs_12 : decode cX2_isSameAs 12 = .ok (.aload_n 1, 1) := by decide +kernel
theorem dX2_isSameAs_13 : decode cX2_isSameAs 13 = .ok (.iconst 0, 1) := by decide +kernel
theorem dX2_isSameAs_14 : decode cX2_isSameAs 14 = .ok (.invokevirtual 25, 3) := by decide +kernel
theorem dX2_isSameAs_17 : decode cX2_isSameAs 17 = .ok (.ifCond .eq 7, 3) := by decide +kernel
theorem dX2_isSameAs_20 : decode cX2_isSameAs 20 = .ok (.iconst 1, 1) := by decide +kernel
theorem dX2_isSameAs_21 : decode cX2_isSameAs 21 = .ok (.goto 4, 3) := by decide +kernel
theorem dX2_isSameAs_24 : decode cX2_isSameAs 24 = .ok (.iconst 0, 1) := by decide +kernel
theorem dX2_isSameAs_25 : decode cX2_isSameAs 25 = .ok (.ireturn, 1) := by decide +kernel
theorem dX2_compareWith_0 : decode cX2_compareWith 0 = .ok (.aload_n 0, 1) := by decide +kernel
theorem dX2_compareWith_1 : decode cX2_compareWith 1 = .ok (.getfield 15, 3) := by decide +kernel
theorem dX2_compareWith_4 : decode cX2_compareWith 4 = .ok (.aload_n 1, 1) := by decide +kernel
theorem dX2_compareWith_5 : decode cX2_compareWith 5 = .ok (.getfield 15, 3) := by decide +kernel
theorem dX2_compareWith_8 : decode cX2_compareWith 8 = .ok (.if_icmp .eq 20, 3) := by decide +kernel
theorem dX2_compareWith_11 : decode cX2_compareWith 11 = .ok (.aload_n 0, 1) := by decide +kernel
theorem dX2_compareWith_12 : decode cX2_compareWith 12 = .ok (.getfield 15, 3) := by decide +kernel
theorem dX2_compareWith_15 : decode cX2_compareWith 15 = .ok (.aload_n 1, 1) := by decide +kernel
theorem dX2_compareWith_16 : decode cX2_compareWith 16 = .ok (.getfield 15, 3) := by decide +kernel
theorem dX2_compareWith_19 : decode cX2_compareWith 19 = .ok (.if_icmp .ge 7, 3) := by decide +kernel
theorem dX2_compareWith_22 : decode cX2_compareWith 22 = .ok (.iconst (-1), 1) := by decide +kernel
theorem dX2_compareWith_23 : decode cX2_compareWith 23 = .ok (.goto 4, 3) := by decide +kernel
theorem dX2_compareWith_26 : decode cX2_compareWith 26 = .ok (.iconst 1, 1) := by decide +kernel
theorem dX2_compareWith_27 : decode cX2_compareWith 27 = .ok (.ireturn, 1) := by decide +kernel
theorem dX2_compareWith_28 : decode cX2_compareWith 28 = .ok (.iconst 0, 1) := by decide +kernel
theorem dX2_compareWith_29 : decode cX2_compareWith 29 = .ok (.istore_n 2, 1) := by decide +kernel
theorem dX2_compareWith_30 : decode cX2_compareWith 30 = .ok (.iload_n 2, 1) := by decide +kernel
theorem dX2_compareWith_31 : decode cX2_compareWith 31 = .ok (.aload_n 0, 1) := by decide +kernel
theorem dX2_compareWith_32 : decode cX2_compareWith 32 = .ok (.getfield 15, 3) := by decide +kernel
theorem dX2_compareWith_35 : decode cX2_compareWith 35 = .ok (.if_icmp .ge 45, 3) := by decide +kernel
theorem dX2_compareWith_38 : decode cX2_compareWith 38 = .ok (.aload_n 0, 1) := by decide +kernel
theorem dX2_compareWith_39 : decode cX2_compareWith 39 = .ok (.getfield 11, 3) := by decide +kernel
theorem dX2_compareWith_42 : decode cX2_compareWith 42 = .ok (.iload_n 2, 1) := by decide +kernel
theorem dX2_compareWith_43 : decode cX2_compareWith 43 = .ok (.baload, 1) := by decide +kernel
theorem dX2_compareWith_44 : decode cX2_compareWith 44 = .ok (.aload_n 1, 1) := by decide +kernel
theorem dX2_compareWith_45 : decode cX2_compareWith 45 = .ok (.getfield 11, 3) := by decide +kernel
theorem dX2_compareWith_48 : decode cX2_compareWith 48 = .ok (.iload_n 2, 1) := by decide +kernel
theorem dX2_compareWith_49 : decode cX2_compareWith 49 = .ok (.baload, 1) := by decide +kernel
theorem dX2_compareWith_50 : decode cX2_compareWith 50 = .ok (.if_icmp .eq 24, 3) := by decide +kernel
theorem dX2_compareWith_53 : decode cX2_compareWith 53 = .ok (.aload_n 0, 1) := by decide +kernel
theorem dX2_compareWith_54 : decode cX2_compareWith 54 = .ok (.getfield 11, 3) := by decide +kernel
theorem dX2_compareWith_57 : decode cX2_compareWith 57 = .ok (.iload_n 2, 1) := by decide +kernel
theorem dX2_compareWith_58 : decode cX2_compareWith 58 = .ok (.baload, 1) := by decide +kernel
theorem dX2_compareWith_59 : decode cX2_compareWith 59 = .ok (.aload_n 1, 1) := by decide +kernel
theorem dX2_compareWith_60 : decode cX2_compareWith 60 = .ok (.getfield 11, 3) := by decide +kernel
theorem dX2_compareWith_63 : decode cX2_compareWith 63 = .ok (.iload_n 2, 1) := by decide +kernel
theorem dX2_compareWith_64 : decode cX2_compareWith 64 = .ok (.baload, 1) := by decide +kernel
theorem dX2_compareWith_65 : decode cX2_compareWith 65 = .ok (.if_icmp .ge 7, 3) := by decide +kernel
theorem dX2_compareWith_68 : decode cX2_compareWith 68 = .ok (.iconst (-1), 1) := by decide +kernel
theorem dX2_compareWith_69 : decode cX2_compareWith 69 = .ok (.goto 4, 3) := by decide +kernel
theorem dX2_compareWith_72 : decode cX2_compareWith 72 = .ok (.iconst 1, 1) := by decide +kernel
theorem dX2_compareWith_73 : decode cX2_compareWith 73 = .ok (.ireturn, 1) := by decide +kernel
theorem dX2_compareWith_74 : decode cX2_compareWith 74 = .ok (.iinc 2 1, 3) := by decide +kernel
theorem dX2_compareWith_77 : decode cX2_compareWith 77 = .ok (.goto (-47), 3) := by decide +kernel
theorem dX2_compareWith_80 : decode cX2_compareWith 80 = .ok (.iconst 0, 1) := by decide +kernel
theorem dX2_compareWith_81 : decode cX2_compareWith 81 = .ok (.ireturn, 1) := by decide +kernel
theorem dX2_appendTo_0 : decode cX2_appendTo 0 = .ok (.iconst 0, 1) := by decide +kernel
theorem dX2_appendTo_1 : decode cX2_appendTo 1 = .ok (.istore_n 2, 1) := by decide +kernel
theorem dX2_appendTo_2 : decode cX2_appendTo 2 = .ok (.iload_n 2, 1) := by decide +kernel
theorem dX2_appendTo_3 : decode cX2_appendTo 3 = .ok (.aload_n 0, 1) := by decide +kernel
theorem dX2_appendTo_4 : decode cX2_appendTo 4 = .ok (.getfield 15, 3) := by decide +kernel
theorem dX2_appendTo_7 : decode cX2_appendTo 7 = .ok (.if_icmp .ge 24, 3) := by decide +kernel
theorem dX2_appendTo_10 : decode cX2_appendTo 10 = .ok (.aload_n 1, 1) := by decide +kernel
theorem dX2_appendTo_11 : decode cX2_appendTo 11 = .ok (.bipush 97, 2) := by decide +kernel
theorem dX2_appendTo_13 : decode cX2_appendTo 13 = .ok (.aload_n 0, 1) := by decide +kernel
theorem dX2_appendTo_14 : decode cX2_appendTo 14 = .ok (.getfield 11, 3) := by decide +kernel
theorem dX2_appendTo_17 : decode cX2_appendTo 17 = .ok (.iload_n 2, 1) := by decide +kernel
theorem dX2_appendTo_18 : decode cX2_appendTo 18 = .ok (.baload, 1) := by decide +kernel
theorem dX2_appendTo_19 : decode cX2_appendTo 19 = .ok (.iadd, 1) := by decide +kernel
theorem dX2_appendTo_20 : decode cX2_appendTo 20 = .ok (.i2c, 1) := by decide +kernel
theorem dX2_appendTo_21 : decode cX2_appendTo 21 = .ok (.invokevirtual 29, 3) := by decide +kernel
theorem dX2_appendTo_24 : decode cX2_appendTo 24 = .ok (.pop, 1) := by decide +kernel
theorem dX2_appendTo_25 : decode cX2_appendTo 25 = .ok (.iinc 2 1, 3) := by decide +kernel
theorem dX2_appendTo_28 : decode cX2_appendTo 28 = .ok (.goto (-26), 3) := by decide +kernel
theorem dX2_appendTo_31 : decode cX2_appendTo 31 = .ok (.return_, 1) := by decide +kernel
set_option maxRecDepth 20000 in
theorem ggX2_asString_J4_init_da8c8 : GoodIn wsX2_asString wsJ4_init_da8c8 := goodIn_r _ [6, 7, 8, 9, 10, 11, 12, 13, 14, 15, 16, 17, 18, 19, 20, 21, 22, 23, 24, 25, 191, 192, 193, 194] (by decide +kernel) (by decide +kernel)
set_option maxRecDepth 20000 in
theorem gX2_asString_J4_init_da8c8 : GoodIn wsX2_asString (wsJ4_init_da8c8) := ggX2_asString_J4_init_da8c8
set_option maxRecDepth 20000 in
theorem ggX2_asString_X2_appendTo : GoodIn wsX2_asString wsX2_appendTo := goodIn_r _ [30, 31, 32, 33, 34, 35, 3, 36, 37, 38, 39, 40, 9, 41, 42, 16, 43, 44, 45, 46, 47, 17, 48, 49, 50, 51, 52, 53, 54, 55, 56, 57, 58, 59, 60, 61, 62, 63, 64, 65, 66, 67, 68, 69, 70, 71, 72, 73, 74, 75, 15, 76, 77, 78, 79, 80, 81, 82, 83, 84, 85, 86, 87, 14, 88, 89, 90, 91, 92, 93, 94, 95, 96, 18, 19, 20, 21, 22, 23, 24, 25, 97, 98, 99, 100, 101, 102, 103, 104, 105, 106, 107, 108, 109, 110, 111, 112, 113, 114, 115, 116, 117, 118, 119, 120, 121, 122, 123, 124, 125, 126, 127, 128, 129, 130, 131, 132, 133, 134, 135, 195, 196, 191, 192, 193, 194] (by decide +kernel) (by decide +kernel)
set_option maxRecDepth 20000 in
theorem gX2_asString_X2_appendTo : GoodIn wsX2_asString (wsV RX2 36 RX2 yX2_appendTo wsX2_appendTo) := goodIn_app (goodIn_of _ (by decide +kernel)) ggX2_asString_X2_appendTo
set_option maxRecDepth 20000 in
theorem ggX2_asString_J4_toString_0e30d : GoodIn wsX2_asString wsJ4_toString_0e30d := goodIn_r _ [139, 140, 141, 111, 142, 143, 144, 145, 146, 147, 148, 12, 13, 149, 150, 151, 152, 153, 154, 155, 156, 9, 157, 16, 158, 159, 160, 161, 162, 3, 163, 164, 39, 165, 166, 42, 167, 84, 85, 86, 87, 14, 17, 168, 169, 68, 170, 70, 71, 72, 73, 74, 75, 171, 172, 173, 15, 76, 77, 60, 78, 79, 80, 81, 82, 174, 175, 176, 177, 2, 178, 179, 20, 180, 181, 182, 183, 103, 104, 105, 106, 107, 108, 109, 110, 112, 113, 114, 115, 116, 117, 184, 185, 186, 121, 122, 123, 22, 23, 24, 25, 187, 188, 189, 190, 197, 198, 199, 200, 191, 192, 193, 194] (by decide +kernel) (by decide +kernel)
set_option maxRecDepth 20000 in
theorem gX2_asString_J4_toString_0e30d : GoodIn wsX2_asString (wsV RX2 40 RJ4 yJ4_toString_0e30d wsJ4_toString_0e30d) := goodIn_app (goodIn_of _ (by decide +kernel)) ggX2_asString_J4_toString_0e30d
theorem dX2_asString_0 : decode cX2_asString 0 = .ok (.new 30, 3) := by decide +kernel
theorem dX2_asString_3 : decode cX2_asString 3 = .ok (.dup, 1) := by decide +kernel
theorem dX2_asString_4 : decode cX2_asString 4 = .ok (.invokespecial 35, 3) := by decide +kernel
theorem dX2_asString_7 : decode cX2_asString 7 = .ok (.astore_n 1, 1) := by decide +kernel
theorem dX2_asString_8 : decode cX2_asString 8 = .ok (.aload_n 0, 1) := by decide +kernel
theorem dX2_asString_9 : decode cX2_asString 9 = .ok (.aload_n 1, 1) := by decide +kernel
theorem dX2_asString_10 : decode cX2_asString 10 = .ok (.invokevirtual 36, 3) := by decide +kernel
theorem dX2_asString_13 : decode cX2_asString 13 = .ok (.aload_n 1, 1) := by decide +kernel
theorem dX2_asString_14 : decode cX2_asString 14 = .ok (.invokevirtual 40, 3) := by decide +kernel
theorem dX2_asString_17 : decode cX2_asString 17 = .ok (.areturn, 1) := by decide +kernel
set_option maxRecDepth 20000 in
theorem ggX2_mixInto_X3_mix : GoodIn wsX2_mixInto wsX3_mix := goodIn_r _ [5, 6] (by decide +kernel) (by decide +kernel)
set_option maxRecDepth 20000 in
theorem gX2_mixInto_X3_mix_n44 : GoodIn wsX2_mixInto (wsX3_mix) := ggX2_mixInto_X3_mix
theorem dX2_mixInto_0 : decode cX2_mixInto 0 = .ok (.lload_n 1, 1) := by decide +kernel
theorem dX2_mixInto_1 : decode cX2_mixInto 1 = .ok (.lstore_n 3, 1) := by decide +kernel
theorem dX2_mixInto_2 : decode cX2_mixInto 2 = .ok (.iconst 0, 1) := by decide +kernel
theorem dX2_mixInto_3 : decode cX2_mixInto 3 = .ok (.istore 5, 2) := by decide +kernel
theorem dX2_mixInto_5 : decode cX2_mixInto 5 = .ok (.iload 5, 2) := by decide +kernel
theorem dX2_mixInto_7 : decode cX2_mixInto 7 = .ok (.aload_n 0, 1) := by decide +kernel
theorem dX2_mixInto_8 : decode cX2_mixInto 8 = .ok (.getfield 15, 3) := by decide +kernel
theorem dX2_mixInto_11 : decode cX2_mixInto 11 = .ok (.if_icmp .ge 24, 3) := by decide +kernel
theorem dX2_mixInto_14 : decode cX2_mixInto 14 = .ok (.lload_n 3, 1) := by decide +kernel
theorem dX2_mixInto_15 : decode cX2_mixInto 15 = .ok (.bipush 97, 2) := by decide +kernel
theorem dX2_mixInto_17 : decode cX2_mixInto 17 = .ok (.aload_n 0, 1) := by decide +kernel
theorem dX2_mixInto_18 : decode cX2_mixInto 18 = .ok (.getfield 11, 3) := by decide +kernel
theorem dX2_mixInto_21 : decode cX2_mixInto 21 = .ok (.iload 5, 2) := by decide +kernel
theorem dX2_mixInto_23 : decode cX2_mixInto 23 = .ok (.baload, 1) := by decide +kernel
theorem dX2_mixInto_24 : decode cX2_mixInto 24 = .ok (.iadd, 1) := by decide +kernel
theorem dX2_mixInto_25 : decode cX2_mixInto 25 = .ok (.invokestatic 44, 3) := by decide +kernel
theorem dX2_mixInto_28 : decode cX2_mixInto 28 = .ok (.lstore_n 3, 1) := by decide +kernel
theorem dX2_mixInto_29 : decode cX2_mixInto 29 = .ok (.iinc 5 1, 3) := by decide +kernel
theorem dX2_mixInto_32 : decode cX2_mixInto 32 = .ok (.goto (-27), 3) := by decide +kernel
theorem dX2_mixInto_35 : decode cX2_mixInto 35 = .ok (.lload_n 3, 1) := by decide +kernel
theorem dX2_mixInto_36 : decode cX2_mixInto 36 = .ok (.lreturn, 1) := by decide +kernel
set_option maxRecDepth 20000 in
theorem ggX3_init_X1_init : GoodIn wsX3_init wsX1_init := goodIn_r _ [24, 25, 2, 3, 26, 27, 28, 14, 15, 29, 30, 31, 32, 33, 34, 35, 36, 37, 38, 39, 40, 64, 65, 66, 67, 68, 69, 70, 71, 80, 81] (by decide +kernel) (by decide +kernel)
set_option maxRecDepth 20000 in
theorem gX3_init_X1_init : GoodIn wsX3_init (wsX1_init) := ggX3_init_X1_init
set_option maxRecDepth 20000 in
theorem ggX3_init_X0_init : GoodIn wsX3_init wsX0_init := goodIn_r _ [43, 44, 2, 3, 45, 46, 47, 14, 15, 48, 49, 50, 51, 52, 53, 54, 35, 36, 37, 38, 39, 40, 72, 73, 74, 75, 76, 77, 78, 79, 80, 81] (by decide +kernel) (by decide +kernel)
set_option maxRecDepth 20000 in
theorem gX3_init_X0_init : GoodIn wsX3_init (wsX0_init) := ggX3_init_X0_init
set_option maxRecDepth 20000 in
theorem ggX3_init_X2_init : GoodIn wsX3_init wsX2_init := goodIn_r _ [36, 37, 2, 3, 38, 39, 40, 80, 81] (by decide +kernel) (by decide +kernel)
set_option maxRecDepth 20000 in
theorem gX3_init_X2_init_n31 : GoodIn wsX3_init (wsX2_init) := ggX3_init_X2_init
theorem dX3_init_0 : decode cX3_init 0 = .ok (.aload_n 0, 1) := by decide +kernel
theorem dX3_init_1 : decode cX3_init 1 = .ok (.invokespecial 1, 3) := by decide +kernel
theorem dX3_init_4 : decode cX3_init 4 = .ok (.aload_n 0, 1) := by decide +kernel
theorem dX3_init_5 : decode cX3_init 5 = .ok (.iconst 4, 1) := by decide +kernel
theorem dX3_init_6 : decode cX3_init 6 = .ok (.anewarray 9, 3) := by decide +kernel
theorem dX3_init_9 : decode cX3_init 9 = .ok (.putfield 11, 3) := by decide +kernel
theorem dX3_init_12 : decode cX3_init 12 = .ok (.aload_n 0, 1) := by decide +kernel
theorem dX3_init_13 : decode cX3_init 13 = .ok (.new 15, 3) := by decide +kernel
theorem dX3_init_16 : decode cX3_init 16 = .ok (.dup, 1) := by decide +kernel
theorem dX3_init_17 : decode cX3_init 17 = .ok (.invokespecial 17, 3) := by decide +kernel
theorem dX3_init_20 : decode cX3_init 20 = .ok (.putfield 18, 3) := by decide +kernel
theorem dX3_init_23 : decode cX3_init 23 = .ok (.aload_n 0, 1) := by decide +kernel
theorem dX3_init_24 : decode cX3_init 24 = .ok (.new 22, 3) := by decide +kernel
theorem dX3_init_27 : decode cX3_init 27 = .ok (.dup, 1) := by decide +kernel
theorem dX3_init_28 : decode cX3_init 28 = .ok (.aload_n 0, 1) := by decide +kernel
theorem dX3_init_29 : decode cX3_init 29 = .ok (.getfield 18, 3) := by decide +kernel
theorem dX3_init_32 : decode cX3_init 32 = .ok (.invokespecial 24, 3) := by decide +kernel
theorem dX3_init_35 : decode cX3_init 35 = .ok (.putfield 27, 3) := by decide +kernel
theorem dX3_init_38 : decode cX3_init 38 = .ok (.aload_n 0, 1) := by decide +kernel
theorem dX3_init_39 : decode cX3_init 39 = .ok (.new 9, 3) := by decide +kernel
theorem dX3_init_42 : decode cX3_init 42 = .ok (.dup, 1) := by decide +kernel
theorem dX3_init_43 : decode cX3_init 43 = .ok (.invokespecial 31, 3) := by decide +kernel
theorem dX3_init_46 : decode cX3_init 46 = .ok (.putfield 32, 3) := by decide +kernel
theorem dX3_init_49 : decode cX3_init 49 = .ok (.aload_n 0, 1) := by decide +kernel
theorem dX3_init_50 : decode cX3_init 50 = .ok (.new 9, 3) := by decide +kernel
theorem dX3_init_53 : decode cX3_init 53 = .ok (.dup, 1) := by decide +kernel
theorem dX3_init_54 : decode cX3_init 54 = .ok (.invokespecial 31, 3) := by decide +kernel
theorem dX3_init_57 : decode cX3_init 57 = .ok (.putfield 36, 3) := by decide +kernel
theorem dX3_init_60 : decode cX3_init 60 = .ok (.aload_n 0, 1) := by decide +kernel
theorem dX3_init_61 : decode cX3_init 61 = .ok (.new 9, 3) := by decide +kernel
theorem dX3_init_64 : decode cX3_init 64 = .ok (.dup, 1) := by decide +kernel
theorem dX3_init_65 : decode cX3_init 65 = .ok (.invokespecial 31, 3) := by decide +kernel
theorem dX3_init_68 : decode cX3_init 68 = .ok (.putfield 39, 3) := by decide +kernel
theorem dX3_init_71 : decode cX3_init 71 = .ok (.aload_n 0, 1) := by decide +kernel
theorem dX3_init_72 : decode cX3_init 72 = .ok (.iconst 0, 1) := by decide +kernel
theorem dX3_init_73 : decode cX3_init 73 = .ok (.putfield 42, 3) := by decide +kernel
theorem dX3_init_76 : decode cX3_init 76 = .ok (.aload_n 0, 1) := by decide +kernel
theorem dX3_init_77 : decode cX3_init 77 = .ok (.iconst 0, 1) := by decide +kernel
theorem dX3_init_78 : decode cX3_init 78 = .ok (.putfield 46, 3) := by decide +kernel
theorem dX3_init_81 : decode cX3_init 81 = .ok (.aload_n 0, 1) := by decide +kernel
theorem dX3_init_82 : decode cX3_init 82 = .ok (.iconst 0, 1) := by decide +kernel
theorem dX3_init_83 : decode cX3_init 83 = .ok (.putfield 49, 3) := by decide +kernel
theorem dX3_init_86 : decode cX3_init 86 = .ok (.iconst 0, 1) := by decide +kernel
theorem dX3_init_87 : decode cX3_init 87 = .ok (.istore_n 1, 1) := by decide +kernel
theorem dX3_init_88 : decode cX3_init 88 = .ok (.iload_n 1, 1) := by decide +kernel
theorem dX3_init_89 : decode cX3_init 89 = .ok (.iconst 4, 1) := by decide +kernel
theorem dX3_init_90 : decode cX3_init 90 = .ok (.if_icmp .ge 22, 3) := by decide +kernel
theorem dX3_init_93 : decode cX3_init 93 = .ok (.aload_n 0, 1) := by decide +kernel
theorem dX3_init_94 : decode cX3_init 94 = .ok (.getfield 11, 3) := by decide +kernel
theorem dX3_init_97 : decode cX3_init 97 = .ok (.iload_n 1, 1) := by decide +kernel
theorem dX3_init_98 : decode cX3_init 98 = .ok (.new 9, 3) := by decide +kernel
theorem dX3_init_101 : decode cX3_init 101 = .ok (.dup, 1) := by decide +kernel
theorem dX3_init_102 : decode cX3_init 102 = .ok (.invokespecial 31, 3) := by decide +kernel
theorem dX3_init_105 : decode cX3_init 105 = .ok (.aastore, 1) := by decide +kernel
theorem dX3_init_106 : decode cX3_init 106 = .ok (.iinc 1 1, 3) := by decide +kernel
theorem dX3_init_109 : decode cX3_init 109 = .ok (.goto (-21), 3) := by decide +kernel
theorem dX3_init_112 : decode cX3_init 112 = .ok (.return_, 1) := by decide +kernel
set_option maxRecDepth 20000 in
theorem ggX3_clear_X3_needRope : GoodIn wsX3_clear wsX3_needRope := goodIn_ca (goodIn_r _ [6, 7, 8] (by decide +kernel) (by decide +kernel)) (goodIn_sub (fun _ h => List.mem_cons_of_mem _ (List.mem_append_right _ h)) (by decide +kernel))
set_option maxRecDepth 20000 in
theorem gX3_clear_X3_needRope : GoodIn wsX3_clear (va_wsS RX3 52 yX3_needRope wsX3_needRope) := goodIn_app (goodIn_of _ (by decide +kernel)) ggX3_clear_X3_needRope
set_option maxRecDepth 20000 in
theorem ggX3_clear_X2_makeEmpty : GoodIn wsX3_clear wsX2_makeEmpty := goodIn_r _ [13, 14, 24, 25] (by decide +kernel) (by decide +kernel)
set_option maxRecDepth 20000 in
theorem gX3_clear_X2_makeEmpty : GoodIn wsX3_clear (wsV RX3 59 RX2 yX2_makeEmpty wsX2_makeEmpty) := goodIn_app (goodIn_of _ (by decide +kernel)) ggX3_clear_X2_makeEmpty
theorem dX3_clear_0 : decode cX3_clear 0 = .ok (.iload_n 1, 1) := by decide +kernel
theorem dX3_clear_1 : decode cX3_clear 1 = .ok (.invokestatic 52, 3) := by decide +kernel
theorem dX3_clear_4 : decode cX3_clear 4 = .ok (.aload_n 0, 1) := by decide +kernel
theorem dX3_clear_5 : decode cX3_clear 5 = .ok (.getfield 11, 3) := by decide +kernel
theorem dX3_clear_8 : decode cX3_clear 8 = .ok (.iload_n 1, 1) := by decide +kernel
theorem dX3_clear_9 : decode cX3_clear 9 = .ok (.aaload, 1) := by decide +kernel
theorem dX3_clear_10 : decode cX3_clear 10 = .ok (.getfield 65, 3) := by decide +kernel
theorem dX3_clear_13 : decode cX3_clear 13 = .ok (.istore_n 2, 1) := by decide +kernel
theorem dX3_clear_14 : decode cX3_clear 14 = .ok (.aload_n 0, 1) := by decide +kernel
theorem dX3_clear_15 : decode cX3_clear 15 = .ok (.getfield 11, 3) := by decide +kernel
theorem dX3_clear_18 : decode cX3_clear 18 = .ok (.iload_n 1, 1) := by decide +kernel
theorem dX3_clear_19 : decode cX3_clear 19 = .ok (.aaload, 1) := by decide +kernel
theorem dX3_clear_20 : decode cX3_clear 20 = .ok (.invokevirtual 59, 3) := by decide +kernel
theorem dX3_clear_23 : decode cX3_clear 23 = .ok (.iload_n 2, 1) := by decide +kernel
theorem dX3_clear_24 : decode cX3_clear 24 = .ok (.ireturn, 1) := by decide +kernel
set_option maxRecDepth 20000 in
theorem ggX3_copy_X3_needRope : GoodIn wsX3_copy wsX3_needRope := goodIn_ca (goodIn_r _ [6, 7, 8] (by decide +kernel) (by decide +kernel)) (goodIn_sub (fun _ h => List.mem_cons_of_mem _ (List.mem_append_right _ h)) (by decide +kernel))
set_option maxRecDepth 20000 in
theorem gX3_copy_X3_needRope : GoodIn wsX3_copy (va_wsS RX3 52 yX3_needRope wsX3_needRope) := goodIn_app (goodIn_of _ (by decide +kernel)) ggX3_copy_X3_needRope
set_option maxRecDepth 20000 in
theorem ggX3_copy_X2_become : GoodIn wsX3_copy wsX2_become := goodIn_r _ [13, 14, 15, 16, 17, 18, 19, 29, 30] (by decide +kernel) (by decide +kernel)
set_option maxRecDepth 20000 in
theorem gX3_copy_X2_become : GoodIn wsX3_copy (wsV RX3 79 RX2 yX2_become wsX2_become) := goodIn_app (goodIn_of _ (by decide +kernel)) ggX3_copy_X2_become
theorem dX3_copy_0 : decode cX3_copy 0 = .ok (.iload_n 1, 1) := by decide +kernel
theorem dX3_copy_1 : decode cX3_copy 1 = .ok (.invokestatic 52, 3) := by decide +kernel
theorem dX3_copy_4 : decode cX3_copy 4 = .ok (.iload_n 2, 1) := by decide +kernel
theorem dX3_copy_5 : decode cX3_copy 5 = .ok (.invokestatic 52, 3) := by decide +kernel
theorem dX3_copy_8 : decode cX3_copy 8 = .ok (.aload_n 0, 1) := by decide +kernel
theorem dX3_copy_9 : decode cX3_copy 9 = .ok (.getfield 11, 3) := by decide +kernel
theorem dX3_copy_12 : decode cX3_copy 12 = .ok (.iload_n 1, 1) := by decide +kernel
theorem dX3_copy_13 : decode cX3_copy 13 = .ok (.aaload, 1) := by decide +kernel
theorem dX3_copy_14 : decode cX3_copy 14 = .ok (.aload_n 0, 1) := by decide +kernel
theorem dX3_copy_15 : decode cX3_copy 15 = .ok (.getfield 11, 3) := by decide +kernel
theorem dX3_copy_18 : decode cX3_copy 18 = .ok (.iload_n 2, 1) := by decide +kernel
theorem dX3_copy_19 : decode cX3_copy 19 = .ok (.aaload, 1) := by decide +kernel
theorem dX3_copy_20 : decode cX3_copy 20 = .ok (.invokevirtual 79, 3) := by decide +kernel
theorem dX3_copy_23 : decode cX3_copy 23 = .ok (.aload_n 0, 1) := by decide +kernel
theorem dX3_copy_24 : decode cX3_copy 24 = .ok (.getfield 11, 3) := by decide +kernel
theorem dX3_copy_27 : decode cX3_copy 27 = .ok (.iload_n 1, 1) := by decide +kernel
theorem dX3_copy_28 : decode cX3_copy 28 = .ok (.aaload, 1) := by decide +kernel
theorem dX3_copy_29 : decode cX3_copy 29 = .ok (.getfield 65, 3) := by decide +kernel
theorem dX3_copy_32 : decode cX3_copy 32 = .ok (.ireturn, 1) := by decide +kernel
set_option maxRecDepth 20000 in
theorem ggX3_lay_X3_needRope : GoodIn wsX3_lay wsX3_needRope := goodIn_ca (goodIn_r _ [7, 8, 9] (by decide +kernel) (by decide +kernel)) (goodIn_sub (fun _ h => List.mem_cons_of_mem _ (List.mem_append_right _ h)) (by decide +kernel))
set_option maxRecDepth 20000 in
theorem gX3_lay_X3_needRope : GoodIn wsX3_lay (va_wsS RX3 52 yX3_needRope wsX3_needRope) := goodIn_app (goodIn_of _ (by decide +kernel)) ggX3_lay_X3_needRope
set_option maxRecDepth 20000 in
theorem ggX3_lay_X3_needPlace : GoodIn wsX3_lay wsX3_needPlace := goodIn_ca (goodIn_r _ [12, 8, 9, 2, 42, 43] (by decide +kernel) (by decide +kernel)) (goodIn_sub (fun _ h => List.mem_cons_of_mem _ (List.mem_append_right _ h)) (by decide +kernel))
set_option maxRecDepth 20000 in
theorem gX3_lay_X3_needPlace : GoodIn wsX3_lay (va_wsS RX3 83 yX3_needPlace wsX3_needPlace) := goodIn_app (goodIn_of _ (by decide +kernel)) ggX3_lay_X3_needPlace
set_option maxRecDepth 20000 in
theorem ggX3_lay_X3_refuse : GoodIn wsX3_lay wsX3_refuse := goodIn_r _ [16, 17, 33, 34, 35, 36, 37, 38, 39, 40, 41] (by decide +kernel) (by decide +kernel)
set_option maxRecDepth 20000 in
theorem gX3_lay_X3_refuse : GoodIn wsX3_lay (wsV RX3 87 RX3 yX3_refuse wsX3_refuse) := goodIn_app (goodIn_of _ (by decide +kernel)) ggX3_lay_X3_refuse
set_option maxRecDepth 20000 in
theorem ggX3_lay_X2_become : GoodIn wsX3_lay wsX2_become := goodIn_r _ [22, 23, 24, 25, 26, 27, 28, 42, 43] (by decide +kernel) (by decide +kernel)
set_option maxRecDepth 20000 in
theorem gX3_lay_X2_become : GoodIn wsX3_lay (wsV RX3 79 RX2 yX2_become wsX2_become) := goodIn_app (goodIn_of _ (by decide +kernel)) ggX3_lay_X2_become
set_option maxRecDepth 20000 in
theorem ggX3_lay_X2_replace : GoodIn wsX3_lay wsX2_replace := goodIn_r _ [32, 24, 23, 25, 26, 27, 28, 42, 43] (by decide +kernel) (by decide +kernel)
set_option maxRecDepth 20000 in
theorem gX3_lay_X2_replace : GoodIn wsX3_lay (wsV RX3 91 RX2 yX2_replace wsX2_replace) := goodIn_app (goodIn_of _ (by decide +kernel)) ggX3_lay_X2_replace
theorem dX3_lay_0 : decode cX3_lay 0 = .ok (.iload_n 1, 1) := by decide +kernel
theorem dX3_lay_1 : decode cX3_lay 1 = .ok (.invokestatic 52, 3) := by decide +kernel
theorem dX3_lay_4 : decode cX3_lay 4 = .ok (.iload_n 3, 1) := by decide +kernel
theorem dX3_lay_5 : decode cX3_lay 5 = .ok (.invokestatic 52, 3) := by decide +kernel
theorem dX3_lay_8 : decode cX3_lay 8 = .ok (.aload_n 0, 1) := by decide +kernel
theorem dX3_lay_9 : decode cX3_lay 9 = .ok (.getfield 11, 3) := by decide +kernel
theorem dX3_lay_12 : decode cX3_lay 12 = .ok (.iload_n 1, 1) := by decide +kernel
theorem dX3_lay_13 : decode cX3_lay 13 = .ok (.aaload, 1) := by decide +kernel
theorem dX3_lay_14 : decode cX3_lay 14 = .ok (.astore 4, 2) := by decide +kernel
theorem dX3_lay_16 : decode cX3_lay 16 = .ok (.aload 4, 2) := by decide +kernel
theorem dX3_lay_18 : decode cX3_lay 18 = .ok (.iload_n 2, 1) := by decide +kernel
theorem dX3_lay_19 : decode cX3_lay 19 = .ok (.invokestatic 83, 3) := by decide +kernel
theorem dX3_lay_22 : decode cX3_lay 22 = .ok (.aload 4, 2) := by decide +kernel
theorem dX3_lay_24 : decode cX3_lay 24 = .ok (.getfield 65, 3) := by decide +kernel
theorem dX3_lay_27 : decode cX3_lay 27 = .ok (.aload_n 0, 1) := by decide +kernel
theorem dX3_lay_28 : decode cX3_lay 28 = .ok (.getfield 11, 3) := by decide +kernel
theorem dX3_lay_31 : decode cX3_lay 31 = .ok (.iload_n 3, 1) := by decide +kernel
theorem dX3_lay_32 : decode cX3_lay 32 = .ok (.aaload, 1) := by decide +kernel
theorem dX3_lay_33 : decode cX3_lay 33 = .ok (.getfield 65, 3) := by decide +kernel
theorem dX3_lay_36 : decode cX3_lay 36 = .ok (.iadd, 1) := by decide +kernel
theorem dX3_lay_37 : decode cX3_lay 37 = .ok (.bipush 32, 2) := by decide +kernel
theorem dX3_lay_39 : decode cX3_lay 39 = .ok (.if_icmp .le 8, 3) := by decide +kernel
theorem dX3_lay_42 : decode cX3_lay 42 = .ok (.aload_n 0, 1) := by decide +kernel
theorem dX3_lay_43 : decode cX3_lay 43 = .ok (.invokevirtual 87, 3) := by decide +kernel
theorem dX3_lay_46 : decode cX3_lay 46 = .ok (.ireturn, 1) := by decide +kernel
theorem dX3_lay_47 : decode cX3_lay 47 = .ok (.aload_n 0, 1) := by decide +kernel
theorem dX3_lay_48 : decode cX3_lay 48 = .ok (.getfield 32, 3) := by decide +kernel
theorem dX3_lay_51 : decode cX3_lay 51 = .ok (.aload_n 0, 1) := by decide +kernel
theorem dX3_lay_52 : decode cX3_lay 52 = .ok (.getfield 11, 3) := by decide +kernel
theorem dX3_lay_55 : decode cX3_lay 55 = .ok (.iload_n 3, 1) := by decide +kernel
theorem dX3_lay_56 : decode cX3_lay 56 = .ok (.aaload, 1) := by decide +kernel
theorem dX3_lay_57 : decode cX3_lay 57 = .ok (.invokevirtual 79, 3) := by decide +kernel
theorem dX3_lay_60 : decode cX3_lay 60 = .ok (.aload 4, 2) := by decide +kernel
theorem dX3_lay_62 : decode cX3_lay 62 = .ok (.iload_n 2, 1) := by decide +kernel
theorem dX3_lay_63 : decode cX3_lay 63 = .ok (.iload_n 2, 1) := by decide +kernel
theorem dX3_lay_64 : decode cX3_lay 64 = .ok (.aload_n 0, 1) := by decide +kernel
theorem dX3_lay_65 : decode cX3_lay 65 = .ok (.getfield 32, 3) := by decide +kernel
theorem dX3_lay_68 : decode cX3_lay 68 = .ok (.invokevirtual 91, 3) := by decide +kernel
theorem dX3_lay_71 : decode cX3_lay 71 = .ok (.aload 4, 2) := by decide +kernel
theorem dX3_lay_73 : decode cX3_lay 73 = .ok (.getfield 65, 3) := by decide +kernel
theorem dX3_lay_76 : decode cX3_lay 76 = .ok (.ireturn, 1) := by decide +kernel
set_option maxRecDepth 20000 in
theorem ggX3_cut_X3_needRope : GoodIn wsX3_cut wsX3_needRope := goodIn_ca (goodIn_r _ [9, 10, 11] (by decide +kernel) (by decide +kernel)) (goodIn_sub (fun _ h => List.mem_cons_of_mem _ (List.mem_append_right _ h)) (by decide +kernel))
set_option maxRecDepth 20000 in
theorem gX3_cut_X3_needRope : GoodIn wsX3_cut (va_wsS RX3 52 yX3_needRope wsX3_needRope) := goodIn_app (goodIn_of _ (by decide +kernel)) ggX3_cut_X3_needRope
set_option maxRecDepth 20000 in
theorem ggX3_cut_X3_needPlace : GoodIn wsX3_cut wsX3_needPlace := goodIn_ca (goodIn_r _ [14, 10, 11, 5, 39, 40] (by decide +kernel) (by decide +kernel)) (goodIn_sub (fun _ h => List.mem_cons_of_mem _ (List.mem_append_right _ h)) (by decide +kernel))
set_option maxRecDepth 20000 in
theorem gX3_cut_X3_needPlace : GoodIn wsX3_cut (va_wsS RX3 83 yX3_needPlace wsX3_needPlace) := goodIn_app (goodIn_of _ (by decide +kernel)) ggX3_cut_X3_needPlace
set_option maxRecDepth 20000 in
theorem ggX3_cut_X2_makeEmpty : GoodIn wsX3_cut wsX2_makeEmpty := goodIn_r _ [19, 20, 39, 40] (by decide +kernel) (by decide +kernel)
set_option maxRecDepth 20000 in
theorem gX3_cut_X2_makeEmpty : GoodIn wsX3_cut (wsV RX3 59 RX2 yX2_makeEmpty wsX2_makeEmpty) := goodIn_app (goodIn_of _ (by decide +kernel)) ggX3_cut_X2_makeEmpty
set_option maxRecDepth 20000 in
theorem ggX3_cut_X2_replace : GoodIn wsX3_cut wsX2_replace := goodIn_r _ [24, 20, 25, 26, 27, 28, 29, 39, 40] (by decide +kernel) (by decide +kernel)
set_option maxRecDepth 20000 in
theorem gX3_cut_X2_replace : GoodIn wsX3_cut (wsV RX3 91 RX2 yX2_replace wsX2_replace) := goodIn_app (goodIn_of _ (by decide +kernel)) ggX3_cut_X2_replace
theorem dX3_cut_0 : decode cX3_cut 0 = .ok (.iload_n 1, 1) := by decide +kernel
theorem dX3_cut_1 : decode cX3_cut 1 = .ok (.invokestatic 52, 3) := by decide +kernel
theorem dX3_cut_4 : decode cX3_cut 4 = .ok (.aload_n 0, 1) := by decide +kernel
theorem dX3_cut_5 : decode cX3_cut 5 = .ok (.getfield 11, 3) := by decide +kernel
theorem dX3_cut_8 : decode cX3_cut 8 = .ok (.iload_n 1, 1) := by decide +kernel
theorem dX3_cut_9 : decode cX3_cut 9 = .ok (.aaload, 1) := by decide +kernel
theorem dX3_cut_10 : decode cX3_cut 10 = .ok (.iload_n 2, 1) := by decide +kernel
theorem dX3_cut_11 : decode cX3_cut 11 = .ok (.invokestatic 83, 3) := by decide +kernel
theorem dX3_cut_14 : decode cX3_cut 14 = .ok (.aload_n 0, 1) := by decide +kernel
theorem dX3_cut_15 : decode cX3_cut 15 = .ok (.getfield 11, 3) := by decide +kernel
theorem dX3_cut_18 : decode cX3_cut 18 = .ok (.iload_n 1, 1) := by decide +kernel
theorem dX3_cut_19 : decode cX3_cut 19 = .ok (.aaload, 1) := by decide +kernel
theorem dX3_cut_20 : decode cX3_cut 20 = .ok (.iload_n 3, 1) := by decide +kernel
theorem dX3_cut_21 : decode cX3_cut 21 = .ok (.invokestatic 83, 3) := by decide +kernel
theorem dX3_cut_24 : decode cX3_cut 24 = .ok (.iload_n 2, 1) := by decide +kernel
theorem dX3_cut_25 : decode cX3_cut 25 = .ok (.iload_n 3, 1) := by decide +kernel
theorem dX3_cut_26 : decode cX3_cut 26 = .ok (.if_icmp .le 13, 3) := by decide +kernel
theorem dX3_cut_29 : decode cX3_cut 29 = .ok (.new 95, 3) := by decide +kernel
theorem dX3_cut_32 : decode cX3_cut 32 = .ok (.dup, 1) := by decide +kernel
theorem dX3_cut_33 : decode cX3_cut 33 = .ok (.ldc 97, 2) := by decide +kernel
theorem dX3_cut_35 : decode cX3_cut 35 = .ok (.invokespecial 99, 3) := by decide +kernel
theorem dX3_cut_38 : decode cX3_cut 38 = .ok (.athrow, 1) := by decide +kernel
theorem dX3_cut_39 : decode cX3_cut 39 = .ok (.aload_n 0, 1) := by decide +kernel
theorem dX3_cut_40 : decode cX3_cut 40 = .ok (.getfield 32, 3) := by decide +kernel
theorem dX3_cut_43 : decode cX3_cut 43 = .ok (.invokevirtual 59, 3) := by decide +kernel
theorem dX3_cut_46 : decode cX3_cut 46 = .ok (.aload_n 0, 1) := by decide +kernel
theorem dX3_cut_47 : decode cX3_cut 47 = .ok (.getfield 11, 3) := by decide +kernel
theorem dX3_cut_50 : decode cX3_cut 50 = .ok (.iload_n 1, 1) := by decide +kernel
theorem dX3_cut_51 : decode cX3_cut 51 = .ok (.aaload, 1) := by decide +kernel
theorem dX3_cut_52 : decode cX3_cut 52 = .ok (.iload_n 2, 1) := by decide +kernel
theorem dX3_cut_53 : decode cX3_cut 53 = .ok (.iload_n 3, 1) := by decide +kernel
theorem dX3_cut_54 : decode cX3_cut 54 = .ok (.aload_n 0, 1) := by decide +kernel
theorem dX3_cut_55 : decode cX3_cut 55 = .ok (.getfield 32, 3) := by decide +kernel
theorem dX3_cut_58 : decode cX3_cut 58 = .ok (.invokevirtual 91, 3) := by decide +kernel
theorem dX3_cut_61 : decode cX3_cut 61 = .ok (.aload_n 0, 1) := by decide +kernel
theorem dX3_cut_62 : decode cX3_cut 62 = .ok (.getfield 11, 3) := by decide +kernel
theorem dX3_cut_65 : decode cX3_cut 65 = .ok (.iload_n 1, 1) := by decide +kernel
theorem dX3_cut_66 : decode cX3_cut 66 = .ok (.aaload, 1) := by decide +kernel
theorem dX3_cut_67 : decode cX3_cut 67 = .ok (.getfield 65, 3) := by decide +kernel
theorem dX3_cut_70 : decode cX3_cut 70 = .ok (.ireturn, 1) := by decide +kernel
set_option maxRecDepth 20000 in
theorem ggX3_turn_X3_needRope : GoodIn wsX3_turn wsX3_needRope := goodIn_ca (goodIn_r _ [6, 7, 8] (by decide +kernel) (by decide +kernel)) (goodIn_sub (fun _ h => List.mem_cons_of_mem _ (List.mem_append_right _ h)) (by decide +kernel))
set_option maxRecDepth 20000 in
theorem gX3_turn_X3_needRope : GoodIn wsX3_turn (va_wsS RX3 52 yX3_needRope wsX3_needRope) := goodIn_app (goodIn_of _ (by decide +kernel)) ggX3_turn_X3_needRope
set_option maxRecDepth 20000 in
theorem ggX3_turn_X2_turnRound : GoodIn wsX3_turn wsX2_turnRound := goodIn_r _ [13, 14, 15, 25, 26] (by decide +kernel) (by decide +kernel)
set_option maxRecDepth 20000 in
theorem gX3_turn_X2_turnRound : GoodIn wsX3_turn (wsV RX3 100 RX2 yX2_turnRound wsX2_turnRound) := goodIn_app (goodIn_of _ (by decide +kernel)) ggX3_turn_X2_turnRound
theorem dX3_turn_0 : decode cX3_turn 0 = .ok (.iload_n 1, 1) := by decide +kernel
theorem dX3_turn_1 : decode cX3_turn 1 = .ok (.invokestatic 52, 3) := by decide +kernel
theorem dX3_turn_4 : decode cX3_turn 4 = .ok (.aload_n 0, 1) := by decide +kernel
theorem dX3_turn_5 : decode cX3_turn 5 = .ok (.getfield 11, 3) := by decide +kernel
theorem dX3_turn_8 : decode cX3_turn 8 = .ok (.iload_n 1, 1) := by decide +kernel
theorem dX3_turn_9 : decode cX3_turn 9 = .ok (.aaload, 1) := by decide +kernel
theorem dX3_turn_10 : decode cX3_turn 10 = .ok (.invokevirtual 100, 3) := by decide +kernel
theorem dX3_turn_13 : decode cX3_turn 13 = .ok (.aload_n 0, 1) := by decide +kernel
theorem dX3_turn_14 : decode cX3_turn 14 = .ok (.getfield 11, 3) := by decide +kernel
theorem dX3_turn_17 : decode cX3_turn 17 = .ok (.iload_n 1, 1) := by decide +kernel
theorem dX3_turn_18 : decode cX3_turn 18 = .ok (.aaload, 1) := by decide +kernel
theorem dX3_turn_19 : decode cX3_turn 19 = .ok (.getfield 65, 3) := by decide +kernel
theorem dX3_turn_22 : decode cX3_turn 22 = .ok (.ireturn, 1) := by decide +kernel
set_option maxRecDepth 20000 in
theorem ggX3_text_X3_needRope : GoodIn wsX3_text wsX3_needRope := goodIn_ca (goodIn_r _ [5, 6, 7] (by decide +kernel) (by decide +kernel)) (goodIn_sub (fun _ h => List.mem_cons_of_mem _ (List.mem_append_right _ h)) (by decide +kernel))
set_option maxRecDepth 20000 in
theorem gX3_text_X3_needRope : GoodIn wsX3_text (va_wsS RX3 52 yX3_needRope wsX3_needRope) := goodIn_app (goodIn_of _ (by decide +kernel)) ggX3_text_X3_needRope
set_option maxRecDepth 20000 in
theorem ggX3_text_X2_asString : GoodIn wsX3_text wsX2_asString := goodIn_r _ [12, 13, 14, 15, 16, 17, 18, 19, 20, 21, 22, 23, 24, 25, 26, 27, 28, 29, 30, 31, 32, 33, 34, 35, 36, 37, 38, 39, 40, 11, 41, 42, 43, 44, 45, 46, 47, 48, 49, 50, 51, 52, 53, 54, 55, 56, 57, 58, 59, 60, 61, 62, 63, 64, 65, 66, 67, 68, 69, 70, 71, 72, 73, 74, 75, 76, 77, 78, 79, 80, 81, 82, 83, 84, 85, 86, 87, 88, 89, 90, 91, 92, 93, 94, 95, 96, 97, 98, 99, 100, 101, 102, 103, 104, 105, 106, 107, 108, 109, 110, 111, 112, 113, 114, 115, 116, 117, 118, 119, 120, 121, 122, 123, 124, 125, 126, 127, 128, 129, 130, 131, 132, 133, 134, 135, 136, 137, 138, 139, 140, 141, 142, 143, 144, 145, 146, 147, 148, 149, 150, 151, 152, 153, 154, 155, 156, 157, 158, 159, 160, 161, 162, 163, 164, 165, 166, 167, 168, 169, 170, 171, 172, 173, 174, 175, 176, 177, 178, 179, 180, 181, 182, 183, 184, 185, 186, 187, 188, 189, 190, 191, 192, 193, 194, 195, 196, 197, 198, 199, 200, 201, 211, 212, 213, 214, 215, 216, 217, 218, 219, 220] (by decide +kernel) (by decide +kernel)
set_option maxRecDepth 20000 in
theorem gX3_text_X2_asString : GoodIn wsX3_text (wsV RX3 103 RX2 yX2_asString wsX2_asString) := goodIn_app (goodIn_of _ (by decide +kernel)) ggX3_text_X2_asString
theorem dX3_text_0 : decode cX3_text 0 = .ok (.iload_n 1, 1) := by decide +kernel
theorem dX3_text_1 : decode cX3_text 1 = .ok (.invokestatic 52, 3) := by decide +kernel
theorem dX3_text_4 : decode cX3_text 4 = .ok (.aload_n 0, 1) := by decide +kernel
theorem dX3_text_5 : decode cX3_text 5 = .ok (.getfield 11, 3) := by decide +kernel
theorem dX3_text_8 : decode cX3_text 8 = .ok (.iload_n 1, 1) := by decide +kernel
theorem dX3_text_9 : decode cX3_text 9 = .ok (.aaload, 1) := by decide +kernel
theorem dX3_text_10 : decode cX3_text 10 = .ok (.invokevirtual 103, 3) := by decide +kernel
theorem dX3_text_13 : decode cX3_text 13 = .ok (.areturn, 1) := by decide +kernel
set_option maxRecDepth 20000 in
theorem ggX3_order_X3_needRope : GoodIn wsX3_order wsX3_needRope := goodIn_ca (goodIn_r _ [5, 6, 7] (by decide +kernel) (by decide +kernel)) (goodIn_sub (fun _ h => List.mem_cons_of_mem _ (List.mem_append_right _ h)) (by decide +kernel))
set_option maxRecDepth 20000 in
theorem gX3_order_X3_needRope : GoodIn wsX3_order (va_wsS RX3 52 yX3_needRope wsX3_needRope) := goodIn_app (goodIn_of _ (by decide +kernel)) ggX3_order_X3_needRope
set_option maxRecDepth 20000 in
theorem ggX3_order_X2_compareWith : GoodIn wsX3_order wsX2_compareWith := goodIn_r _ [12, 13, 14, 24, 25] (by decide +kernel) (by decide +kernel)
set_option maxRecDepth 20000 in
theorem gX3_order_X2_compareWith : GoodIn wsX3_order (wsV RX3 107 RX2 yX2_compareWith wsX2_compareWith) := goodIn_app (goodIn_of _ (by decide +kernel)) ggX3_order_X2_compareWith
theorem dX3_order_0 : decode cX3_order 0 = .ok (.iload_n 1, 1) := by decide +kernel
theorem dX3_order_1 : decode cX3_order 1 = .ok (.invokestatic 52, 3) := by decide +kernel
theorem dX3_order_4 : decode cX3_order 4 = .ok (.iload_n 2, 1) := by decide +kernel
theorem dX3_order_5 : decode cX3_order 5 = .ok (.invokestatic 52, 3) := by decide +kernel
theorem dX3_order_8 : decode cX3_order 8 = .ok (.aload_n 0, 1) := by decide +kernel
theorem dX3_order_9 : decode cX3_order 9 = .ok (.getfield 11, 3) := by decide +kernel
theorem dX3_order_12 : decode cX3_order 12 = .ok (.iload_n 1, 1) := by decide +kernel
theorem dX3_order_13 : decode cX3_order 13 = .ok (.aaload, 1) := by decide +kernel
theorem dX3_order_14 : decode cX3_order 14 = .ok (.aload_n 0, 1) := by decide +kernel
theorem dX3_order_15 : decode cX3_order 15 = .ok (.getfield 11, 3) := by decide +kernel
theorem dX3_order_18 : decode cX3_order 18 = .ok (.iload_n 2, 1) := by decide +kernel
theorem dX3_order_19 : decode cX3_order 19 = .ok (.aaload, 1) := by decide +kernel
theorem dX3_order_20 : decode cX3_order 20 = .ok (.invokevirtual 107, 3) := by decide +kernel
theorem dX3_order_23 : decode cX3_order 23 = .ok (.ireturn, 1) := by decide +kernel
set_option maxRecDepth 20000 in
theorem ggX3_count_X3_needRope : GoodIn wsX3_count wsX3_needRope := goodIn_ca (goodIn_r _ [6, 7, 8] (by decide +kernel) (by decide +kernel)) (goodIn_sub (fun _ h => List.mem_cons_of_mem _ (List.mem_append_right _ h)) (by decide +kernel))
set_option maxRecDepth 20000 in
theorem gX3_count_X3_needRope : GoodIn wsX3_count (va_wsS RX3 52 yX3_needRope wsX3_needRope) := goodIn_app (goodIn_of _ (by decide +kernel)) ggX3_count_X3_needRope
set_option maxRecDepth 20000 in
theorem ggX3_count_X2_holds : GoodIn wsX3_count wsX2_holds := goodIn_r _ [13, 14, 15, 25, 26] (by decide +kernel) (by decide +kernel)
set_option maxRecDepth 20000 in
theorem gX3_count_X2_holds : GoodIn wsX3_count (wsV RX3 111 RX2 yX2_holds wsX2_holds) := goodIn_app (goodIn_of _ (by decide +kernel)) ggX3_count_X2_holds
theorem dX3_count_0 : decode cX3_count 0 = .ok (.iload_n 1, 1) := by decide +kernel
theorem dX3_count_1 : decode cX3_count 1 = .ok (.invokestatic 52, 3) := by decide +kernel
theorem dX3_count_4 : decode cX3_count 4 = .ok (.iload_n 2, 1) := by decide +kernel
theorem dX3_count_5 : decode cX3_count 5 = .ok (.invokestatic 52, 3) := by decide +kernel
theorem dX3_count_8 : decode cX3_count 8 = .ok (.iconst 0, 1) := by decide +kernel
theorem dX3_count_9 : decode cX3_count 9 = .ok (.istore_n 3, 1) := by decide +kernel
theorem dX3_count_10 : decode cX3_count 10 = .ok (.iconst 0, 1) := by decide +kernel
theorem dX3_count_11 : decode cX3_count 11 = .ok (.istore 4, 2) := by decide +kernel
theorem dX3_count_13 : decode cX3_count 13 = .ok (.iload 4, 2) := by decide +kernel
theorem dX3_count_15 : decode cX3_count 15 = .ok (.aload_n 0, 1) := by decide +kernel
theorem dX3_count_16 : decode cX3_count 16 = .ok (.getfield 11, 3) := by decide +kernel
theorem dX3_count_19 : decode cX3_count 19 = .ok (.iload_n 1, 1) := by decide +kernel
theorem dX3_count_20 : decode cX3_count 20 = .ok (.aaload, 1) := by decide +kernel
theorem dX3_count_21 : decode cX3_count 21 = .ok (.getfield 65, 3) := by decide +kernel
theorem dX3_count_24 : decode cX3_count 24 = .ok (.if_icmp .gt 32, 3) := by decide +kernel
theorem dX3_count_27 : decode cX3_count 27 = .ok (.aload_n 0, 1) := by decide +kernel
theorem dX3_count_28 : decode cX3_count 28 = .ok (.getfield 11, 3) := by decide +kernel
theorem dX3_count_31 : decode cX3_count 31 = .ok (.iload_n 1, 1) := by decide +kernel
theorem dX3_count_32 : decode cX3_count 32 = .ok (.aaload, 1) := by decide +kernel
theorem dX3_count_33 : decode cX3_count 33 = .ok (.aload_n 0, 1) := by decide +kernel
theorem dX3_count_34 : decode cX3_count 34 = .ok (.getfield 11, 3) := by decide +kernel
theorem dX3_count_37 : decode cX3_count 37 = .ok (.iload_n 2, 1) := by decide +kernel
theorem dX3_count_38 : decode cX3_count 38 = .ok (.aaload, 1) := by decide +kernel
theorem dX3_count_39 : decode cX3_count 39 = .ok (.iload 4, 2) := by decide +kernel
theorem dX3_count_41 : decode cX3_count 41 = .ok (.invokevirtual 111, 3) := by decide +kernel
theorem dX3_count_44 : decode cX3_count 44 = .ok (.ifCond .eq 6, 3) := by decide +kernel
theorem dX3_count_47 : decode cX3_count 47 = .ok (.iinc 3 1, 3) := by decide +kernel
theorem dX3_count_50 : decode cX3_count 50 = .ok (.iinc 4 1, 3) := by decide +kernel
theorem dX3_count_53 : decode cX3_count 53 = .ok (.goto (-40), 3) := by decide +kernel
theorem dX3_count_56 : decode cX3_count 56 = .ok (.iload_n 3, 1) := by decide +kernel
theorem dX3_count_57 : decode cX3_count 57 = .ok (.ireturn, 1) := by decide +kernel
set_option maxRecDepth 20000 in
theorem ggX3_find_X3_needRope : GoodIn wsX3_find wsX3_needRope := goodIn_ca (goodIn_r _ [6, 7, 8] (by decide +kernel) (by decide +kernel)) (goodIn_sub (fun _ h => List.mem_cons_of_mem _ (List.mem_append_right _ h)) (by decide +kernel))
set_option maxRecDepth 20000 in
theorem gX3_find_X3_needRope : GoodIn wsX3_find (va_wsS RX3 52 yX3_needRope wsX3_needRope) := goodIn_app (goodIn_of _ (by decide +kernel)) ggX3_find_X3_needRope
set_option maxRecDepth 20000 in
theorem ggX3_find_X2_holds : GoodIn wsX3_find wsX2_holds := goodIn_r _ [13, 14, 15, 25, 26] (by decide +kernel) (by decide +kernel)
set_option maxRecDepth 20000 in
theorem gX3_find_X2_holds : GoodIn wsX3_find (wsV RX3 111 RX2 yX2_holds wsX2_holds) := goodIn_app (goodIn_of _ (by decide +kernel)) ggX3_find_X2_holds
theorem dX3_find_0 : decode cX3_find 0 = .ok (.iload_n 1, 1) := by decide +kernel
theorem dX3_find_1 : decode cX3_find 1 = .ok (.invokestatic 52, 3) := by decide +kernel
theorem dX3_find_4 : decode cX3_find 4 = .ok (.iload_n 2, 1) := by decide +kernel
theorem dX3_find_5 : decode cX3_find 5 = .ok (.invokestatic 52, 3) := by decide +kernel
theorem dX3_find_8 : decode cX3_find 8 = .ok (.iconst (-1), 1) := by decide +kernel
theorem dX3_find_9 : decode cX3_find 9 = .ok (.istore 4, 2) := by decide +kernel
theorem dX3_find_11 : decode cX3_find 11 = .ok (.iconst 0, 1) := by decide +kernel
theorem dX3_find_12 : decode cX3_find 12 = .ok (.istore 5, 2) := by decide +kernel
theorem dX3_find_14 : decode cX3_find 14 = .ok (.iload 5, 2) := by decide +kernel
theorem dX3_find_16 : decode cX3_find 16 = .ok (.aload_n 0, 1) := by decide +kernel
theorem dX3_find_17 : decode cX3_find 17 = .ok (.getfield 11, 3) := by decide +kernel
theorem dX3_find_20 : decode cX3_find 20 = .ok (.iload_n 1, 1) := by decide +kernel
theorem dX3_find_21 : decode cX3_find 21 = .ok (.aaload, 1) := by decide +kernel
theorem dX3_find_22 : decode cX3_find 22 = .ok (.getfield 65, 3) := by decide +kernel
theorem dX3_find_25 : decode cX3_find 25 = .ok (.if_icmp .gt 55, 3) := by decide +kernel
theorem dX3_find_28 : decode cX3_find 28 = .ok (.iload_n 3, 1) := by decide +kernel
theorem dX3_find_29 : decode cX3_find 29 = .ok (.ifCond .ne 9, 3) := by decide +kernel
theorem dX3_find_32 : decode cX3_find 32 = .ok (.iload 4, 2) := by decide +kernel
theorem dX3_find_34 : decode cX3_find 34 = .ok (.iconst (-1), 1) := by decide +kernel
theorem dX3_find_35 : decode cX3_find 35 = .ok (.if_icmp .ne 7, 3) := by decide +kernel
theorem dX3_find_38 : decode cX3_find 38 = .ok (.iconst 1, 1) := by decide +kernel
theorem dX3_find_39 : decode cX3_find 39 = .ok (.goto 4, 3) := by decide +kernel
theorem dX3_find_42 : decode cX3_find 42 = .ok (.iconst 0, 1) := by decide +kernel
theorem dX3_find_43 : decode cX3_find 43 = .ok (.istore 6, 2) := by decide +kernel
theorem dX3_find_45 : decode cX3_find 45 = .ok (.iload 6, 2) := by decide +kernel
theorem dX3_find_47 : decode cX3_find 47 = .ok (.ifCond .eq 27, 3) := by decide +kernel
theorem dX3_find_50 : decode cX3_find 50 = .ok (.aload_n 0, 1) := by decide +kernel
theorem dX3_find_51 : decode cX3_find 51 = .ok (.getfield 11, 3) := by decide +kernel
theorem dX3_find_54 : decode cX3_find 54 = .ok (.iload_n 1, 1) := by decide +kernel
theorem dX3_find_55 : decode cX3_find 55 = .ok (.aaload, 1) := by decide +kernel
theorem dX3_find_56 : decode cX3_find 56 = .ok (.aload_n 0, 1) := by decide +kernel
theorem dX3_find_57 : decode cX3_find 57 = .ok (.getfield 11, 3) := by decide +kernel
theorem dX3_find_60 : decode cX3_find 60 = .ok (.iload_n 2, 1) := by decide +kernel
theorem dX3_find_61 : decode cX3_find 61 = .ok (.aaload, 1) := by decide +kernel
theorem dX3_find_62 : decode cX3_find 62 = .ok (.iload 5, 2) := by decide +kernel
theorem dX3_find_64 : decode cX3_find 64 = .ok (.invokevirtual 111, 3) := by decide +kernel
theorem dX3_find_67 : decode cX3_find 67 = .ok (.ifCond .eq 7, 3) := by decide +kernel
theorem dX3_find_70 : decode cX3_find 70 = .ok (.iload 5, 2) := by decide +kernel
theorem dX3_find_72 : decode cX3_find 72 = .ok (.istore 4, 2) := by decide +kernel
theorem dX3_find_74 : decode cX3_find 74 = .ok (.iinc 5 1, 3) := by decide +kernel
theorem dX3_find_77 : decode cX3_find 77 = .ok (.goto (-63), 3) := by decide +kernel
theorem dX3_find_80 : decode cX3_find 80 = .ok (.iload 4, 2) := by decide +kernel
theorem dX3_find_82 : decode cX3_find 82 = .ok (.ireturn, 1) := by decide +kernel
set_option maxRecDepth 20000 in
theorem ggX3_rule_X3_needRope : GoodIn wsX3_rule wsX3_needRope := goodIn_ca (goodIn_r _ [5, 6, 7] (by decide +kernel) (by decide +kernel)) (goodIn_sub (fun _ h => List.mem_cons_of_mem _ (List.mem_append_right _ h)) (by decide +kernel))
set_option maxRecDepth 20000 in
theorem gX3_rule_X3_needRope : GoodIn wsX3_rule (va_wsS RX3 52 yX3_needRope wsX3_needRope) := goodIn_app (goodIn_of _ (by decide +kernel)) ggX3_rule_X3_needRope
set_option maxRecDepth 20000 in
theorem ggX3_rule_X3_addRule : GoodIn wsX3_rule wsX3_addRule := goodIn_r _ [11, 12, 13, 14, 15, 16, 17, 4, 18, 19, 20, 21, 22, 23, 24, 25, 26, 27, 28, 29, 30, 31, 32, 33, 34, 35, 36, 37, 38, 39, 49, 50, 40, 41, 42, 43, 44, 45, 46, 47, 48, 51, 52, 53, 54, 55, 56, 57, 58] (by decide +kernel) (by decide +kernel)
set_option maxRecDepth 20000 in
theorem gX3_rule_X3_addRule : GoodIn wsX3_rule (wsV RX3 115 RX3 yX3_addRule wsX3_addRule) := goodIn_app (goodIn_of _ (by decide +kernel)) ggX3_rule_X3_addRule
theorem dX3_rule_0 : decode cX3_rule 0 = .ok (.iload_n 1, 1) := by decide +kernel
theorem dX3_rule_1 : decode cX3_rule 1 = .ok (.invokestatic 52, 3) := by decide +kernel
theorem dX3_rule_4 : decode cX3_rule 4 = .ok (.iload_n 2, 1) := by decide +kernel
theorem dX3_rule_5 : decode cX3_rule 5 = .ok (.invokestatic 52, 3) := by decide +kernel
theorem dX3_rule_8 : decode cX3_rule 8 = .ok (.aload_n 0, 1) := by decide +kernel
theorem dX3_rule_9 : decode cX3_rule 9 = .ok (.aload_n 0, 1) := by decide +kernel
theorem dX3_rule_10 : decode cX3_rule 10 = .ok (.getfield 11, 3) := by decide +kernel
theorem dX3_rule_13 : decode cX3_rule 13 = .ok (.iload_n 1, 1) := by decide +kernel
theorem dX3_rule_14 : decode cX3_rule 14 = .ok (.aaload, 1) := by decide +kernel
theorem dX3_rule_15 : decode cX3_rule 15 = .ok (.aload_n 0, 1) := by decide +kernel
theorem dX3_rule_16 : decode cX3_rule 16 = .ok (.getfield 11, 3) := by decide +kernel
theorem dX3_rule_19 : decode cX3_rule 19 = .ok (.iload_n 2, 1) := by decide +kernel
theorem dX3_rule_20 : decode cX3_rule 20 = .ok (.aaload, 1) := by decide +kernel
theorem dX3_rule_21 : decode cX3_rule 21 = .ok (.invokevirtual 115, 3) := by decide +kernel
theorem dX3_rule_24 : decode cX3_rule 24 = .ok (.ireturn, 1) := by decide +kernel
set_option maxRecDepth 20000 in
theorem ggX3_falling_X3_needRope : GoodIn wsX3_falling wsX3_needRope := goodIn_ca (goodIn_r _ [5, 6, 7] (by decide +kernel) (by decide +kernel)) (goodIn_sub (fun _ h => List.mem_cons_of_mem _ (List.mem_append_right _ h)) (by decide +kernel))
set_option maxRecDepth 20000 in
theorem gX3_falling_X3_needRope : GoodIn wsX3_falling (va_wsS RX3 52 yX3_needRope wsX3_needRope) := goodIn_app (goodIn_of _ (by decide +kernel)) ggX3_falling_X3_needRope
set_option maxRecDepth 20000 in
theorem ggX3_falling_X3_addFallingRule : GoodIn wsX3_falling wsX3_addFallingRule := goodIn_r _ [11, 12, 13, 14, 15, 16, 17, 18, 19, 20, 21, 4, 22, 23, 24, 25, 26, 27, 28, 29, 30, 31, 32, 33, 34, 35, 36, 37, 38, 39, 40, 41, 42, 43, 44, 45, 46, 47, 57, 58, 48, 49, 50, 51, 52, 53, 54, 55, 56, 59, 60, 61, 62, 63, 64, 65, 66] (by decide +kernel) (by decide +kernel)
set_option maxRecDepth 20000 in
theorem gX3_falling_X3_addFallingRule : GoodIn wsX3_falling (wsV RX3 119 RX3 yX3_addFallingRule wsX3_addFallingRule) := goodIn_app (goodIn_of _ (by decide +kernel)) ggX3_falling_X3_addFallingRule
theorem dX3_falling_0 : decode cX3_falling 0 = .ok (.iload_n 1, 1) := by decide +kernel
theorem dX3_falling_1 : decode cX3_falling 1 = .ok (.invokestatic 52, 3) := by decide +kernel
theorem dX3_falling_4 : decode cX3_falling 4 = .ok (.iload_n 2, 1) := by decide +kernel
theorem dX3_falling_5 : decode cX3_falling 5 = .ok (.invokestatic 52, 3) := by decide +kernel
theorem dX3_falling_8 : decode cX3_falling 8 = .ok (.aload_n 0, 1) := by decide +kernel
theorem dX3_falling_9 : decode cX3_falling 9 = .ok (.aload_n 0, 1) := by decide +kernel
theorem dX3_falling_10 : decode cX3_falling 10 = .ok (.getfield 11, 3) := by decide +kernel
theorem dX3_falling_13 : decode cX3_falling 13 = .ok (.iload_n 1, 1) := by decide +kernel
theorem dX3_falling_14 : decode cX3_falling 14 = .ok (.aaload, 1) := by decide +kernel
theorem dX3_falling_15 : decode cX3_falling 15 = .ok (.aload_n 0, 1) := by decide +kernel
theorem dX3_falling_16 : decode cX3_falling 16 = .ok (.getfield 11, 3) := by decide +kernel
theorem dX3_falling_19 : decode cX3_falling 19 = .ok (.iload_n 2, 1) := by decide +kernel
theorem dX3_falling_20 : decode cX3_falling 20 = .ok (.aaload, 1) := by decide +kernel
theorem dX3_falling_21 : decode cX3_falling 21 = .ok (.invokevirtual 119, 3) := by decide +kernel
theorem dX3_falling_24 : decode cX3_falling 24 = .ok (.ireturn, 1) := by decide +kernel
set_option maxRecDepth 20000 in
theorem ggX3_drop_X3_needRule : GoodIn wsX3_drop wsX3_needRule := goodIn_ca (goodIn_r _ [7, 8, 9, 1, 2, 30, 31, 32, 33, 34, 35, 36, 37, 38, 39, 40, 41, 42, 43, 44, 45, 46] (by decide +kernel) (by decide +kernel)) (goodIn_sub (fun _ h => List.mem_cons_of_mem _ (List.mem_append_right _ h)) (by decide +kernel))
set_option maxRecDepth 20000 in
theorem gX3_drop_X3_needRule : GoodIn wsX3_drop (wsV RX3 122 RX3 yX3_needRule wsX3_needRule) := goodIn_app (goodIn_of _ (by decide +kernel)) ggX3_drop_X3_needRule
theorem dX3_drop_0 : decode cX3_drop 0 = .ok (.aload_n 0, 1) := by decide +kernel
theorem dX3_drop_1 : decode cX3_drop 1 = .ok (.iload_n 1, 1) := by decide +kernel
theorem dX3_drop_2 : decode cX3_drop 2 = .ok (.invokevirtual 122, 3) := by decide +kernel
theorem dX3_drop_5 : decode cX3_drop 5 = .ok (.aload_n 0, 1) := by decide +kernel
theorem dX3_drop_6 : decode cX3_drop 6 = .ok (.getfield 18, 3) := by decide +kernel
theorem dX3_drop_9 : decode cX3_drop 9 = .ok (.iload_n 1, 1) := by decide +kernel
theorem dX3_drop_10 : decode cX3_drop 10 = .ok (.invokevirtual 125, 3) := by decide +kernel
theorem dX3_drop_13 : decode cX3_drop 13 = .ok (.aload_n 0, 1) := by decide +kernel
theorem dX3_drop_14 : decode cX3_drop 14 = .ok (.getfield 18, 3) := by decide +kernel
theorem dX3_drop_17 : decode cX3_drop 17 = .ok (.getfield 128, 3) := by decide +kernel
theorem dX3_drop_20 : decode cX3_drop 20 = .ok (.ireturn, 1) := by decide +kernel
set_option maxRecDepth 20000 in
theorem ggX3_noRules_X1_takeAllOut : GoodIn wsX3_noRules wsX1_takeAllOut := goodIn_r _ [7, 8, 9, 19, 20, 21, 22, 23, 24, 25, 26] (by decide +kernel) (by decide +kernel)
set_option maxRecDepth 20000 in
theorem gX3_noRules_X1_takeAllOut : GoodIn wsX3_noRules (wsV RX3 131 RX1 yX1_takeAllOut wsX1_takeAllOut) := goodIn_app (goodIn_of _ (by decide +kernel)) ggX3_noRules_X1_takeAllOut
theorem dX3_noRules_0 : decode cX3_noRules 0 = .ok (.aload_n 0, 1) := by decide +kernel
theorem dX3_noRules_1 : decode cX3_noRules 1 = .ok (.getfield 18, 3) := by decide +kernel
theorem dX3_noRules_4 : decode cX3_noRules 4 = .ok (.getfield 128, 3) := by decide +kernel
theorem dX3_noRules_7 : decode cX3_noRules 7 = .ok (.istore_n 1, 1) := by decide +kernel
theorem dX3_noRules_8 : decode cX3_noRules 8 = .ok (.aload_n 0, 1) := by decide +kernel
theorem dX3_noRules_9 : decode cX3_noRules 9 = .ok (.getfield 18, 3) := by decide +kernel
theorem dX3_noRules_12 : decode cX3_noRules 12 = .ok (.invokevirtual 131, 3) := by decide +kernel
theorem dX3_noRules_15 : decode cX3_noRules 15 = .ok (.iload_n 1, 1) := by decide +kernel
theorem dX3_noRules_16 : decode cX3_noRules 16 = .ok (.ireturn, 1) := by decide +kernel
set_option maxRecDepth 20000 in
theorem ggX3_flip_X3_needRule : GoodIn wsX3_flip wsX3_needRule := goodIn_ca (goodIn_r _ [8, 9, 10, 1, 11, 45, 46, 47, 48, 49, 50, 51, 52, 53, 54, 55, 56, 57, 58, 59, 60, 61] (by decide +kernel) (by decide +kernel)) (goodIn_sub (fun _ h => List.mem_cons_of_mem _ (List.mem_append_right _ h)) (by decide +kernel))
set_option maxRecDepth 20000 in
theorem gX3_flip_X3_needRule : GoodIn wsX3_flip (wsV RX3 122 RX3 yX3_needRule wsX3_needRule) := goodIn_app (goodIn_of _ (by decide +kernel)) ggX3_flip_X3_needRule
set_option maxRecDepth 20000 in
theorem ggX3_flip_X3_refuse : GoodIn wsX3_flip wsX3_refuse := goodIn_r _ [15, 16, 45, 46, 47, 48, 49, 50, 51, 52, 53] (by decide +kernel) (by decide +kernel)
set_option maxRecDepth 20000 in
theorem gX3_flip_X3_refuse : GoodIn wsX3_flip (wsV RX3 87 RX3 yX3_refuse wsX3_refuse) := goodIn_app (goodIn_of _ (by decide +kernel)) ggX3_flip_X3_refuse
theorem dX3_flip_0 : decode cX3_flip 0 = .ok (.aload_n 0, 1) := by decide +kernel
theorem dX3_flip_1 : decode cX3_flip 1 = .ok (.iload_n 1, 1) := by decide +kernel
theorem dX3_flip_2 : decode cX3_flip 2 = .ok (.invokevirtual 122, 3) := by decide +kernel
theorem dX3_flip_5 : decode cX3_flip 5 = .ok (.aload_n 0, 1) := by decide +kernel
theorem dX3_flip_6 : decode cX3_flip 6 = .ok (.getfield 18, 3) := by decide +kernel
theorem dX3_flip_9 : decode cX3_flip 9 = .ok (.getfield 134, 3) := by decide +kernel
theorem dX3_flip_12 : decode cX3_flip 12 = .ok (.iload_n 1, 1) := by decide +kernel
theorem dX3_flip_13 : decode cX3_flip 13 = .ok (.aaload, 1) := by decide +kernel
theorem dX3_flip_14 : decode cX3_flip 14 = .ok (.getfield 65, 3) := by decide +kernel
theorem dX3_flip_17 : decode cX3_flip 17 = .ok (.ifCond .ne 8, 3) := by decide +kernel
theorem dX3_flip_20 : decode cX3_flip 20 = .ok (.aload_n 0, 1) := by decide +kernel
theorem dX3_flip_21 : decode cX3_flip 21 = .ok (.invokevirtual 87, 3) := by decide +kernel
theorem dX3_flip_24 : decode cX3_flip 24 = .ok (.ireturn, 1) := by decide +kernel
theorem dX3_flip_25 : decode cX3_flip 25 = .ok (.aload_n 0, 1) := by decide +kernel
theorem dX3_flip_26 : decode cX3_flip 26 = .ok (.getfield 18, 3) := by decide +kernel
theorem dX3_flip_29 : decode cX3_flip 29 = .ok (.iload_n 1, 1) := by decide +kernel
theorem dX3_flip_30 : decode cX3_flip 30 = .ok (.invokevirtual 137, 3) := by decide +kernel
theorem dX3_flip_33 : decode cX3_flip 33 = .ok (.aload_n 0, 1) := by decide +kernel
theorem dX3_flip_34 : decode cX3_flip 34 = .ok (.getfield 18, 3) := by decide +kernel
theorem dX3_flip_37 : decode cX3_flip 37 = .ok (.iload_n 1, 1) := by decide +kernel
theorem dX3_flip_38 : decode cX3_flip 38 = .ok (.invokevirtual 140, 3) := by decide +kernel
theorem dX3_flip_41 : decode cX3_flip 41 = .ok (.ifCond .eq 7, 3) := by decide +kernel
theorem dX3_flip_44 : decode cX3_flip 44 = .ok (.iconst 1, 1) := by decide +kernel
theorem dX3_flip_45 : decode cX3_flip 45 = .ok (.goto 4, 3) := by decide +kernel
theorem dX3_flip_48 : decode cX3_flip 48 = .ok (.iconst 0, 1) := by decide +kernel
theorem dX3_flip_49 : decode cX3_flip 49 = .ok (.ireturn, 1) := by decide +kernel
set_option maxRecDepth 20000 in
theorem ggX3_side_X3_needRope : GoodIn wsX3_side wsX3_needRope := goodIn_ca (goodIn_r _ [9, 10, 11] (by decide +kernel) (by decide +kernel)) (goodIn_sub (fun _ h => List.mem_cons_of_mem _ (List.mem_append_right _ h)) (by decide +kernel))
set_option maxRecDepth 20000 in
theorem gX3_side_X3_needRope : GoodIn wsX3_side (va_wsS RX3 52 yX3_needRope wsX3_needRope) := goodIn_app (goodIn_of _ (by decide +kernel)) ggX3_side_X3_needRope
set_option maxRecDepth 20000 in
theorem ggX3_side_X3_needRule : GoodIn wsX3_side wsX3_needRule := goodIn_ca (goodIn_r _ [15, 10, 11, 2, 16, 28, 29, 30, 31, 32, 33, 34, 35, 36, 37, 38, 39, 40, 41, 42, 43, 44] (by decide +kernel) (by decide +kernel)) (goodIn_sub (fun _ h => List.mem_cons_of_mem _ (List.mem_append_right _ h)) (by decide +kernel))
set_option maxRecDepth 20000 in
theorem gX3_side_X3_needRule : GoodIn wsX3_side (wsV RX3 122 RX3 yX3_needRule wsX3_needRule) := goodIn_app (goodIn_of _ (by decide +kernel)) ggX3_side_X3_needRule
set_option maxRecDepth 20000 in
theorem ggX3_side_X2_become : GoodIn wsX3_side wsX2_become := goodIn_r _ [21, 22, 23, 24, 25, 26, 27, 45, 46] (by decide +kernel) (by decide +kernel)
set_option maxRecDepth 20000 in
theorem gX3_side_X2_become : GoodIn wsX3_side (wsV RX3 79 RX2 yX2_become wsX2_become) := goodIn_app (goodIn_of _ (by decide +kernel)) ggX3_side_X2_become
theorem dX3_side_0 : decode cX3_side 0 = .ok (.iload_n 1, 1) := by decide +kernel
theorem dX3_side_1 : decode cX3_side 1 = .ok (.invokestatic 52, 3) := by decide +kernel
theorem dX3_side_4 : decode cX3_side 4 = .ok (.aload_n 0, 1) := by decide +kernel
theorem dX3_side_5 : decode cX3_side 5 = .ok (.iload_n 2, 1) := by decide +kernel
theorem dX3_side_6 : decode cX3_side 6 = .ok (.invokevirtual 122, 3) := by decide +kernel
theorem dX3_side_9 : decode cX3_side 9 = .ok (.aload_n 0, 1) := by decide +kernel
theorem dX3_side_10 : decode cX3_side 10 = .ok (.getfield 11, 3) := by decide +kernel
theorem dX3_side_13 : decode cX3_side 13 = .ok (.iload_n 1, 1) := by decide +kernel
theorem dX3_side_14 : decode cX3_side 14 = .ok (.aaload, 1) := by decide +kernel
theorem dX3_side_15 : decode cX3_side 15 = .ok (.iload_n 3, 1) := by decide +kernel
theorem dX3_side_16 : decode cX3_side 16 = .ok (.ifCond .eq 15, 3) := by decide +kernel
theorem dX3_side_19 : decode cX3_side 19 = .ok (.aload_n 0, 1) := by decide +kernel
theorem dX3_side_20 : decode cX3_side 20 = .ok (.getfield 18, 3) := by decide +kernel
theorem dX3_side_23 : decode cX3_side 23 = .ok (.getfield 134, 3) := by decide +kernel
theorem dX3_side_26 : decode cX3_side 26 = .ok (.iload_n 2, 1) := by decide +kernel
theorem dX3_side_27 : decode cX3_side 27 = .ok (.aaload, 1) := by decide +kernel
theorem dX3_side_28 : decode cX3_side 28 = .ok (.goto 12, 3) := by decide +kernel
theorem dX3_side_31 : decode cX3_side 31 = .ok (.aload_n 0, 1) := by decide +kernel
theorem dX3_side_32 : decode cX3_side 32 = .ok (.getfield 18, 3) := by decide +kernel
theorem dX3_side_35 : decode cX3_side 35 = .ok (.getfield 144, 3) := by decide +kernel
theorem dX3_side_38 : decode cX3_side 38 = .ok (.iload_n 2, 1) := by decide +kernel
theorem dX3_side_39 : decode cX3_side 39 = .ok (.aaload, 1) := by decide +kernel
theorem dX3_side_40 : decode cX3_side 40 = .ok (.invokevirtual 79, 3) := by decide +kernel
theorem dX3_side_43 : decode cX3_side 43 = .ok (.aload_n 0, 1) := by decide +kernel
theorem dX3_side_44 : decode cX3_side 44 = .ok (.getfield 11, 3) := by decide +kernel
theorem dX3_side_47 : decode cX3_side 47 = .ok (.iload_n 1, 1) := by decide +kernel
theorem dX3_side_48 : decode cX3_side 48 = .ok (.aaload, 1) := by decide +kernel
theorem dX3_side_49 : decode cX3_side 49 = .ok (.getfield 65, 3) := by decide +kernel
theorem dX3_side_52 : decode cX3_side 52 = .ok (.ireturn, 1) := by decide +kernel
theorem dX3_rules_0 : decode cX3_rules 0 = .ok (.aload_n 0, 1) := by decide +kernel
theorem dX3_rules_1 : decode cX3_rules 1 = .ok (.getfield 18, 3) := by decide +kernel
theorem dX3_rules_4 : decode cX3_rules 4 = .ok (.getfield 128, 3) := by decide +kernel
theorem dX3_rules_7 : decode cX3_rules 7 = .ok (.ireturn, 1) := by decide +kernel
set_option maxRecDepth 20000 in
theorem ggX3_ruleText_X3_needRule : GoodIn wsX3_ruleText wsX3_needRule := goodIn_ca (goodIn_r _ [11, 12, 13, 4, 14, 207, 208, 209, 210, 211, 212, 213, 214, 215, 216, 217, 218, 219, 220, 221, 222, 223] (by decide +kernel) (by decide +kernel)) (goodIn_sub (fun _ h => List.mem_cons_of_mem _ (List.mem_append_right _ h)) (by decide +kernel))
set_option maxRecDepth 20000 in
theorem gX3_ruleText_X3_needRule : GoodIn wsX3_ruleText (wsV RX3 122 RX3 yX3_needRule wsX3_needRule) := goodIn_app (goodIn_of _ (by decide +kernel)) ggX3_ruleText_X3_needRule
set_option maxRecDepth 20000 in
theorem ggX3_ruleText_J4_init_da8c8 : GoodIn wsX3_ruleText wsJ4_init_da8c8 := goodIn_r _ [17, 18, 19, 20, 21, 22, 23, 24, 25, 26, 27, 28, 29, 30, 31, 32, 33, 34, 35, 36, 203, 204, 205, 206] (by decide +kernel) (by decide +kernel)
set_option maxRecDepth 20000 in
theorem gX3_ruleText_J4_init_da8c8 : GoodIn wsX3_ruleText (wsJ4_init_da8c8) := ggX3_ruleText_J4_init_da8c8
set_option maxRecDepth 20000 in
theorem ggX3_ruleText_X2_appendTo : GoodIn wsX3_ruleText wsX2_appendTo := goodIn_r _ [41, 42, 43, 44, 45, 46, 3, 47, 48, 49, 50, 51, 20, 52, 53, 27, 54, 55, 56, 57, 58, 28, 59, 60, 61, 62, 63, 64, 65, 66, 67, 68, 69, 70, 71, 72, 73, 74, 75, 76, 77, 78, 79, 80, 81, 82, 83, 84, 85, 86, 26, 87, 88, 89, 90, 91, 92, 93, 94, 95, 96, 97, 98, 25, 99, 100, 101, 102, 103, 104, 105, 106, 107, 29, 30, 31, 32, 33, 34, 35, 36, 108, 109, 110, 111, 112, 113, 114, 115, 116, 117, 118, 119, 120, 121, 122, 123, 124, 125, 126, 127, 128, 129, 130, 131, 132, 133, 134, 135, 136, 137, 138, 139, 140, 141, 142, 143, 144, 145, 146, 224, 225, 203, 204, 205, 206] (by decide +kernel) (by decide +kernel)
set_option maxRecDepth 20000 in
theorem gX3_ruleText_X2_appendTo : GoodIn wsX3_ruleText (wsV RX3 150 RX2 yX2_appendTo wsX2_appendTo) := goodIn_app (goodIn_of _ (by decide +kernel)) ggX3_ruleText_X2_appendTo
set_option maxRecDepth 20000 in
theorem ggX3_ruleText_J4_toString_0e30d : GoodIn wsX3_ruleText wsJ4_toString_0e30d := goodIn_r _ [151, 152, 153, 122, 154, 155, 156, 157, 158, 159, 160, 23, 24, 161, 162, 163, 164, 165, 166, 167, 168, 20, 169, 27, 170, 171, 172, 173, 174, 3, 175, 176, 50, 177, 178, 53, 179, 95, 96, 97, 98, 25, 28, 180, 181, 79, 182, 81, 82, 83, 84, 85, 86, 183, 184, 185, 26, 87, 88, 71, 89, 90, 91, 92, 93, 186, 187, 188, 189, 2, 190, 191, 31, 192, 193, 194, 195, 114, 115, 116, 117, 118, 119, 120, 121, 123, 124, 125, 126, 127, 128, 196, 197, 198, 132, 133, 134, 33, 34, 35, 36, 199, 200, 201, 202, 226, 227, 228, 229, 203, 204, 205, 206] (by decide +kernel) (by decide +kernel)
set_option maxRecDepth 20000 in
theorem gX3_ruleText_J4_toString_0e30d : GoodIn wsX3_ruleText (wsV RX3 158 RJ4 yJ4_toString_0e30d wsJ4_toString_0e30d) := goodIn_app (goodIn_of _ (by decide +kernel)) ggX3_ruleText_J4_toString_0e30d
theorem dX3_ruleText_0 : decode cX3_ruleText 0 = .ok (.aload_n 0, 1) := by decide +kernel
theorem dX3_ruleText_1 : decode cX3_ruleText 1 = .ok (.iload_n 1, 1) := by decide +kernel
theorem dX3_ruleText_2 : decode cX3_ruleText 2 = .ok (.invokevirtual 122, 3) := by decide +kernel
theorem dX3_ruleText_5 : decode cX3_ruleText 5 = .ok (.new 147, 3) := by decide +kernel
theorem dX3_ruleText_8 : decode cX3_ruleText 8 = .ok (.dup, 1) := by decide +kernel
theorem dX3_ruleText_9 : decode cX3_ruleText 9 = .ok (.invokespecial 149, 3) := by decide +kernel
theorem dX3_ruleText_12 : decode cX3_ruleText 12 = .ok (.astore_n 2, 1) := by decide +kernel
theorem dX3_ruleText_13 : decode cX3_ruleText 13 = .ok (.aload_n 0, 1) := by decide +kernel
theorem dX3_ruleText_14 : decode cX3_ruleText 14 = .ok (.getfield 18, 3) := by decide +kernel
theorem dX3_ruleText_17 : decode cX3_ruleText 17 = .ok (.getfield 144, 3) := by decide +kernel
theorem dX3_ruleText_20 : decode cX3_ruleText 20 = .ok (.iload_n 1, 1) := by decide +kernel
theorem dX3_ruleText_21 : decode cX3_ruleText 21 = .ok (.aaload, 1) := by decide +kernel
theorem dX3_ruleText_22 : decode cX3_ruleText 22 = .ok (.aload_n 2, 1) := by decide +kernel
theorem dX3_ruleText_23 : decode cX3_ruleText 23 = .ok (.invokevirtual 150, 3) := by decide +kernel
theorem dX3_ruleText_26 : decode cX3_ruleText 26 = .ok (.aload_n 2, 1) := by decide +kernel
theorem dX3_ruleText_27 : decode cX3_ruleText 27 = .ok (.bipush 62, 2) := by decide +kernel
theorem dX3_ruleText_29 : decode cX3_ruleText 29 = .ok (.invokevirtual 154, 3) := by decide +kernel
theorem dX3_ruleText_32 : decode cX3_ruleText 32 = .ok (.pop, 1) := by decide +kernel
theorem dX3_ruleText_33 : decode cX3_ruleText 33 = .ok (.aload_n 0, 1) := by decide +kernel
theorem dX3_ruleText_34 : decode cX3_ruleText 34 = .ok (.getfield 18, 3) := by decide +kernel
theorem dX3_ruleText_37 : decode cX3_ruleText 37 = .ok (.getfield 134, 3) := by decide +kernel
theorem dX3_ruleText_40 : decode cX3_ruleText 40 = .ok (.iload_n 1, 1) := by decide +kernel
theorem dX3_ruleText_41 : decode cX3_ruleText 41 = .ok (.aaload, 1) := by decide +kernel
theorem dX3_ruleText_42 : decode cX3_ruleText 42 = .ok (.aload_n 2, 1) := by decide +kernel
theorem dX3_ruleText_43 : decode cX3_ruleText 43 = .ok (.invokevirtual 150, 3) := by decide +kernel
theorem dX3_ruleText_46 : decode cX3_ruleText 46 = .ok (.aload_n 2, 1) := by decide +kernel
theorem dX3_ruleText_47 : decode cX3_ruleText 47 = .ok (.invokevirtual 158, 3) := by decide +kernel
theorem dX3_ruleText_50 : decode cX3_ruleText 50 = .ok (.areturn, 1) := by decide +kernel
set_option maxRecDepth 20000 in
theorem ggX3_falls_X3_needRule : GoodIn wsX3_falls wsX3_needRule := goodIn_ca (goodIn_r _ [6, 7, 8, 1, 9, 24, 25, 26, 27, 28, 29, 30, 31, 32, 33, 34, 35, 36, 37, 38, 39, 40] (by decide +kernel) (by decide +kernel)) (goodIn_sub (fun _ h => List.mem_cons_of_mem _ (List.mem_append_right _ h)) (by decide +kernel))
set_option maxRecDepth 20000 in
theorem gX3_falls_X3_needRule : GoodIn wsX3_falls (wsV RX3 122 RX3 yX3_needRule wsX3_needRule) := goodIn_app (goodIn_of _ (by decide +kernel)) ggX3_falls_X3_needRule
theorem dX3_falls_0 : decode cX3_falls 0 = .ok (.aload_n 0, 1) := by decide +kernel
theorem dX3_falls_1 : decode cX3_falls 1 = .ok (.iload_n 1, 1) := by decide +kernel
theorem dX3_falls_2 : decode cX3_falls 2 = .ok (.invokevirtual 122, 3) := by decide +kernel
theorem dX3_falls_5 : decode cX3_falls 5 = .ok (.aload_n 0, 1) := by decide +kernel
theorem dX3_falls_6 : decode cX3_falls 6 = .ok (.getfield 18, 3) := by decide +kernel
theorem dX3_falls_9 : decode cX3_falls 9 = .ok (.iload_n 1, 1) := by decide +kernel
theorem dX3_falls_10 : decode cX3_falls 10 = .ok (.invokevirtual 140, 3) := by decide +kernel
theorem dX3_falls_13 : decode cX3_falls 13 = .ok (.ireturn, 1) := by decide +kernel
set_option maxRecDepth 20000 in
theorem ggX3_areFalling_X1_areAllFalling : GoodIn wsX3_areFalling wsX1_areAllFalling := goodIn_r _ [6, 7, 8, 9, 10, 5, 11, 12, 13, 14, 15, 16, 17, 18, 19, 20, 30, 31, 32, 33, 34, 35, 36, 37, 38, 39] (by decide +kernel) (by decide +kernel)
set_option maxRecDepth 20000 in
theorem gX3_areFalling_X1_areAllFalling : GoodIn wsX3_areFalling (wsV RX3 161 RX1 yX1_areAllFalling wsX1_areAllFalling) := goodIn_app (goodIn_of _ (by decide +kernel)) ggX3_areFalling_X1_areAllFalling
theorem dX3_areFalling_0 : decode cX3_areFalling 0 = .ok (.aload_n 0, 1) := by decide +kernel
theorem dX3_areFalling_1 : decode cX3_areFalling 1 = .ok (.getfield 18, 3) := by decide +kernel
theorem dX3_areFalling_4 : decode cX3_areFalling 4 = .ok (.invokevirtual 161, 3) := by decide +kernel
theorem dX3_areFalling_7 : decode cX3_areFalling 7 = .ok (.ireturn, 1) := by decide +kernel
set_option maxRecDepth 20000 in
theorem ggX3_step_X3_needRope : GoodIn wsX3_step wsX3_needRope := goodIn_ca (goodIn_r _ [6, 7, 8] (by decide +kernel) (by decide +kernel)) (goodIn_sub (fun _ h => List.mem_cons_of_mem _ (List.mem_append_left _ (List.mem_append_right _ h))) (by decide +kernel))
set_option maxRecDepth 20000 in
theorem gX3_step_X3_needRope : GoodIn wsX3_step (va_wsS RX3 52 yX3_needRope wsX3_needRope) := goodIn_app (goodIn_of _ (by decide +kernel)) ggX3_step_X3_needRope
set_option maxRecDepth 20000 in
theorem ggX3_step_X3_needWay : GoodIn wsX3_step wsX3_needWay := goodIn_ca (goodIn_r _ [11, 12, 13] (by decide +kernel) (by decide +kernel)) (goodIn_sub (fun _ h => List.mem_cons_of_mem _ (List.mem_append_right _ h)) (by decide +kernel))
set_option maxRecDepth 20000 in
theorem gX3_step_X3_needWay : GoodIn wsX3_step (va_wsS RX3 165 yX3_needWay wsX3_needWay) := goodIn_app (goodIn_of _ (by decide +kernel)) ggX3_step_X3_needWay
set_option maxRecDepth 20000 in
theorem ggX3_step_X1_spotByWay : GoodIn wsX3_step wsX1_spotByWay := goodIn_r _ [18, 19, 20, 21, 17, 22, 23, 24, 25, 26, 27, 28, 29, 30, 31, 32, 33, 34, 35, 36, 37, 38, 39, 40, 41, 42, 43, 44, 45, 46, 84, 85, 86, 87, 88, 89, 90, 91, 92, 93] (by decide +kernel) (by decide +kernel)
set_option maxRecDepth 20000 in
theorem gX3_step_X1_spotByWay : GoodIn wsX3_step (wsV RX3 168 RX1 yX1_spotByWay wsX1_spotByWay) := goodIn_app (goodIn_of _ (by decide +kernel)) ggX3_step_X1_spotByWay
set_option maxRecDepth 20000 in
theorem ggX3_step_X1_placeOf : GoodIn wsX3_step wsX1_placeOf := goodIn_r _ [46] (by decide +kernel) (by decide +kernel)
set_option maxRecDepth 20000 in
theorem gX3_step_X1_placeOf : GoodIn wsX3_step (va_wsS RX3 176 yX1_placeOf wsX1_placeOf) := goodIn_app (goodIn_of _ (by decide +kernel)) ggX3_step_X1_placeOf
set_option maxRecDepth 20000 in
theorem ggX3_step_X3_refuse : GoodIn wsX3_step wsX3_refuse := goodIn_r _ [73, 74, 75, 76, 77, 78, 79, 80, 81, 82, 83] (by decide +kernel) (by decide +kernel)
set_option maxRecDepth 20000 in
theorem gX3_step_X3_refuse : GoodIn wsX3_step (wsV RX3 87 RX3 yX3_refuse wsX3_refuse) := goodIn_app (goodIn_of _ (by decide +kernel)) ggX3_step_X3_refuse
theorem dX3_step_0 : decode cX3_step 0 = .ok (.iload_n 1, 1) := by decide +kernel
theorem dX3_step_1 : decode cX3_step 1 = .ok (.invokestatic 52, 3) := by decide +kernel
theorem dX3_step_4 : decode cX3_step 4 = .ok (.iload_n 2, 1) := by decide +kernel
theorem dX3_step_5 : decode cX3_step 5 = .ok (.invokestatic 165, 3) := by decide +kernel
theorem dX3_step_8 : decode cX3_step 8 = .ok (.aload_n 0, 1) := by decide +kernel
theorem dX3_step_9 : decode cX3_step 9 = .ok (.getfield 18, 3) := by decide +kernel
theorem dX3_step_12 : decode cX3_step 12 = .ok (.aload_n 0, 1) := by decide +kernel
theorem dX3_step_13 : decode cX3_step 13 = .ok (.getfield 11, 3) := by decide +kernel
theorem dX3_step_16 : decode cX3_step 16 = .ok (.iload_n 1, 1) := by decide +kernel
theorem dX3_step_17 : decode cX3_step 17 = .ok (.aaload, 1) := by decide +kernel
theorem dX3_step_18 : decode cX3_step 18 = .ok (.iload_n 2, 1) := by decide +kernel
theorem dX3_step_19 : decode cX3_step 19 = .ok (.invokevirtual 168, 3) := by decide +kernel
theorem dX3_step_22 : decode cX3_step 22 = .ok (.istore_n 3, 1) := by decide +kernel
theorem dX3_step_23 : decode cX3_step 23 = .ok (.iload_n 3, 1) := by decide +kernel
theorem dX3_step_24 : decode cX3_step 24 = .ok (.iconst (-1), 1) := by decide +kernel
theorem dX3_step_25 : decode cX3_step 25 = .ok (.if_icmp .ne 5, 3) := by decide +kernel
theorem dX3_step_28 : decode cX3_step 28 = .ok (.iconst (-1), 1) := by decide +kernel
theorem dX3_step_29 : decode cX3_step 29 = .ok (.ireturn, 1) := by decide +kernel
theorem dX3_step_30 : decode cX3_step 30 = .ok (.aload_n 0, 1) := by decide +kernel
theorem dX3_step_31 : decode cX3_step 31 = .ok (.iload_n 1, 1) := by decide +kernel
theorem dX3_step_32 : decode cX3_step 32 = .ok (.iload_n 3, 1) := by decide +kernel
theorem dX3_step_33 : decode cX3_step 33 = .ok (.invokevirtual 172, 3) := by decide +kernel
theorem dX3_step_36 : decode cX3_step 36 = .ok (.ifCond .eq 10, 3) := by decide +kernel
theorem dX3_step_39 : decode cX3_step 39 = .ok (.iload_n 3, 1) := by decide +kernel
theorem dX3_step_40 : decode cX3_step 40 = .ok (.invokestatic 176, 3) := by decide +kernel
theorem dX3_step_43 : decode cX3_step 43 = .ok (.goto 7, 3) := by decide +kernel
theorem dX3_step_46 : decode cX3_step 46 = .ok (.aload_n 0, 1) := by decide +kernel
theorem dX3_step_47 : decode cX3_step 47 = .ok (.invokevirtual 87, 3) := by decide +kernel
theorem dX3_step_50 : decode cX3_step 50 = .ok (.ireturn, 1) := by decide +kernel
set_option maxRecDepth 20000 in
theorem ggX3_run_X3_needRope : GoodIn wsX3_run wsX3_needRope := goodIn_ca (goodIn_r _ [9, 10, 11] (by decide +kernel) (by decide +kernel)) (goodIn_sub (fun _ h => List.mem_cons_of_mem _ (List.mem_append_right _ h)) (by decide +kernel))
set_option maxRecDepth 20000 in
theorem gX3_run_X3_needRope : GoodIn wsX3_run (va_wsS RX3 52 yX3_needRope wsX3_needRope) := goodIn_app (goodIn_of _ (by decide +kernel)) ggX3_run_X3_needRope
set_option maxRecDepth 20000 in
theorem ggX3_run_X3_needWay : GoodIn wsX3_run wsX3_needWay := goodIn_ca (goodIn_r _ [14, 1, 2] (by decide +kernel) (by decide +kernel)) (goodIn_sub (fun _ h => List.mem_cons_of_mem _ (List.mem_append_left _ (List.mem_append_right _ h))) (by decide +kernel))
set_option maxRecDepth 20000 in
theorem gX3_run_X3_needWay : GoodIn wsX3_run (va_wsS RX3 165 yX3_needWay wsX3_needWay) := goodIn_app (goodIn_of _ (by decide +kernel)) ggX3_run_X3_needWay
set_option maxRecDepth 20000 in
theorem ggX3_run_X1_rewriteByWay : GoodIn wsX3_run wsX1_rewriteByWay := goodIn_r _ [19, 20, 21, 22, 18, 23, 24, 25, 26, 27, 28, 29, 30, 31, 32, 33, 34, 35, 36, 37, 38, 39, 40, 41, 42, 43, 44, 45, 46, 47, 48, 49, 50, 51, 52, 53, 54, 55, 56, 57, 58, 59, 60, 61, 62, 63, 64, 65, 66, 67, 68, 78, 79, 80, 81, 82, 83, 84, 85, 86, 87] (by decide +kernel) (by decide +kernel)
set_option maxRecDepth 20000 in
theorem gX3_run_X1_rewriteByWay : GoodIn wsX3_run (wsV RX3 182 RX1 yX1_rewriteByWay wsX1_rewriteByWay) := goodIn_app (goodIn_of _ (by decide +kernel)) ggX3_run_X1_rewriteByWay
theorem dX3_run_0 : decode cX3_run 0 = .ok (.iload_n 1, 1) := by decide +kernel
theorem dX3_run_1 : decode cX3_run 1 = .ok (.invokestatic 52, 3) := by decide +kernel
theorem dX3_run_4 : decode cX3_run 4 = .ok (.iload_n 2, 1) := by decide +kernel
theorem dX3_run_5 : decode cX3_run 5 = .ok (.invokestatic 165, 3) := by decide +kernel
theorem dX3_run_8 : decode cX3_run 8 = .ok (.iload_n 3, 1) := by decide +kernel
theorem dX3_run_9 : decode cX3_run 9 = .ok (.iconst 1, 1) := by decide +kernel
theorem dX3_run_10 : decode cX3_run 10 = .ok (.if_icmp .lt 9, 3) := by decide +kernel
theorem dX3_run_13 : decode cX3_run 13 = .ok (.iload_n 3, 1) := by decide +kernel
theorem dX3_run_14 : decode cX3_run 14 = .ok (.bipush 40, 2) := by decide +kernel
theorem dX3_run_16 : decode cX3_run 16 = .ok (.if_icmp .le 13, 3) := by decide +kernel
theorem dX3_run_19 : decode cX3_run 19 = .ok (.new 95, 3) := by decide +kernel
theorem dX3_run_22 : decode cX3_run 22 = .ok (.dup, 1) := by decide +kernel
theorem dX3_run_23 : decode cX3_run 23 = .ok (.ldc 180, 2) := by decide +kernel
theorem dX3_run_25 : decode cX3_run 25 = .ok (.invokespecial 99, 3) := by decide +kernel
theorem dX3_run_28 : decode cX3_run 28 = .ok (.athrow, 1) := by decide +kernel
theorem dX3_run_29 : decode cX3_run 29 = .ok (.aload_n 0, 1) := by decide +kernel
theorem dX3_run_30 : decode cX3_run 30 = .ok (.getfield 18, 3) := by decide +kernel
theorem dX3_run_33 : decode cX3_run 33 = .ok (.aload_n 0, 1) := by decide +kernel
theorem dX3_run_34 : decode cX3_run 34 = .ok (.getfield 11, 3) := by decide +kernel
theorem dX3_run_37 : decode cX3_run 37 = .ok (.iload_n 1, 1) := by decide +kernel
theorem dX3_run_38 : decode cX3_run 38 = .ok (.aaload, 1) := by decide +kernel
theorem dX3_run_39 : decode cX3_run 39 = .ok (.iload_n 2, 1) := by decide +kernel
theorem dX3_run_40 : decode cX3_run 40 = .ok (.iload_n 3, 1) := by decide +kernel
theorem dX3_run_41 : decode cX3_run 41 = .ok (.invokevirtual 182, 3) := by decide +kernel
theorem dX3_run_44 : decode cX3_run 44 = .ok (.istore 4, 2) := by decide +kernel
theorem dX3_run_46 : decode cX3_run 46 = .ok (.aload_n 0, 1) := by decide +kernel
theorem dX3_run_47 : decode cX3_run 47 = .ok (.dup, 1) := by decide +kernel
theorem dX3_run_48 : decode cX3_run 48 = .ok (.getfield 49, 3) := by decide +kernel
theorem dX3_run_51 : decode cX3_run 51 = .ok (.iload 4, 2) := by decide +kernel
theorem dX3_run_53 : decode cX3_run 53 = .ok (.iadd, 1) := by decide +kernel
theorem dX3_run_54 : decode cX3_run 54 = .ok (.putfield 49, 3) := by decide +kernel
theorem dX3_run_57 : decode cX3_run 57 = .ok (.iload 4, 2) := by decide +kernel
theorem dX3_run_59 : decode cX3_run 59 = .ok (.ireturn, 1) := by decide +kernel
set_option maxRecDepth 20000 in
theorem ggX3_pick_X3_needRope : GoodIn wsX3_pick wsX3_needRope := goodIn_ca (goodIn_r _ [7, 8, 9] (by decide +kernel) (by decide +kernel)) (goodIn_sub (fun _ h => List.mem_cons_of_mem _ (List.mem_append_right _ h)) (by decide +kernel))
set_option maxRecDepth 20000 in
theorem gX3_pick_X3_needRope : GoodIn wsX3_pick (va_wsS RX3 52 yX3_needRope wsX3_needRope) := goodIn_app (goodIn_of _ (by decide +kernel)) ggX3_pick_X3_needRope
set_option maxRecDepth 20000 in
theorem ggX3_pick_X1_spotOfNumber : GoodIn wsX3_pick wsX1_spotOfNumber := goodIn_r _ [14, 15, 16, 17, 18, 13, 19, 20, 21, 22, 23, 24, 25, 26, 27, 28, 29, 30, 31, 32, 33, 34, 71, 72, 73, 74, 75, 76, 77, 78, 79, 80] (by decide +kernel) (by decide +kernel)
set_option maxRecDepth 20000 in
theorem gX3_pick_X1_spotOfNumber : GoodIn wsX3_pick (wsV RX3 186 RX1 yX1_spotOfNumber wsX1_spotOfNumber) := goodIn_app (goodIn_of _ (by decide +kernel)) ggX3_pick_X1_spotOfNumber
set_option maxRecDepth 20000 in
theorem ggX3_pick_X3_refuse : GoodIn wsX3_pick wsX3_refuse := goodIn_r _ [38, 39, 62, 63, 64, 65, 66, 67, 68, 69, 70] (by decide +kernel) (by decide +kernel)
set_option maxRecDepth 20000 in
theorem gX3_pick_X3_refuse : GoodIn wsX3_pick (wsV RX3 87 RX3 yX3_refuse wsX3_refuse) := goodIn_app (goodIn_of _ (by decide +kernel)) ggX3_pick_X3_refuse
theorem dX3_pick_0 : decode cX3_pick 0 = .ok (.iload_n 1, 1) := by decide +kernel
theorem dX3_pick_1 : decode cX3_pick 1 = .ok (.invokestatic 52, 3) := by decide +kernel
theorem dX3_pick_4 : decode cX3_pick 4 = .ok (.aload_n 0, 1) := by decide +kernel
theorem dX3_pick_5 : decode cX3_pick 5 = .ok (.getfield 18, 3) := by decide +kernel
theorem dX3_pick_8 : decode cX3_pick 8 = .ok (.aload_n 0, 1) := by decide +kernel
theorem dX3_pick_9 : decode cX3_pick 9 = .ok (.getfield 11, 3) := by decide +kernel
theorem dX3_pick_12 : decode cX3_pick 12 = .ok (.iload_n 1, 1) := by decide +kernel
theorem dX3_pick_13 : decode cX3_pick 13 = .ok (.aaload, 1) := by decide +kernel
theorem dX3_pick_14 : decode cX3_pick 14 = .ok (.iload_n 2, 1) := by decide +kernel
theorem dX3_pick_15 : decode cX3_pick 15 = .ok (.invokevirtual 186, 3) := by decide +kernel
theorem dX3_pick_18 : decode cX3_pick 18 = .ok (.istore_n 3, 1) := by decide +kernel
theorem dX3_pick_19 : decode cX3_pick 19 = .ok (.iload_n 3, 1) := by decide +kernel
theorem dX3_pick_20 : decode cX3_pick 20 = .ok (.iconst (-1), 1) := by decide +kernel
theorem dX3_pick_21 : decode cX3_pick 21 = .ok (.if_icmp .ne 8, 3) := by decide +kernel
theorem dX3_pick_24 : decode cX3_pick 24 = .ok (.aload_n 0, 1) := by decide +kernel
theorem dX3_pick_25 : decode cX3_pick 25 = .ok (.invokevirtual 87, 3) := by decide +kernel
theorem dX3_pick_28 : decode cX3_pick 28 = .ok (.ireturn, 1) := by decide +kernel
theorem dX3_pick_29 : decode cX3_pick 29 = .ok (.aload_n 0, 1) := by decide +kernel
theorem dX3_pick_30 : decode cX3_pick 30 = .ok (.iload_n 1, 1) := by decide +kernel
theorem dX3_pick_31 : decode cX3_pick 31 = .ok (.iload_n 3, 1) := by decide +kernel
theorem dX3_pick_32 : decode cX3_pick 32 = .ok (.invokevirtual 172, 3) := by decide +kernel
theorem dX3_pick_35 : decode cX3_pick 35 = .ok (.ifCond .eq 15, 3) := by decide +kernel
theorem dX3_pick_38 : decode cX3_pick 38 = .ok (.aload_n 0, 1) := by decide +kernel
theorem dX3_pick_39 : decode cX3_pick 39 = .ok (.getfield 11, 3) := by decide +kernel
theorem dX3_pick_42 : decode cX3_pick 42 = .ok (.iload_n 1, 1) := by decide +kernel
theorem dX3_pick_43 : decode cX3_pick 43 = .ok (.aaload, 1) := by decide +kernel
theorem dX3_pick_44 : decode cX3_pick 44 = .ok (.getfield 65, 3) := by decide +kernel
theorem dX3_pick_47 : decode cX3_pick 47 = .ok (.goto 7, 3) := by decide +kernel
theorem dX3_pick_50 : decode cX3_pick 50 = .ok (.aload_n 0, 1) := by decide +kernel
theorem dX3_pick_51 : decode cX3_pick 51 = .ok (.invokevirtual 87, 3) := by decide +kernel
theorem dX3_pick_54 : decode cX3_pick 54 = .ok (.ireturn, 1) := by decide +kernel
set_option maxRecDepth 20000 in
theorem ggX3_unwind_X3_needRope : GoodIn wsX3_unwind wsX3_needRope := goodIn_ca (goodIn_r _ [9, 10, 11] (by decide +kernel) (by decide +kernel)) (goodIn_sub (fun _ h => List.mem_cons_of_mem _ (List.mem_append_right _ h)) (by decide +kernel))
set_option maxRecDepth 20000 in
theorem gX3_unwind_X3_needRope : GoodIn wsX3_unwind (va_wsS RX3 52 yX3_needRope wsX3_needRope) := goodIn_app (goodIn_of _ (by decide +kernel)) ggX3_unwind_X3_needRope
set_option maxRecDepth 20000 in
theorem ggX3_unwind_X3_needRule : GoodIn wsX3_unwind wsX3_needRule := goodIn_ca (goodIn_r _ [15, 10, 11, 2, 16, 41, 42, 43, 44, 45, 46, 47, 48, 49, 50, 51, 52, 53, 54, 55, 56, 57] (by decide +kernel) (by decide +kernel)) (goodIn_sub (fun _ h => List.mem_cons_of_mem _ (List.mem_append_right _ h)) (by decide +kernel))
set_option maxRecDepth 20000 in
theorem gX3_unwind_X3_needRule : GoodIn wsX3_unwind (wsV RX3 122 RX3 yX3_needRule wsX3_needRule) := goodIn_app (goodIn_of _ (by decide +kernel)) ggX3_unwind_X3_needRule
set_option maxRecDepth 20000 in
theorem ggX3_unwind_X3_refuse : GoodIn wsX3_unwind wsX3_refuse := goodIn_r _ [31, 32, 41, 42, 43, 44, 45, 46, 47, 48, 49] (by decide +kernel) (by decide +kernel)
set_option maxRecDepth 20000 in
theorem gX3_unwind_X3_refuse : GoodIn wsX3_unwind (wsV RX3 87 RX3 yX3_refuse wsX3_refuse) := goodIn_app (goodIn_of _ (by decide +kernel)) ggX3_unwind_X3_refuse
set_option maxRecDepth 20000 in
theorem ggX3_unwind_X2_replace : GoodIn wsX3_unwind wsX2_replace := goodIn_r _ [36, 22, 27, 37, 38, 39, 40, 58, 59] (by decide +kernel) (by decide +kernel)
set_option maxRecDepth 20000 in
theorem gX3_unwind_X2_replace : GoodIn wsX3_unwind (wsV RX3 91 RX2 yX2_replace wsX2_replace) := goodIn_app (goodIn_of _ (by decide +kernel)) ggX3_unwind_X2_replace
theorem dX3_unwind_0 : decode cX3_unwind 0 = .ok (.iload_n 1, 1) := by decide +kernel
theorem dX3_unwind_1 : decode cX3_unwind 1 = .ok (.invokestatic 52, 3) := by decide +kernel
theorem dX3_unwind_4 : decode cX3_unwind 4 = .ok (.aload_n 0, 1) := by decide +kernel
theorem dX3_unwind_5 : decode cX3_unwind 5 = .ok (.iload_n 2, 1) := by decide +kernel
theorem dX3_unwind_6 : decode cX3_unwind 6 = .ok (.invokevirtual 122, 3) := by decide +kernel
theorem dX3_unwind_9 : decode cX3_unwind 9 = .ok (.aload_n 0, 1) := by decide +kernel
theorem dX3_unwind_10 : decode cX3_unwind 10 = .ok (.getfield 11, 3) := by decide +kernel
theorem dX3_unwind_13 : decode cX3_unwind 13 = .ok (.iload_n 1, 1) := by decide +kernel
theorem dX3_unwind_14 : decode cX3_unwind 14 = .ok (.aaload, 1) := by decide +kernel
theorem dX3_unwind_15 : decode cX3_unwind 15 = .ok (.astore 4, 2) := by decide +kernel
theorem dX3_unwind_17 : decode cX3_unwind 17 = .ok (.aload_n 0, 1) := by decide +kernel
theorem dX3_unwind_18 : decode cX3_unwind 18 = .ok (.getfield 18, 3) := by decide +kernel
theorem dX3_unwind_21 : decode cX3_unwind 21 = .ok (.getfield 144, 3) := by decide +kernel
theorem dX3_unwind_24 : decode cX3_unwind 24 = .ok (.iload_n 2, 1) := by decide +kernel
theorem dX3_unwind_25 : decode cX3_unwind 25 = .ok (.aaload, 1) := by decide +kernel
theorem dX3_unwind_26 : decode cX3_unwind 26 = .ok (.astore 5, 2) := by decide +kernel
theorem dX3_unwind_28 : decode cX3_unwind 28 = .ok (.aload_n 0, 1) := by decide +kernel
theorem dX3_unwind_29 : decode cX3_unwind 29 = .ok (.getfield 18, 3) := by decide +kernel
theorem dX3_unwind_32 : decode cX3_unwind 32 = .ok (.getfield 134, 3) := by decide +kernel
theorem dX3_unwind_35 : decode cX3_unwind 35 = .ok (.iload_n 2, 1) := by decide +kernel
theorem dX3_unwind_36 : decode cX3_unwind 36 = .ok (.aaload, 1) := by decide +kernel
theorem dX3_unwind_37 : decode cX3_unwind 37 = .ok (.astore 6, 2) := by decide +kernel
theorem dX3_unwind_39 : decode cX3_unwind 39 = .ok (.aload 4, 2) := by decide +kernel
theorem dX3_unwind_41 : decode cX3_unwind 41 = .ok (.aload 6, 2) := by decide +kernel
theorem dX3_unwind_43 : decode cX3_unwind 43 = .ok (.iload_n 3, 1) := by decide +kernel
theorem dX3_unwind_44 : decode cX3_unwind 44 = .ok (.invokevirtual 189, 3) := by decide +kernel
theorem dX3_unwind_47 : decode cX3_unwind 47 = .ok (.istore 7, 2) := by decide +kernel
theorem dX3_unwind_49 : decode cX3_unwind 49 = .ok (.iload 7, 2) := by decide +kernel
theorem dX3_unwind_51 : decode cX3_unwind 51 = .ok (.iconst (-1), 1) := by decide +kernel
theorem dX3_unwind_52 : decode cX3_unwind 52 = .ok (.if_icmp .eq 25, 3) := by decide +kernel
theorem dX3_unwind_55 : decode cX3_unwind 55 = .ok (.aload 4, 2) := by decide +kernel
theorem dX3_unwind_57 : decode cX3_unwind 57 = .ok (.getfield 65, 3) := by decide +kernel
theorem dX3_unwind_60 : decode cX3_unwind 60 = .ok (.aload 6, 2) := by decide +kernel
theorem dX3_unwind_62 : decode cX3_unwind 62 = .ok (.getfield 65, 3) := by decide +kernel
theorem dX3_unwind_65 : decode cX3_unwind 65 = .ok (.isub, 1) := by decide +kernel
theorem dX3_unwind_66 : decode cX3_unwind 66 = .ok (.aload 5, 2) := by decide +kernel
theorem dX3_unwind_68 : decode cX3_unwind 68 = .ok (.getfield 65, 3) := by decide +kernel
theorem dX3_unwind_71 : decode cX3_unwind 71 = .ok (.iadd, 1) := by decide +kernel
theorem dX3_unwind_72 : decode cX3_unwind 72 = .ok (.bipush 32, 2) := by decide +kernel
theorem dX3_unwind_74 : decode cX3_unwind 74 = .ok (.if_icmp .le 8, 3) := by decide +kernel
theorem dX3_unwind_77 : decode cX3_unwind 77 = .ok (.aload_n 0, 1) := by decide +kernel
theorem dX3_unwind_78 : decode cX3_unwind 78 = .ok (.invokevirtual 87, 3) := by decide +kernel
theorem dX3_unwind_81 : decode cX3_unwind 81 = .ok (.ireturn, 1) := by decide +kernel
theorem dX3_unwind_82 : decode cX3_unwind 82 = .ok (.aload 4, 2) := by decide +kernel
theorem dX3_unwind_84 : decode cX3_unwind 84 = .ok (.iload 7, 2) := by decide +kernel
theorem dX3_unwind_86 : decode cX3_unwind 86 = .ok (.iload 7, 2) := by decide +kernel
theorem dX3_unwind_88 : decode cX3_unwind 88 = .ok (.aload 6, 2) := by decide +kernel
theorem dX3_unwind_90 : decode cX3_unwind 90 = .ok (.getfield 65, 3) := by decide +kernel
theorem dX3_unwind_93 : decode cX3_unwind 93 = .ok (.iadd, 1) := by decide +kernel
theorem dX3_unwind_94 : decode cX3_unwind 94 = .ok (.aload 5, 2) := by decide +kernel
theorem dX3_unwind_96 : decode cX3_unwind 96 = .ok (.invokevirtual 91, 3) := by decide +kernel
theorem dX3_unwind_99 : decode cX3_unwind 99 = .ok (.aload 4, 2) := by decide +kernel
theorem dX3_unwind_101 : decode cX3_unwind 101 = .ok (.getfield 65, 3) := by decide +kernel
theorem dX3_unwind_104 : decode cX3_unwind 104 = .ok (.ireturn, 1) := by decide +kernel
set_option maxRecDepth 20000 in
theorem ggX3_spots_X3_needRope : GoodIn wsX3_spots wsX3_needRope := goodIn_ca (goodIn_r _ [6, 7, 8] (by decide +kernel) (by decide +kernel)) (goodIn_sub (fun _ h => List.mem_cons_of_mem _ (List.mem_append_right _ h)) (by decide +kernel))
set_option maxRecDepth 20000 in
theorem gX3_spots_X3_needRope : GoodIn wsX3_spots (va_wsS RX3 52 yX3_needRope wsX3_needRope) := goodIn_app (goodIn_of _ (by decide +kernel)) ggX3_spots_X3_needRope
set_option maxRecDepth 20000 in
theorem ggX3_spots_X1_countSpots : GoodIn wsX3_spots wsX1_countSpots := goodIn_r _ [13, 14, 15, 16, 17, 18, 19, 20, 21, 22, 23, 33, 34, 35, 36, 37, 38, 39, 40, 41, 42] (by decide +kernel) (by decide +kernel)
set_option maxRecDepth 20000 in
theorem gX3_spots_X1_countSpots : GoodIn wsX3_spots (wsV RX3 192 RX1 yX1_countSpots wsX1_countSpots) := goodIn_app (goodIn_of _ (by decide +kernel)) ggX3_spots_X1_countSpots
theorem dX3_spots_0 : decode cX3_spots 0 = .ok (.iload_n 1, 1) := by decide +kernel
theorem dX3_spots_1 : decode cX3_spots 1 = .ok (.invokestatic 52, 3) := by decide +kernel
theorem dX3_spots_4 : decode cX3_spots 4 = .ok (.aload_n 0, 1) := by decide +kernel
theorem dX3_spots_5 : decode cX3_spots 5 = .ok (.getfield 18, 3) := by decide +kernel
theorem dX3_spots_8 : decode cX3_spots 8 = .ok (.aload_n 0, 1) := by decide +kernel
theorem dX3_spots_9 : decode cX3_spots 9 = .ok (.getfield 11, 3) := by decide +kernel
theorem dX3_spots_12 : decode cX3_spots 12 = .ok (.iload_n 1, 1) := by decide +kernel
theorem dX3_spots_13 : decode cX3_spots 13 = .ok (.aaload, 1) := by decide +kernel
theorem dX3_spots_14 : decode cX3_spots 14 = .ok (.invokevirtual 192, 3) := by decide +kernel
theorem dX3_spots_17 : decode cX3_spots 17 = .ok (.ireturn, 1) := by decide +kernel
set_option maxRecDepth 20000 in
theorem ggX3_spot_X3_needRope : GoodIn wsX3_spot wsX3_needRope := goodIn_ca (goodIn_r _ [10, 11, 12] (by decide +kernel) (by decide +kernel)) (goodIn_sub (fun _ h => List.mem_cons_of_mem _ (List.mem_append_right _ h)) (by decide +kernel))
set_option maxRecDepth 20000 in
theorem gX3_spot_X3_needRope : GoodIn wsX3_spot (va_wsS RX3 52 yX3_needRope wsX3_needRope) := goodIn_app (goodIn_of _ (by decide +kernel)) ggX3_spot_X3_needRope
set_option maxRecDepth 20000 in
theorem ggX3_spot_X1_spotOfNumber : GoodIn wsX3_spot wsX1_spotOfNumber := goodIn_r _ [17, 18, 19, 20, 21, 16, 22, 23, 24, 25, 26, 27, 28, 29, 30, 31, 32, 33, 34, 35, 36, 37, 286, 287, 288, 289, 290, 291, 292, 293, 294, 295] (by decide +kernel) (by decide +kernel)
set_option maxRecDepth 20000 in
theorem gX3_spot_X1_spotOfNumber : GoodIn wsX3_spot (wsV RX3 186 RX1 yX1_spotOfNumber wsX1_spotOfNumber) := goodIn_app (goodIn_of _ (by decide +kernel)) ggX3_spot_X1_spotOfNumber
set_option maxRecDepth 20000 in
theorem ggX3_spot_X2_become : GoodIn wsX3_spot wsX2_become := goodIn_r _ [41, 37, 36, 42, 43, 44, 45, 286, 287] (by decide +kernel) (by decide +kernel)
set_option maxRecDepth 20000 in
theorem gX3_spot_X2_become : GoodIn wsX3_spot (wsV RX3 79 RX2 yX2_become wsX2_become) := goodIn_app (goodIn_of _ (by decide +kernel)) ggX3_spot_X2_become
set_option maxRecDepth 20000 in
theorem ggX3_spot_J4_init_da8c8 : GoodIn wsX3_spot wsJ4_init_da8c8 := goodIn_r _ [57, 58, 59, 60, 61, 62, 63, 64, 65, 66, 67, 68, 69, 70, 71, 72, 73, 74, 75, 76, 282, 283, 284, 285] (by decide +kernel) (by decide +kernel)
set_option maxRecDepth 20000 in
theorem gX3_spot_J4_init_da8c8 : GoodIn wsX3_spot (wsJ4_init_da8c8) := ggX3_spot_J4_init_da8c8
set_option maxRecDepth 20000 in
theorem ggX3_spot_X1_placeOf : GoodIn wsX3_spot wsX1_placeOf := goodIn_r _ [30] (by decide +kernel) (by decide +kernel)
set_option maxRecDepth 20000 in
theorem gX3_spot_X1_placeOf : GoodIn wsX3_spot (va_wsS RX3 176 yX1_placeOf wsX1_placeOf) := goodIn_app (goodIn_of _ (by decide +kernel)) ggX3_spot_X1_placeOf
set_option maxRecDepth 20000 in
theorem ggX3_spot_X1_ruleOf : GoodIn wsX3_spot wsX1_ruleOf := goodIn_r _ [27] (by decide +kernel) (by decide +kernel)
set_option maxRecDepth 20000 in
theorem gX3_spot_X1_ruleOf : GoodIn wsX3_spot (va_wsS RX3 203 yX1_ruleOf wsX1_ruleOf) := goodIn_app (goodIn_of _ (by decide +kernel)) ggX3_spot_X1_ruleOf
set_option maxRecDepth 20000 in
theorem ggX3_spot_X2_appendTo : GoodIn wsX3_spot wsX2_appendTo := goodIn_r _ [216, 36, 37, 217, 169, 170, 6, 171, 172, 173, 84, 174, 60, 175, 87, 67, 92, 93, 94, 95, 96, 68, 97, 98, 99, 100, 101, 102, 103, 104, 105, 106, 107, 108, 109, 110, 111, 112, 113, 114, 115, 116, 117, 118, 119, 120, 121, 122, 123, 124, 66, 125, 126, 127, 128, 43, 44, 45, 129, 130, 131, 132, 133, 65, 176, 177, 178, 179, 180, 181, 182, 183, 184, 69, 70, 71, 72, 73, 74, 75, 76, 185, 186, 187, 188, 189, 190, 191, 192, 193, 146, 147, 148, 194, 195, 151, 196, 153, 197, 198, 156, 199, 163, 164, 165, 142, 166, 167, 200, 201, 202, 203, 204, 205, 206, 207, 208, 209, 210, 211, 286, 287, 282, 283, 284, 285] (by decide +kernel) (by decide +kernel)
set_option maxRecDepth 20000 in
theorem gX3_spot_X2_appendTo : GoodIn wsX3_spot (wsV RX3 150 RX2 yX2_appendTo wsX2_appendTo) := goodIn_app (goodIn_of _ (by decide +kernel)) ggX3_spot_X2_appendTo
set_option maxRecDepth 20000 in
theorem ggX3_spot_J4_toString_0e30d : GoodIn wsX3_spot wsJ4_toString_0e30d := goodIn_r _ [221, 222, 223, 151, 224, 225, 226, 227, 228, 229, 230, 63, 64, 231, 232, 233, 234, 235, 236, 237, 238, 60, 239, 67, 240, 241, 242, 243, 244, 6, 245, 246, 84, 247, 248, 87, 249, 130, 131, 132, 133, 65, 68, 250, 251, 117, 252, 119, 120, 121, 122, 123, 124, 253, 254, 255, 66, 125, 126, 109, 127, 128, 43, 44, 45, 256, 257, 258, 259, 5, 260, 261, 71, 262, 263, 264, 265, 191, 192, 193, 146, 147, 148, 194, 195, 196, 153, 197, 198, 156, 199, 266, 267, 268, 142, 166, 167, 73, 74, 75, 76, 269, 270, 271, 272, 296, 297, 298, 299, 282, 283, 284, 285] (by decide +kernel) (by decide +kernel)
set_option maxRecDepth 20000 in
theorem gX3_spot_J4_toString_0e30d : GoodIn wsX3_spot (wsV RX3 158 RJ4 yJ4_toString_0e30d wsJ4_toString_0e30d) := goodIn_app (goodIn_of _ (by decide +kernel)) ggX3_spot_J4_toString_0e30d
theorem dX3_spot_0 : decode cX3_spot 0 = .ok (.iload_n 1, 1) := by decide +kernel
theorem dX3_spot_1 : decode cX3_spot 1 = .ok (.invokestatic 52, 3) := by decide +kernel
theorem dX3_spot_4 : decode cX3_spot 4 = .ok (.aload_n 0, 1) := by decide +kernel
theorem dX3_spot_5 : decode cX3_spot 5 = .ok (.getfield 18, 3) := by decide +kernel
theorem dX3_spot_8 : decode cX3_spot 8 = .ok (.aload_n 0, 1) := by decide +kernel
theorem dX3_spot_9 : decode cX3_spot 9 = .ok (.getfield 11, 3) := by decide +kernel
theorem dX3_spot_12 : decode cX3_spot 12 = .ok (.iload_n 1, 1) := by decide +kernel
theorem dX3_spot_13 : decode cX3_spot 13 = .ok (.aaload, 1) := by decide +kernel
theorem dX3_spot_14 : decode cX3_spot 14 = .ok (.iload_n 2, 1) := by decide +kernel
theorem dX3_spot_15 : decode cX3_spot 15 = .ok (.invokevirtual 186, 3) := by decide +kernel
theorem dX3_spot_18 : decode cX3_spot 18 = .ok (.istore_n 3, 1) := by decide +kernel
theorem dX3_spot_19 : decode cX3_spot 19 = .ok (.iload_n 3, 1) := by decide +kernel
theorem dX3_spot_20 : decode cX3_spot 20 = .ok (.iconst (-1), 1) := by decide +kernel
theorem dX3_spot_21 : decode cX3_spot 21 = .ok (.if_icmp .ne 6, 3) := by decide +kernel
theorem dX3_spot_24 : decode cX3_spot 24 = .ok (.ldc 195, 2) := by decide +kernel
theorem dX3_spot_26 : decode cX3_spot 26 = .ok (.areturn, 1) := by decide +kernel
theorem dX3_spot_27 : decode cX3_spot 27 = .ok (.aload_n 0, 1) := by decide +kernel
theorem dX3_spot_28 : decode cX3_spot 28 = .ok (.getfield 32, 3) := by decide +kernel
theorem dX3_spot_31 : decode cX3_spot 31 = .ok (.aload_n 0, 1) := by decide +kernel
theorem dX3_spot_32 : decode cX3_spot 32 = .ok (.getfield 11, 3) := by decide +kernel
theorem dX3_spot_35 : decode cX3_spot 35 = .ok (.iload_n 1, 1) := by decide +kernel
theorem dX3_spot_36 : decode cX3_spot 36 = .ok (.aaload, 1) := by decide +kernel
theorem dX3_spot_37 : decode cX3_spot 37 = .ok (.invokevirtual 79, 3) := by decide +kernel
theorem dX3_spot_40 : decode cX3_spot 40 = .ok (.aload_n 0, 1) := by decide +kernel
theorem dX3_spot_41 : decode cX3_spot 41 = .ok (.getfield 18, 3) := by decide +kernel
theorem dX3_spot_44 : decode cX3_spot 44 = .ok (.aload_n 0, 1) := by decide +kernel
theorem dX3_spot_45 : decode cX3_spot 45 = .ok (.getfield 32, 3) := by decide +kernel
theorem dX3_spot_48 : decode cX3_spot 48 = .ok (.iload_n 3, 1) := by decide +kernel
theorem dX3_spot_49 : decode cX3_spot 49 = .ok (.invokevirtual 197, 3) := by decide +kernel
theorem dX3_spot_52 : decode cX3_spot 52 = .ok (.new 147, 3) := by decide +kernel
theorem dX3_spot_55 : decode cX3_spot 55 = .ok (.dup, 1) := by decide +kernel
theorem dX3_spot_56 : decode cX3_spot 56 = .ok (.invokespecial 149, 3) := by decide +kernel
theorem dX3_spot_59 : decode cX3_spot 59 = .ok (.astore 4, 2) := by decide +kernel
theorem dX3_spot_61 : decode cX3_spot 61 = .ok (.aload 4, 2) := by decide +kernel
theorem dX3_spot_63 : decode cX3_spot 63 = .ok (.iload_n 3, 1) := by decide +kernel
theorem dX3_spot_64 : decode cX3_spot 64 = .ok (.invokestatic 176, 3) := by decide +kernel
theorem dX3_spot_67 : decode cX3_spot 67 = .ok (.invokevirtual 200, 3) := by decide +kernel
theorem dX3_spot_70 : decode cX3_spot 70 = .ok (.bipush 32, 2) := by decide +kernel
theorem dX3_spot_72 : decode cX3_spot 72 = .ok (.invokevirtual 154, 3) := by decide +kernel
theorem dX3_spot_75 : decode cX3_spot 75 = .ok (.pop, 1) := by decide +kernel
theorem dX3_spot_76 : decode cX3_spot 76 = .ok (.aload 4, 2) := by decide +kernel
theorem dX3_spot_78 : decode cX3_spot 78 = .ok (.iload_n 3, 1) := by decide +kernel
theorem dX3_spot_79 : decode cX3_spot 79 = .ok (.invokestatic 203, 3) := by decide +kernel
theorem dX3_spot_82 : decode cX3_spot 82 = .ok (.invokevirtual 200, 3) := by decide +kernel
theorem dX3_spot_85 : decode cX3_spot 85 = .ok (.bipush 32, 2) := by decide +kernel
theorem dX3_spot_87 : decode cX3_spot 87 = .ok (.invokevirtual 154, 3) := by decide +kernel
theorem dX3_spot_90 : decode cX3_spot 90 = .ok (.pop, 1) := by decide +kernel
theorem dX3_spot_91 : decode cX3_spot 91 = .ok (.aload_n 0, 1) := by decide +kernel
theorem dX3_spot_92 : decode cX3_spot 92 = .ok (.getfield 32, 3) := by decide +kernel
theorem dX3_spot_95 : decode cX3_spot 95 = .ok (.aload 4, 2) := by decide +kernel
theorem dX3_spot_97 : decode cX3_spot 97 = .ok (.invokevirtual 150, 3) := by decide +kernel
theorem dX3_spot_100 : decode cX3_spot 100 = .ok (.aload 4, 2) := by decide +kernel
theorem dX3_spot_102 : decode cX3_spot 102 = .ok (.invokevirtual 158, 3) := by decide +kernel
theorem dX3_spot_105 : decode cX3_spot 105 = .ok (.areturn, 1) := by decide +kernel
set_option maxRecDepth 20000 in
theorem ggX3_isEnd_X3_needRope : GoodIn wsX3_isEnd wsX3_needRope := goodIn_ca (goodIn_r _ [6, 7, 8] (by decide +kernel) (by decide +kernel)) (goodIn_sub (fun _ h => List.mem_cons_of_mem _ (List.mem_append_right _ h)) (by decide +kernel))
set_option maxRecDepth 20000 in
theorem gX3_isEnd_X3_needRope : GoodIn wsX3_isEnd (va_wsS RX3 52 yX3_needRope wsX3_needRope) := goodIn_app (goodIn_of _ (by decide +kernel)) ggX3_isEnd_X3_needRope
set_option maxRecDepth 20000 in
theorem ggX3_isEnd_X1_isDone : GoodIn wsX3_isEnd wsX1_isDone := goodIn_r _ [13, 14, 15, 16, 12, 17, 18, 19, 20, 21, 22, 23, 24, 25, 26, 27, 28, 29, 30, 31, 32, 33, 43, 44, 45, 46, 47, 48, 49, 50, 51, 52] (by decide +kernel) (by decide +kernel)
set_option maxRecDepth 20000 in
theorem gX3_isEnd_X1_isDone : GoodIn wsX3_isEnd (wsV RX3 206 RX1 yX1_isDone wsX1_isDone) := goodIn_app (goodIn_of _ (by decide +kernel)) ggX3_isEnd_X1_isDone
theorem dX3_isEnd_0 : decode cX3_isEnd 0 = .ok (.iload_n 1, 1) := by decide +kernel
theorem dX3_isEnd_1 : decode cX3_isEnd 1 = .ok (.invokestatic 52, 3) := by decide +kernel
theorem dX3_isEnd_4 : decode cX3_isEnd 4 = .ok (.aload_n 0, 1) := by decide +kernel
theorem dX3_isEnd_5 : decode cX3_isEnd 5 = .ok (.getfield 18, 3) := by decide +kernel
theorem dX3_isEnd_8 : decode cX3_isEnd 8 = .ok (.aload_n 0, 1) := by decide +kernel
theorem dX3_isEnd_9 : decode cX3_isEnd 9 = .ok (.getfield 11, 3) := by decide +kernel
theorem dX3_isEnd_12 : decode cX3_isEnd 12 = .ok (.iload_n 1, 1) := by decide +kernel
theorem dX3_isEnd_13 : decode cX3_isEnd 13 = .ok (.aaload, 1) := by decide +kernel
theorem dX3_isEnd_14 : decode cX3_isEnd 14 = .ok (.invokevirtual 206, 3) := by decide +kernel
theorem dX3_isEnd_17 : decode cX3_isEnd 17 = .ok (.ireturn, 1) := by decide +kernel
set_option maxRecDepth 20000 in
theorem ggX3_form_X3_needRope : GoodIn wsX3_form wsX3_needRope := goodIn_ca (goodIn_r _ [7, 8, 9] (by decide +kernel) (by decide +kernel)) (goodIn_sub (fun _ h => List.mem_cons_of_mem _ (List.mem_append_right _ h)) (by decide +kernel))
set_option maxRecDepth 20000 in
theorem gX3_form_X3_needRope : GoodIn wsX3_form (va_wsS RX3 52 yX3_needRope wsX3_needRope) := goodIn_app (goodIn_of _ (by decide +kernel)) ggX3_form_X3_needRope
set_option maxRecDepth 20000 in
theorem ggX3_form_X2_become : GoodIn wsX3_form wsX2_become := goodIn_r _ [14, 15, 16, 17, 18, 19, 20, 253, 254] (by decide +kernel) (by decide +kernel)
set_option maxRecDepth 20000 in
theorem gX3_form_X2_become : GoodIn wsX3_form (wsV RX3 79 RX2 yX2_become wsX2_become) := goodIn_app (goodIn_of _ (by decide +kernel)) ggX3_form_X2_become
set_option maxRecDepth 20000 in
theorem ggX3_form_X1_toForm : GoodIn wsX3_form wsX1_toForm := goodIn_r _ [25, 26, 27, 28, 24, 29, 30, 31, 32, 33, 34, 35, 36, 37, 38, 39, 40, 41, 13, 42, 16, 15, 43, 44, 45, 46, 47, 48, 49, 50, 51, 52, 53, 54, 55, 17, 18, 19, 20, 253, 254, 255, 256, 257, 258, 259, 260, 261, 262] (by decide +kernel) (by decide +kernel)
set_option maxRecDepth 20000 in
theorem gX3_form_X1_toForm : GoodIn wsX3_form (wsV RX3 210 RX1 yX1_toForm wsX1_toForm) := goodIn_app (goodIn_of _ (by decide +kernel)) ggX3_form_X1_toForm
set_option maxRecDepth 20000 in
theorem ggX3_form_X2_asString : GoodIn wsX3_form wsX2_asString := goodIn_r _ [59, 60, 61, 62, 63, 64, 65, 66, 67, 68, 69, 70, 71, 72, 73, 74, 75, 76, 77, 78, 79, 80, 81, 82, 83, 84, 85, 86, 87, 13, 88, 16, 15, 89, 90, 91, 92, 93, 94, 95, 96, 97, 98, 99, 100, 101, 102, 103, 104, 105, 106, 107, 108, 109, 110, 111, 112, 113, 114, 115, 116, 117, 118, 119, 120, 121, 122, 123, 124, 125, 126, 127, 128, 129, 130, 131, 132, 133, 134, 135, 18, 19, 20, 136, 137, 138, 139, 140, 141, 142, 143, 144, 145, 146, 147, 148, 149, 150, 151, 152, 153, 154, 155, 156, 157, 158, 159, 160, 161, 162, 163, 164, 165, 166, 167, 168, 169, 170, 171, 172, 173, 174, 175, 176, 177, 178, 179, 180, 181, 182, 183, 184, 185, 186, 187, 188, 189, 190, 191, 192, 193, 194, 195, 196, 197, 198, 199, 200, 201, 202, 203, 204, 205, 206, 207, 208, 209, 210, 211, 212, 213, 214, 215, 216, 217, 218, 219, 220, 221, 222, 223, 224, 225, 226, 227, 228, 229, 230, 231, 232, 233, 234, 235, 236, 237, 238, 239, 240, 241, 242, 243, 263, 264, 265, 266, 253, 254, 267, 268, 269, 270] (by decide +kernel) (by decide +kernel)
set_option maxRecDepth 20000 in
theorem gX3_form_X2_asString : GoodIn wsX3_form (wsV RX3 103 RX2 yX2_asString wsX2_asString) := goodIn_app (goodIn_of _ (by decide +kernel)) ggX3_form_X2_asString
theorem dX3_form_0 : decode cX3_form 0 = .ok (.iload_n 1, 1) := by decide +kernel
theorem dX3_form_1 : decode cX3_form 1 = .ok (.invokestatic 52, 3) := by decide +kernel
theorem dX3_form_4 : decode cX3_form 4 = .ok (.aload_n 0, 1) := by decide +kernel
theorem dX3_form_5 : decode cX3_form 5 = .ok (.getfield 32, 3) := by decide +kernel
theorem dX3_form_8 : decode cX3_form 8 = .ok (.aload_n 0, 1) := by decide +kernel
theorem dX3_form_9 : decode cX3_form 9 = .ok (.getfield 11, 3) := by decide +kernel
theorem dX3_form_12 : decode cX3_form 12 = .ok (.iload_n 1, 1) := by decide +kernel
theorem dX3_form_13 : decode cX3_form 13 = .ok (.aaload, 1) := by decide +kernel
theorem dX3_form_14 : decode cX3_form 14 = .ok (.invokevirtual 79, 3) := by decide +kernel
theorem dX3_form_17 : decode cX3_form 17 = .ok (.aload_n 0, 1) := by decide +kernel
theorem dX3_form_18 : decode cX3_form 18 = .ok (.getfield 18, 3) := by decide +kernel
theorem dX3_form_21 : decode cX3_form 21 = .ok (.aload_n 0, 1) := by decide +kernel
theorem dX3_form_22 : decode cX3_form 22 = .ok (.getfield 32, 3) := by decide +kernel
theorem dX3_form_25 : decode cX3_form 25 = .ok (.invokevirtual 210, 3) := by decide +kernel
theorem dX3_form_28 : decode cX3_form 28 = .ok (.aload_n 0, 1) := by decide +kernel
theorem dX3_form_29 : decode cX3_form 29 = .ok (.getfield 32, 3) := by decide +kernel
theorem dX3_form_32 : decode cX3_form 32 = .ok (.invokevirtual 103, 3) := by decide +kernel
theorem dX3_form_35 : decode cX3_form 35 = .ok (.areturn, 1) := by decide +kernel
set_option maxRecDepth 20000 in
theorem ggX3_told_X3_needRope : GoodIn wsX3_told wsX3_needRope := goodIn_ca (goodIn_r _ [9, 10, 11] (by decide +kernel) (by decide +kernel)) (goodIn_sub (fun _ h => List.mem_cons_of_mem _ (List.mem_append_right _ h)) (by decide +kernel))
set_option maxRecDepth 20000 in
theorem gX3_told_X3_needRope : GoodIn wsX3_told (va_wsS RX3 52 yX3_needRope wsX3_needRope) := goodIn_app (goodIn_of _ (by decide +kernel)) ggX3_told_X3_needRope
set_option maxRecDepth 20000 in
theorem ggX3_told_X2_become : GoodIn wsX3_told wsX2_become := goodIn_r _ [16, 17, 18, 19, 20, 21, 22, 155, 156] (by decide +kernel) (by decide +kernel)
set_option maxRecDepth 20000 in
theorem gX3_told_X2_become : GoodIn wsX3_told (wsV RX3 79 RX2 yX2_become wsX2_become) := goodIn_app (goodIn_of _ (by decide +kernel)) ggX3_told_X2_become
set_option maxRecDepth 20000 in
theorem ggX3_told_X1_toForm : GoodIn wsX3_told wsX1_toForm := goodIn_r _ [27, 28, 29, 30, 26, 31, 32, 33, 34, 35, 36, 37, 38, 39, 40, 41, 42, 43, 15, 44, 18, 17, 45, 46, 47, 48, 49, 50, 51, 52, 53, 54, 55, 56, 57, 19, 20, 21, 22, 155, 156, 157, 158, 159, 160, 161, 162, 163, 164] (by decide +kernel) (by decide +kernel)
set_option maxRecDepth 20000 in
theorem gX3_told_X1_toForm : GoodIn wsX3_told (wsV RX3 210 RX1 yX1_toForm wsX1_toForm) := goodIn_app (goodIn_of _ (by decide +kernel)) ggX3_told_X1_toForm
set_option maxRecDepth 20000 in
theorem ggX3_told_X2_isSameAs : GoodIn wsX3_told wsX2_isSameAs := goodIn_r _ [61, 18, 62, 42, 43, 15, 44, 17, 155, 156] (by decide +kernel) (by decide +kernel)
set_option maxRecDepth 20000 in
theorem gX3_told_X2_isSameAs : GoodIn wsX3_told (wsV RX3 213 RX2 yX2_isSameAs wsX2_isSameAs) := goodIn_app (goodIn_of _ (by decide +kernel)) ggX3_told_X2_isSameAs
set_option maxRecDepth 20000 in
theorem ggX3_told_X1_isDone : GoodIn wsX3_told wsX1_isDone := goodIn_r _ [66, 28, 29, 30, 26, 31, 32, 33, 34, 35, 36, 37, 38, 39, 40, 41, 42, 43, 15, 44, 18, 17, 155, 156, 157, 158, 159, 160, 161, 162, 163, 164] (by decide +kernel) (by decide +kernel)
set_option maxRecDepth 20000 in
theorem gX3_told_X1_isDone : GoodIn wsX3_told (wsV RX3 206 RX1 yX1_isDone wsX1_isDone) := goodIn_app (goodIn_of _ (by decide +kernel)) ggX3_told_X1_isDone
set_option maxRecDepth 20000 in
theorem ggX3_told_X1_areAllFalling : GoodIn wsX3_told wsX1_areAllFalling := goodIn_r _ [70, 33, 71, 72, 73, 26, 74, 49, 34, 75, 76, 77, 15, 78, 18, 17, 157, 158, 159, 160, 161, 162, 163, 164, 155, 156] (by decide +kernel) (by decide +kernel)
set_option maxRecDepth 20000 in
theorem gX3_told_X1_areAllFalling : GoodIn wsX3_told (wsV RX3 161 RX1 yX1_areAllFalling wsX1_areAllFalling) := goodIn_app (goodIn_of _ (by decide +kernel)) ggX3_told_X1_areAllFalling
set_option maxRecDepth 20000 in
theorem ggX3_told_X0_firstUnmet : GoodIn wsX3_told wsX0_firstUnmet := goodIn_r _ [83, 84, 85, 86, 87, 88, 82, 89, 90, 91, 92, 93, 94, 95, 96, 97, 98, 99, 100, 101, 102, 103, 104, 105, 106, 15, 107, 18, 17, 108, 109, 110, 111, 112, 113, 114, 115, 116, 117, 42, 43, 44, 118, 119, 120, 121, 122, 123, 124, 125, 126, 127, 128, 129, 130, 131, 132, 133, 134, 13, 14, 16, 19, 20, 21, 22, 135, 136, 137, 138, 139, 55, 56, 57, 140, 141, 142, 143, 144, 24, 25, 26, 27, 28, 29, 30, 31, 32, 33, 34, 35, 36, 37, 38, 39, 40, 41, 45, 46, 47, 48, 49, 50, 51, 52, 53, 54, 145, 59, 60, 61, 62, 165, 166, 167, 168, 169, 170, 171, 172, 157, 158, 159, 160, 161, 162, 163, 164, 155, 156] (by decide +kernel) (by decide +kernel)
set_option maxRecDepth 20000 in
theorem gX3_told_X0_firstUnmet : GoodIn wsX3_told (wsV RX3 216 RX0 yX0_firstUnmet wsX0_firstUnmet) := goodIn_app (goodIn_of _ (by decide +kernel)) ggX3_told_X0_firstUnmet
theorem dX3_told_0 : decode cX3_told 0 = .ok (.iload_n 1, 1) := by decide +kernel
theorem dX3_told_1 : decode cX3_told 1 = .ok (.invokestatic 52, 3) := by decide +kernel
theorem dX3_told_4 : decode cX3_told 4 = .ok (.iload_n 2, 1) := by decide +kernel
theorem dX3_told_5 : decode cX3_told 5 = .ok (.invokestatic 52, 3) := by decide +kernel
theorem dX3_told_8 : decode cX3_told 8 = .ok (.aload_n 0, 1) := by decide +kernel
theorem dX3_told_9 : decode cX3_told 9 = .ok (.getfield 32, 3) := by decide +kernel
theorem dX3_told_12 : decode cX3_told 12 = .ok (.aload_n 0, 1) := by decide +kernel
theorem dX3_told_13 : decode cX3_told 13 = .ok (.getfield 11, 3) := by decide +kernel
theorem dX3_told_16 : decode cX3_told 16 = .ok (.iload_n 1, 1) := by decide +kernel
theorem dX3_told_17 : decode cX3_told 17 = .ok (.aaload, 1) := by decide +kernel
theorem dX3_told_18 : decode cX3_told 18 = .ok (.invokevirtual 79, 3) := by decide +kernel
theorem dX3_told_21 : decode cX3_told 21 = .ok (.aload_n 0, 1) := by decide +kernel
theorem dX3_told_22 : decode cX3_told 22 = .ok (.getfield 18, 3) := by decide +kernel
theorem dX3_told_25 : decode cX3_told 25 = .ok (.aload_n 0, 1) := by decide +kernel
theorem dX3_told_26 : decode cX3_told 26 = .ok (.getfield 32, 3) := by decide +kernel
theorem dX3_told_29 : decode cX3_told 29 = .ok (.invokevirtual 210, 3) := by decide +kernel
theorem dX3_told_32 : decode cX3_told 32 = .ok (.aload_n 0, 1) := by decide +kernel
theorem dX3_told_33 : decode cX3_told 33 = .ok (.getfield 36, 3) := by decide +kernel
theorem dX3_told_36 : decode cX3_told 36 = .ok (.aload_n 0, 1) := by decide +kernel
theorem dX3_told_37 : decode cX3_told 37 = .ok (.getfield 11, 3) := by decide +kernel
theorem dX3_told_40 : decode cX3_told 40 = .ok (.iload_n 2, 1) := by decide +kernel
theorem dX3_told_41 : decode cX3_told 41 = .ok (.aaload, 1) := by decide +kernel
theorem dX3_told_42 : decode cX3_told 42 = .ok (.invokevirtual 79, 3) := by decide +kernel
theorem dX3_told_45 : decode cX3_told 45 = .ok (.aload_n 0, 1) := by decide +kernel
theorem dX3_told_46 : decode cX3_told 46 = .ok (.getfield 18, 3) := by decide +kernel
theorem dX3_told_49 : decode cX3_told 49 = .ok (.aload_n 0, 1) := by decide +kernel
theorem dX3_told_50 : decode cX3_told 50 = .ok (.getfield 36, 3) := by decide +kernel
theorem dX3_told_53 : decode cX3_told 53 = .ok (.invokevirtual 210, 3) := by decide +kernel
theorem dX3_told_56 : decode cX3_told 56 = .ok (.aload_n 0, 1) := by decide +kernel
theorem dX3_told_57 : decode cX3_told 57 = .ok (.getfield 32, 3) := by decide +kernel
theorem dX3_told_60 : decode cX3_told 60 = .ok (.aload_n 0, 1) := by decide +kernel
theorem dX3_told_61 : decode cX3_told 61 = .ok (.getfield 36, 3) := by decide +kernel
theorem dX3_told_64 : decode cX3_told 64 = .ok (.invokevirtual 213, 3) := by decide +kernel
theorem dX3_told_67 : decode cX3_told 67 = .ok (.ifCond .eq 5, 3) := by decide +kernel
theorem dX3_told_70 : decode cX3_told 70 = .ok (.iconst 1, 1) := by decide +kernel
theorem dX3_told_71 : decode cX3_told 71 = .ok (.ireturn, 1) := by decide +kernel
theorem dX3_told_72 : decode cX3_told 72 = .ok (.aload_n 0, 1) := by decide +kernel
theorem dX3_told_73 : decode cX3_told 73 = .ok (.getfield 18, 3) := by decide +kernel
theorem dX3_told_76 : decode cX3_told 76 = .ok (.aload_n 0, 1) := by decide +kernel
theorem dX3_told_77 : decode cX3_told 77 = .ok (.getfield 32, 3) := by decide +kernel
theorem dX3_told_80 : decode cX3_told 80 = .ok (.invokevirtual 206, 3) := by decide +kernel
theorem dX3_told_83 : decode cX3_told 83 = .ok (.ifCond .eq 21, 3) := by decide +kernel
theorem dX3_told_86 : decode cX3_told 86 = .ok (.aload_n 0, 1) := by decide +kernel
theorem dX3_told_87 : decode cX3_told 87 = .ok (.getfield 18, 3) := by decide +kernel
theorem dX3_told_90 : decode cX3_told 90 = .ok (.aload_n 0, 1) := by decide +kernel
theorem dX3_told_91 : decode cX3_told 91 = .ok (.getfield 36, 3) := by decide +kernel
theorem dX3_told_94 : decode cX3_told 94 = .ok (.invokevirtual 206, 3) := by decide +kernel
theorem dX3_told_97 : decode cX3_told 97 = .ok (.ifCond .eq 7, 3) := by decide +kernel
theorem dX3_told_100 : decode cX3_told 100 = .ok (.iconst 1, 1) := by decide +kernel
theorem dX3_told_101 : decode cX3_told 101 = .ok (.goto 4, 3) := by decide +kernel
theorem dX3_told_104 : decode cX3_told 104 = .ok (.iconst 0, 1) := by decide +kernel
theorem dX3_told_105 : decode cX3_told 105 = .ok (.istore_n 3, 1) := by decide +kernel
theorem dX3_told_106 : decode cX3_told 106 = .ok (.iload_n 3, 1) := by decide +kernel
theorem dX3_told_107 : decode cX3_told 107 = .ok (.ifCond .eq 28, 3) := by decide +kernel
theorem dX3_told_110 : decode cX3_told 110 = .ok (.aload_n 0, 1) := by decide +kernel
theorem dX3_told_111 : decode cX3_told 111 = .ok (.getfield 18, 3) := by decide +kernel
theorem dX3_told_114 : decode cX3_told 114 = .ok (.invokevirtual 161, 3) := by decide +kernel
theorem dX3_told_117 : decode cX3_told 117 = .ok (.ifCond .eq 18, 3) := by decide +kernel
theorem dX3_told_120 : decode cX3_told 120 = .ok (.aload_n 0, 1) := by decide +kernel
theorem dX3_told_121 : decode cX3_told 121 = .ok (.getfield 27, 3) := by decide +kernel
theorem dX3_told_124 : decode cX3_told 124 = .ok (.invokevirtual 216, 3) := by decide +kernel
theorem dX3_told_127 : decode cX3_told 127 = .ok (.iconst (-1), 1) := by decide +kernel
theorem dX3_told_128 : decode cX3_told 128 = .ok (.if_icmp .ne 7, 3) := by decide +kernel
theorem dX3_told_131 : decode cX3_told 131 = .ok (.iconst 1, 1) := by decide +kernel
theorem dX3_told_132 : decode cX3_told 132 = .ok (.goto 4, 3) := by decide +kernel
theorem dX3_told_135 : decode cX3_told 135 = .ok (.iconst 0, 1) := by decide +kernel
theorem dX3_told_136 : decode cX3_told 136 = .ok (.istore 4, 2) := by decide +kernel
theorem dX3_told_138 : decode cX3_told 138 = .ok (.iload 4, 2) := by decide +kernel
theorem dX3_told_140 : decode cX3_told 140 = .ok (.ifCond .eq 7, 3) := by decide +kernel
theorem dX3_told_143 : decode cX3_told 143 = .ok (.iconst 0, 1) := by decide +kernel
theorem dX3_told_144 : decode cX3_told 144 = .ok (.goto 4, 3) := by decide +kernel
theorem dX3_told_147 : decode cX3_told 147 = .ok (.iconst (-1), 1) := by decide +kernel
theorem dX3_told_148 : decode cX3_told 148 = .ok (.ireturn, 1) := by decide +kernel
set_option maxRecDepth 20000 in
theorem ggX3_peaks_X0_size : GoodIn wsX3_peaks wsX0_size := goodIn_r _ [6, 7, 8, 9, 10, 5, 11, 12, 13, 14, 15, 16, 17, 18, 19, 20, 21, 22, 23, 24, 25, 26, 27, 28, 29, 30, 31, 32, 33, 34, 35, 36, 37, 38, 39, 40, 41, 42, 43, 44, 45, 46, 56, 57, 58, 59, 60, 61, 62, 63, 64, 65, 66, 67, 68, 69, 70, 71, 72, 73] (by decide +kernel) (by decide +kernel)
set_option maxRecDepth 20000 in
theorem gX3_peaks_X0_size : GoodIn wsX3_peaks (wsV RX3 219 RX0 yX0_size wsX0_size) := goodIn_app (goodIn_of _ (by decide +kernel)) ggX3_peaks_X0_size
theorem dX3_peaks_0 : decode cX3_peaks 0 = .ok (.aload_n 0, 1) := by decide +kernel
theorem dX3_peaks_1 : decode cX3_peaks 1 = .ok (.getfield 27, 3) := by decide +kernel
theorem dX3_peaks_4 : decode cX3_peaks 4 = .ok (.invokevirtual 219, 3) := by decide +kernel
theorem dX3_peaks_7 : decode cX3_peaks 7 = .ok (.ireturn, 1) := by decide +kernel
set_option maxRecDepth 20000 in
theorem ggX3_peak_X0_has : GoodIn wsX3_peak wsX0_has := goodIn_r _ [12, 13, 14, 15, 11, 16, 17, 18, 19, 20, 21, 22, 23, 24, 25, 26, 27, 28, 29, 30, 31, 32, 33, 34, 35, 36, 37, 38, 39, 40, 41, 42, 43, 44, 45, 46, 47, 48, 49, 50, 51, 52, 53, 54, 55, 56, 281, 282, 283, 284, 285, 286, 287, 288, 289, 290, 291, 292, 293, 294, 295, 296, 297, 298] (by decide +kernel) (by decide +kernel)
set_option maxRecDepth 20000 in
theorem gX3_peak_X0_has : GoodIn wsX3_peak (wsV RX3 221 RX0 yX0_has wsX0_has) := goodIn_app (goodIn_of _ (by decide +kernel)) ggX3_peak_X0_has
set_option maxRecDepth 20000 in
theorem ggX3_peak_J4_init_da8c8 : GoodIn wsX3_peak wsJ4_init_da8c8 := goodIn_r _ [91, 92, 93, 94, 95, 96, 97, 98, 99, 100, 101, 102, 103, 104, 105, 106, 107, 108, 109, 110, 277, 278, 279, 280] (by decide +kernel) (by decide +kernel)
set_option maxRecDepth 20000 in
theorem gX3_peak_J4_init_da8c8 : GoodIn wsX3_peak (wsJ4_init_da8c8) := ggX3_peak_J4_init_da8c8
set_option maxRecDepth 20000 in
theorem ggX3_peak_X2_appendTo : GoodIn wsX3_peak wsX2_appendTo := goodIn_r _ [114, 42, 43, 115, 116, 117, 4, 118, 119, 120, 121, 122, 94, 123, 124, 101, 125, 126, 127, 128, 129, 102, 130, 131, 132, 133, 134, 135, 136, 137, 138, 139, 140, 141, 35, 142, 143, 144, 145, 146, 147, 148, 149, 150, 151, 152, 153, 154, 155, 156, 100, 157, 34, 36, 158, 74, 75, 76, 159, 160, 161, 162, 163, 99, 164, 165, 166, 167, 168, 169, 170, 171, 172, 103, 104, 105, 106, 107, 108, 109, 110, 173, 174, 175, 176, 177, 178, 179, 180, 181, 182, 183, 184, 185, 186, 187, 188, 189, 190, 191, 192, 193, 194, 195, 196, 197, 198, 199, 200, 201, 202, 203, 204, 205, 206, 207, 208, 209, 210, 211, 297, 298, 277, 278, 279, 280] (by decide +kernel) (by decide +kernel)
set_option maxRecDepth 20000 in
theorem gX3_peak_X2_appendTo : GoodIn wsX3_peak (wsV RX3 150 RX2 yX2_appendTo wsX2_appendTo) := goodIn_app (goodIn_of _ (by decide +kernel)) ggX3_peak_X2_appendTo
set_option maxRecDepth 20000 in
theorem ggX3_peak_J4_toString_0e30d : GoodIn wsX3_peak wsJ4_toString_0e30d := goodIn_r _ [216, 217, 218, 187, 219, 220, 221, 222, 223, 224, 225, 97, 98, 226, 227, 228, 229, 230, 231, 232, 233, 94, 234, 101, 235, 236, 237, 238, 239, 4, 240, 241, 121, 242, 243, 124, 244, 160, 161, 162, 163, 99, 102, 245, 246, 149, 247, 151, 152, 153, 154, 155, 156, 248, 249, 250, 100, 157, 34, 35, 36, 158, 74, 75, 76, 251, 252, 253, 254, 3, 255, 256, 105, 257, 258, 259, 260, 179, 180, 181, 182, 183, 184, 185, 186, 188, 189, 190, 191, 192, 193, 261, 262, 263, 197, 198, 199, 107, 108, 109, 110, 264, 265, 266, 267, 299, 300, 301, 302, 277, 278, 279, 280] (by decide +kernel) (by decide +kernel)
set_option maxRecDepth 20000 in
theorem gX3_peak_J4_toString_0e30d : GoodIn wsX3_peak (wsV RX3 158 RJ4 yJ4_toString_0e30d wsJ4_toString_0e30d) := goodIn_app (goodIn_of _ (by decide +kernel)) ggX3_peak_J4_toString_0e30d
theorem dX3_peak_0 : decode cX3_peak 0 = .ok (.aload_n 0, 1) := by decide +kernel
theorem dX3_peak_1 : decode cX3_peak 1 = .ok (.getfield 27, 3) := by decide +kernel
theorem dX3_peak_4 : decode cX3_peak 4 = .ok (.iload_n 1, 1) := by decide +kernel
theorem dX3_peak_5 : decode cX3_peak 5 = .ok (.invokevirtual 221, 3) := by decide +kernel
theorem dX3_peak_8 : decode cX3_peak 8 = .ok (.ifCond .ne 6, 3) := by decide +kernel
theorem dX3_peak_11 : decode cX3_peak 11 = .ok (.ldc 195, 2) := by decide +kernel
theorem dX3_peak_13 : decode cX3_peak 13 = .ok (.areturn, 1) := by decide +kernel
theorem dX3_peak_14 : decode cX3_peak 14 = .ok (.aload_n 0, 1) := by decide +kernel
theorem dX3_peak_15 : decode cX3_peak 15 = .ok (.getfield 27, 3) := by decide +kernel
theorem dX3_peak_18 : decode cX3_peak 18 = .ok (.iload_n 1, 1) := by decide +kernel
theorem dX3_peak_19 : decode cX3_peak 19 = .ok (.invokevirtual 224, 3) := by decide +kernel
theorem dX3_peak_22 : decode cX3_peak 22 = .ok (.new 147, 3) := by decide +kernel
theorem dX3_peak_25 : decode cX3_peak 25 = .ok (.dup, 1) := by decide +kernel
theorem dX3_peak_26 : decode cX3_peak 26 = .ok (.invokespecial 149, 3) := by decide +kernel
theorem dX3_peak_29 : decode cX3_peak 29 = .ok (.astore_n 2, 1) := by decide +kernel
theorem dX3_peak_30 : decode cX3_peak 30 = .ok (.aload_n 0, 1) := by decide +kernel
theorem dX3_peak_31 : decode cX3_peak 31 = .ok (.getfield 27, 3) := by decide +kernel
theorem dX3_peak_34 : decode cX3_peak 34 = .ok (.getfield 227, 3) := by decide +kernel
theorem dX3_peak_37 : decode cX3_peak 37 = .ok (.aload_n 2, 1) := by decide +kernel
theorem dX3_peak_38 : decode cX3_peak 38 = .ok (.invokevirtual 150, 3) := by decide +kernel
theorem dX3_peak_41 : decode cX3_peak 41 = .ok (.aload_n 2, 1) := by decide +kernel
theorem dX3_peak_42 : decode cX3_peak 42 = .ok (.bipush 58, 2) := by decide +kernel
theorem dX3_peak_44 : decode cX3_peak 44 = .ok (.invokevirtual 154, 3) := by decide +kernel
theorem dX3_peak_47 : decode cX3_peak 47 = .ok (.pop, 1) := by decide +kernel
theorem dX3_peak_48 : decode cX3_peak 48 = .ok (.aload_n 0, 1) := by decide +kernel
theorem dX3_peak_49 : decode cX3_peak 49 = .ok (.getfield 27, 3) := by decide +kernel
theorem dX3_peak_52 : decode cX3_peak 52 = .ok (.getfield 230, 3) := by decide +kernel
theorem dX3_peak_55 : decode cX3_peak 55 = .ok (.aload_n 2, 1) := by decide +kernel
theorem dX3_peak_56 : decode cX3_peak 56 = .ok (.invokevirtual 150, 3) := by decide +kernel
theorem dX3_peak_59 : decode cX3_peak 59 = .ok (.aload_n 2, 1) := by decide +kernel
theorem dX3_peak_60 : decode cX3_peak 60 = .ok (.bipush 124, 2) := by decide +kernel
theorem dX3_peak_62 : decode cX3_peak 62 = .ok (.invokevirtual 154, 3) := by decide +kernel
theorem dX3_peak_65 : decode cX3_peak 65 = .ok (.pop, 1) := by decide +kernel
theorem dX3_peak_66 : decode cX3_peak 66 = .ok (.aload_n 0, 1) := by decide +kernel
theorem dX3_peak_67 : decode cX3_peak 67 = .ok (.getfield 27, 3) := by decide +kernel
theorem dX3_peak_70 : decode cX3_peak 70 = .ok (.getfield 233, 3) := by decide +kernel
theorem dX3_peak_73 : decode cX3_peak 73 = .ok (.aload_n 2, 1) := by decide +kernel
theorem dX3_peak_74 : decode cX3_peak 74 = .ok (.invokevirtual 150, 3) := by decide +kernel
theorem dX3_peak_77 : decode cX3_peak 77 = .ok (.aload_n 2, 1) := by decide +kernel
theorem dX3_peak_78 : decode cX3_peak 78 = .ok (.invokevirtual 158, 3) := by decide +kernel
theorem dX3_peak_81 : decode cX3_peak 81 = .ok (.areturn, 1) := by decide +kernel
set_option maxRecDepth 20000 in
theorem ggX3_meets_X0_has : GoodIn wsX3_meets wsX0_has := goodIn_r _ [8, 9, 10, 11, 7, 12, 13, 14, 15, 16, 17, 18, 19, 20, 21, 22, 23, 24, 25, 26, 27, 28, 29, 30, 31, 32, 33, 34, 35, 36, 37, 38, 39, 40, 41, 42, 43, 44, 45, 46, 47, 48, 49, 50, 51, 52, 132, 133, 134, 135, 136, 137, 138, 139, 140, 141, 142, 143, 144, 145, 146, 147, 148, 149] (by decide +kernel) (by decide +kernel)
set_option maxRecDepth 20000 in
theorem gX3_meets_X0_has : GoodIn wsX3_meets (wsV RX3 221 RX0 yX0_has wsX0_has) := goodIn_app (goodIn_of _ (by decide +kernel)) ggX3_meets_X0_has
theorem dX3_meets_0 : decode cX3_meets 0 = .ok (.aload_n 0, 1) := by decide +kernel
theorem dX3_meets_1 : decode cX3_meets 1 = .ok (.getfield 27, 3) := by decide +kernel
theorem dX3_meets_4 : decode cX3_meets 4 = .ok (.iload_n 1, 1) := by decide +kernel
theorem dX3_meets_5 : decode cX3_meets 5 = .ok (.invokevirtual 221, 3) := by decide +kernel
theorem dX3_meets_8 : decode cX3_meets 8 = .ok (.ifCond .ne 13, 3) := by decide +kernel
theorem dX3_meets_11 : decode cX3_meets 11 = .ok (.new 236, 3) := by decide +kernel
theorem dX3_meets_14 : decode cX3_meets 14 = .ok (.dup, 1) := by decide +kernel
theorem dX3_meets_15 : decode cX3_meets 15 = .ok (.ldc 238, 2) := by decide +kernel
theorem dX3_meets_17 : decode cX3_meets 17 = .ok (.invokespecial 240, 3) := by decide +kernel
theorem dX3_meets_20 : decode cX3_meets 20 = .ok (.athrow, 1) := by decide +kernel
theorem dX3_meets_21 : decode cX3_meets 21 = .ok (.aload_n 0, 1) := by decide +kernel
theorem dX3_meets_22 : decode cX3_meets 22 = .ok (.getfield 27, 3) := by decide +kernel
theorem dX3_meets_25 : decode cX3_meets 25 = .ok (.iload_n 1, 1) := by decide +kernel
theorem dX3_meets_26 : decode cX3_meets 26 = .ok (.invokevirtual 241, 3) := by decide +kernel
theorem dX3_meets_29 : decode cX3_meets 29 = .ok (.ireturn, 1) := by decide +kernel
set_option maxRecDepth 20000 in
theorem ggX3_unmet_X0_firstUnmet : GoodIn wsX3_unmet wsX0_firstUnmet := goodIn_r _ [6, 7, 8, 9, 10, 11, 5, 12, 13, 14, 15, 16, 17, 18, 19, 20, 21, 22, 23, 24, 25, 26, 27, 28, 29, 30, 31, 32, 33, 34, 35, 36, 37, 38, 39, 40, 41, 42, 43, 44, 45, 46, 47, 48, 49, 50, 51, 52, 53, 54, 55, 56, 57, 58, 59, 60, 61, 62, 63, 64, 65, 66, 67, 68, 69, 70, 71, 72, 73, 74, 75, 76, 77, 78, 79, 80, 81, 82, 83, 84, 85, 86, 87, 88, 89, 90, 91, 92, 93, 94, 95, 96, 97, 98, 99, 100, 101, 102, 103, 104, 105, 106, 107, 108, 109, 110, 111, 112, 113, 114, 115, 116, 126, 127, 128, 129, 130, 131, 132, 133, 134, 135, 136, 137, 138, 139, 140, 141, 142, 143] (by decide +kernel) (by decide +kernel)
set_option maxRecDepth 20000 in
theorem gX3_unmet_X0_firstUnmet : GoodIn wsX3_unmet (wsV RX3 216 RX0 yX0_firstUnmet wsX0_firstUnmet) := goodIn_app (goodIn_of _ (by decide +kernel)) ggX3_unmet_X0_firstUnmet
theorem dX3_unmet_0 : decode cX3_unmet 0 = .ok (.aload_n 0, 1) := by decide +kernel
theorem dX3_unmet_1 : decode cX3_unmet 1 = .ok (.getfield 27, 3) := by decide +kernel
theorem dX3_unmet_4 : decode cX3_unmet 4 = .ok (.invokevirtual 216, 3) := by decide +kernel
theorem dX3_unmet_7 : decode cX3_unmet 7 = .ok (.ireturn, 1) := by decide +kernel
set_option maxRecDepth 20000 in
theorem ggX3_complete_X0_firstUnmet : GoodIn wsX3_complete wsX0_firstUnmet := goodIn_r _ [9, 10, 11, 12, 13, 14, 8, 15, 16, 17, 18, 19, 20, 21, 22, 23, 24, 25, 26, 27, 28, 29, 30, 31, 32, 33, 34, 35, 36, 37, 38, 39, 40, 41, 42, 43, 44, 45, 46, 47, 48, 49, 50, 51, 52, 53, 54, 55, 56, 57, 58, 59, 60, 61, 62, 63, 64, 65, 66, 67, 68, 69, 70, 71, 72, 73, 74, 75, 76, 77, 78, 79, 80, 81, 82, 83, 84, 85, 86, 87, 88, 89, 90, 91, 92, 93, 94, 95, 96, 97, 98, 99, 100, 101, 102, 103, 104, 105, 106, 107, 108, 109, 110, 111, 112, 113, 114, 115, 116, 117, 118, 119, 157, 158, 159, 160, 161, 162, 163, 164, 165, 166, 167, 168, 169, 170, 171, 172, 173, 174] (by decide +kernel) (by decide +kernel)
set_option maxRecDepth 20000 in
theorem gX3_complete_X0_firstUnmet : GoodIn wsX3_complete (wsV RX3 216 RX0 yX0_firstUnmet wsX0_firstUnmet) := goodIn_app (goodIn_of _ (by decide +kernel)) ggX3_complete_X0_firstUnmet
set_option maxRecDepth 20000 in
theorem ggX3_complete_X1_toForm : GoodIn wsX3_complete wsX1_toForm := goodIn_r _ [90, 91, 92, 93, 89, 94, 95, 96, 97, 98, 99, 100, 101, 102, 103, 104, 47, 48, 33, 49, 35, 36, 105, 106, 107, 108, 109, 110, 111, 112, 113, 114, 79, 80, 81, 70, 71, 72, 73, 173, 174, 165, 166, 167, 168, 169, 170, 171, 172] (by decide +kernel) (by decide +kernel)
set_option maxRecDepth 20000 in
theorem gX3_complete_X1_toForm : GoodIn wsX3_complete (wsV RX3 210 RX1 yX1_toForm wsX1_toForm) := goodIn_app (goodIn_of _ (by decide +kernel)) ggX3_complete_X1_toForm
set_option maxRecDepth 20000 in
theorem ggX3_complete_X3_addFallingRule : GoodIn wsX3_complete wsX3_addFallingRule := goodIn_r _ [126, 127, 128, 129, 33, 130, 35, 36, 131, 132, 133, 125, 134, 135, 136, 137, 138, 139, 140, 2, 141, 142, 143, 144, 89, 145, 96, 97, 109, 146, 147, 67, 68, 69, 70, 71, 72, 73, 173, 174, 148, 149, 150, 151, 152, 153, 154, 155, 156, 165, 166, 167, 168, 169, 170, 171, 172] (by decide +kernel) (by decide +kernel)
set_option maxRecDepth 20000 in
theorem gX3_complete_X3_addFallingRule : GoodIn wsX3_complete (wsV RX3 119 RX3 yX3_addFallingRule wsX3_addFallingRule) := goodIn_app (goodIn_of _ (by decide +kernel)) ggX3_complete_X3_addFallingRule
theorem dX3_complete_0 : decode cX3_complete 0 = .ok (.aload_n 0, 1) := by decide +kernel
theorem dX3_complete_1 : decode cX3_complete 1 = .ok (.getfield 27, 3) := by decide +kernel
theorem dX3_complete_4 : decode cX3_complete 4 = .ok (.invokevirtual 216, 3) := by decide +kernel
theorem dX3_complete_7 : decode cX3_complete 7 = .ok (.istore_n 1, 1) := by decide +kernel
theorem dX3_complete_8 : decode cX3_complete 8 = .ok (.iload_n 1, 1) := by decide +kernel
theorem dX3_complete_9 : decode cX3_complete 9 = .ok (.iconst (-1), 1) := by decide +kernel
theorem dX3_complete_10 : decode cX3_complete 10 = .ok (.if_icmp .ne 5, 3) := by decide +kernel
theorem dX3_complete_13 : decode cX3_complete 13 = .ok (.iconst (-1), 1) := by decide +kernel
theorem dX3_complete_14 : decode cX3_complete 14 = .ok (.ireturn, 1) := by decide +kernel
theorem dX3_complete_15 : decode cX3_complete 15 = .ok (.aload_n 0, 1) := by decide +kernel
theorem dX3_complete_16 : decode cX3_complete 16 = .ok (.getfield 27, 3) := by decide +kernel
theorem dX3_complete_19 : decode cX3_complete 19 = .ok (.iload_n 1, 1) := by decide +kernel
theorem dX3_complete_20 : decode cX3_complete 20 = .ok (.invokevirtual 224, 3) := by decide +kernel
theorem dX3_complete_23 : decode cX3_complete 23 = .ok (.aload_n 0, 1) := by decide +kernel
theorem dX3_complete_24 : decode cX3_complete 24 = .ok (.getfield 18, 3) := by decide +kernel
theorem dX3_complete_27 : decode cX3_complete 27 = .ok (.aload_n 0, 1) := by decide +kernel
theorem dX3_complete_28 : decode cX3_complete 28 = .ok (.getfield 27, 3) := by decide +kernel
theorem dX3_complete_31 : decode cX3_complete 31 = .ok (.getfield 230, 3) := by decide +kernel
theorem dX3_complete_34 : decode cX3_complete 34 = .ok (.invokevirtual 210, 3) := by decide +kernel
theorem dX3_complete_37 : decode cX3_complete 37 = .ok (.aload_n 0, 1) := by decide +kernel
theorem dX3_complete_38 : decode cX3_complete 38 = .ok (.getfield 18, 3) := by decide +kernel
theorem dX3_complete_41 : decode cX3_complete 41 = .ok (.aload_n 0, 1) := by decide +kernel
theorem dX3_complete_42 : decode cX3_complete 42 = .ok (.getfield 27, 3) := by decide +kernel
theorem dX3_complete_45 : decode cX3_complete 45 = .ok (.getfield 233, 3) := by decide +kernel
theorem dX3_complete_48 : decode cX3_complete 48 = .ok (.invokevirtual 210, 3) := by decide +kernel
theorem dX3_complete_51 : decode cX3_complete 51 = .ok (.aload_n 0, 1) := by decide +kernel
theorem dX3_complete_52 : decode cX3_complete 52 = .ok (.aload_n 0, 1) := by decide +kernel
theorem dX3_complete_53 : decode cX3_complete 53 = .ok (.getfield 27, 3) := by decide +kernel
theorem dX3_complete_56 : decode cX3_complete 56 = .ok (.getfield 230, 3) := by decide +kernel
theorem dX3_complete_59 : decode cX3_complete 59 = .ok (.aload_n 0, 1) := by decide +kernel
theorem dX3_complete_60 : decode cX3_complete 60 = .ok (.getfield 27, 3) := by decide +kernel
theorem dX3_complete_63 : decode cX3_complete 63 = .ok (.getfield 233, 3) := by decide +kernel
theorem dX3_complete_66 : decode cX3_complete 66 = .ok (.invokevirtual 119, 3) := by decide +kernel
theorem dX3_complete_69 : decode cX3_complete 69 = .ok (.ireturn, 1) := by decide +kernel
theorem dX3_tidy_0 : decode cX3_tidy 0 = .ok (.iconst 0, 1) := by decide +kernel
theorem dX3_tidy_1 : decode cX3_tidy 1 = .ok (.istore_n 1, 1) := by decide +kernel
theorem dX3_tidy_2 : decode cX3_tidy 2 = .ok (.aload_n 0, 1) := by decide +kernel
theorem dX3_tidy_3 : decode cX3_tidy 3 = .ok (.getfield 18, 3) := by decide +kernel
theorem dX3_tidy_6 : decode cX3_tidy 6 = .ok (.getfield 128, 3) := by decide +kernel
theorem dX3_tidy_9 : decode cX3_tidy 9 = .ok (.iconst 1, 1) := by decide +kernel
theorem dX3_tidy_10 : decode cX3_tidy 10 = .ok (.isub, 1) := by decide +kernel
theorem dX3_tidy_11 : decode cX3_tidy 11 = .ok (.istore_n 2, 1) := by decide +kernel
theorem dX3_tidy_12 : decode cX3_tidy 12 = .ok (.iload_n 2, 1) := by decide +kernel
theorem dX3_tidy_13 : decode cX3_tidy 13 = .ok (.ifCond .lt 23, 3) := by decide +kernel
theorem dX3_tidy_16 : decode cX3_tidy 16 = .ok (.aload_n 0, 1) := by decide +kernel
theorem dX3_tidy_17 : decode cX3_tidy 17 = .ok (.getfield 18, 3) := by decide +kernel
theorem dX3_tidy_20 : decode cX3_tidy 20 = .ok (.iload_n 2, 1) := by decide +kernel
theorem dX3_tidy_21 : decode cX3_tidy 21 = .ok (.invokevirtual 244, 3) := by decide +kernel
theorem dX3_tidy_24 : decode cX3_tidy 24 = .ok (.ifCond .eq 6, 3) := by decide +kernel
theorem dX3_tidy_27 : decode cX3_tidy 27 = .ok (.iinc 1 1, 3) := by decide +kernel
theorem dX3_tidy_30 : decode cX3_tidy 30 = .ok (.iinc 2 (-1), 3) := by decide +kernel
theorem dX3_tidy_33 : decode cX3_tidy 33 = .ok (.goto (-21), 3) := by decide +kernel
theorem dX3_tidy_36 : decode cX3_tidy 36 = .ok (.iload_n 1, 1) := by decide +kernel
theorem dX3_tidy_37 : decode cX3_tidy 37 = .ok (.ireturn, 1) := by decide +kernel
set_option maxRecDepth 20000 in
theorem ggX3_house_X3_lettersOfRopes : GoodIn wsX3_house wsX3_lettersOfRopes := goodIn_r _ [10, 11, 12, 13, 14, 15, 16, 17, 18, 19, 20, 21, 22, 23] (by decide +kernel) (by decide +kernel)
set_option maxRecDepth 20000 in
theorem gX3_house_X3_lettersOfRopes : GoodIn wsX3_house (wsV RX3 247 RX3 yX3_lettersOfRopes wsX3_lettersOfRopes) := goodIn_app (goodIn_of _ (by decide +kernel)) ggX3_house_X3_lettersOfRopes
theorem dX3_house_0 : decode cX3_house 0 = .ok (.iload_n 1, 1) := by decide +kernel
theorem dX3_house_1 : decode cX3_house 1 = .ok (.tableswitch 51 0 3 #[31, 36, 41, 46], 31) := by decide +kernel
theorem dX3_house_32 : decode cX3_house 32 = .ok (.aload_n 0, 1) := by decide +kernel
theorem dX3_house_33 : decode cX3_house 33 = .ok (.getfield 42, 3) := by decide +kernel
theorem dX3_house_36 : decode cX3_house 36 = .ok (.ireturn, 1) := by decide +kernel
theorem dX3_house_37 : decode cX3_house 37 = .ok (.aload_n 0, 1) := by decide +kernel
theorem dX3_house_38 : decode cX3_house 38 = .ok (.getfield 46, 3) := by decide +kernel
theorem dX3_house_41 : decode cX3_house 41 = .ok (.ireturn, 1) := by decide +kernel
theorem dX3_house_42 : decode cX3_house 42 = .ok (.aload_n 0, 1) := by decide +kernel
theorem dX3_house_43 : decode cX3_house 43 = .ok (.invokevirtual 247, 3) := by decide +kernel
theorem dX3_house_46 : decode cX3_house 46 = .ok (.ireturn, 1) := by decide +kernel
theorem dX3_house_47 : decode cX3_house 47 = .ok (.aload_n 0, 1) := by decide +kernel
theorem dX3_house_48 : decode cX3_house 48 = .ok (.getfield 49, 3) := by decide +kernel
theorem dX3_house_51 : decode cX3_house 51 = .ok (.ireturn, 1) := by decide +kernel
theorem dX3_house_52 : decode cX3_house 52 = .ok (.new 95, 3) := by decide +kernel
theorem dX3_house_55 : decode cX3_house 55 = .ok (.dup, 1) := by decide +kernel
theorem dX3_house_56 : decode cX3_house 56 = .ok (.ldc 250, 2) := by decide +kernel
theorem dX3_house_58 : decode cX3_house 58 = .ok (.invokespecial 99, 3) := by decide +kernel
theorem dX3_house_61 : decode cX3_house 61 = .ok (.athrow, 1) := by decide +kernel
theorem dX3_knock_0 : decode cX3_knock 0 = .ok (.aload_n 0, 1) := by decide +kernel
theorem dX3_knock_1 : decode cX3_knock 1 = .ok (.dup, 1) := by decide +kernel
theorem dX3_knock_2 : decode cX3_knock 2 = .ok (.getfield 46, 3) := by decide +kernel
theorem dX3_knock_5 : decode cX3_knock 5 = .ok (.iconst 1, 1) := by decide +kernel
theorem dX3_knock_6 : decode cX3_knock 6 = .ok (.iadd, 1) := by decide +kernel
theorem dX3_knock_7 : decode cX3_knock 7 = .ok (.putfield 46, 3) := by decide +kernel
theorem dX3_knock_10 : decode cX3_knock 10 = .ok (.aload_n 0, 1) := by decide +kernel
theorem dX3_knock_11 : decode cX3_knock 11 = .ok (.getfield 46, 3) := by decide +kernel
theorem dX3_knock_14 : decode cX3_knock 14 = .ok (.ireturn, 1) := by decide +kernel
set_option maxRecDepth 20000 in
theorem ggX3_isSound_X3_areSpotsSound : GoodIn wsX3_isSound wsX3_areSpotsSound := goodIn_r _ [8, 2, 9, 10, 11, 12, 13, 14, 15, 16, 17, 18, 19, 20, 21, 22, 23, 24, 25, 26, 27, 28, 29, 30, 31, 32, 33, 34, 35, 36, 37, 38, 39, 40, 41, 42, 43, 44, 45, 46, 47, 48, 49, 50, 51, 52, 53, 54, 55, 56, 57, 58, 59, 60, 61, 189, 190, 191, 192, 193, 194, 195, 196, 197, 198, 199, 200, 201, 202, 203, 204, 205, 206, 207] (by decide +kernel) (by decide +kernel)
set_option maxRecDepth 20000 in
theorem gX3_isSound_X3_areSpotsSound : GoodIn wsX3_isSound (wsV RX3 252 RX3 yX3_areSpotsSound wsX3_areSpotsSound) := goodIn_app (goodIn_of _ (by decide +kernel)) ggX3_isSound_X3_areSpotsSound
set_option maxRecDepth 20000 in
theorem ggX3_isSound_X3_isTurnSound : GoodIn wsX3_isSound wsX3_isTurnSound := goodIn_r _ [65, 9, 35, 36, 37, 29, 38, 32, 31, 39, 40, 41, 42, 66, 67, 68, 69, 70, 71, 72, 73, 74, 27, 28, 30, 189, 190, 191, 192, 193, 194, 195, 196, 197, 206, 207] (by decide +kernel) (by decide +kernel)
set_option maxRecDepth 20000 in
theorem gX3_isSound_X3_isTurnSound : GoodIn wsX3_isSound (wsV RX3 255 RX3 yX3_isTurnSound wsX3_isTurnSound) := goodIn_app (goodIn_of _ (by decide +kernel)) ggX3_isSound_X3_isTurnSound
set_option maxRecDepth 20000 in
theorem ggX3_isSound_X1_areAllFalling : GoodIn wsX3_isSound wsX1_areAllFalling := goodIn_r _ [78, 18, 79, 53, 54, 15, 55, 47, 19, 56, 57, 58, 29, 59, 31, 32, 198, 199, 200, 201, 202, 203, 204, 205, 206, 207] (by decide +kernel) (by decide +kernel)
set_option maxRecDepth 20000 in
theorem gX3_isSound_X1_areAllFalling : GoodIn wsX3_isSound (wsV RX3 161 RX1 yX1_areAllFalling wsX1_areAllFalling) := goodIn_app (goodIn_of _ (by decide +kernel)) ggX3_isSound_X1_areAllFalling
set_option maxRecDepth 20000 in
theorem ggX3_isSound_X0_firstUnmet : GoodIn wsX3_isSound wsX0_firstUnmet := goodIn_r _ [84, 85, 86, 87, 88, 89, 83, 90, 91, 92, 93, 94, 95, 96, 97, 98, 99, 100, 101, 102, 103, 104, 105, 106, 107, 29, 108, 31, 32, 109, 110, 111, 112, 113, 114, 115, 116, 117, 118, 27, 28, 30, 119, 120, 121, 122, 123, 124, 125, 126, 127, 128, 129, 130, 131, 132, 133, 134, 135, 36, 37, 38, 39, 40, 41, 42, 136, 137, 138, 139, 140, 49, 50, 51, 141, 142, 143, 144, 145, 146, 147, 15, 148, 149, 13, 14, 16, 17, 18, 19, 20, 21, 22, 23, 24, 25, 26, 150, 151, 152, 153, 47, 154, 44, 45, 46, 48, 155, 71, 72, 73, 74, 208, 209, 210, 211, 212, 213, 214, 215, 198, 199, 200, 201, 202, 203, 204, 205, 206, 207] (by decide +kernel) (by decide +kernel)
set_option maxRecDepth 20000 in
theorem gX3_isSound_X0_firstUnmet : GoodIn wsX3_isSound (wsV RX3 216 RX0 yX0_firstUnmet wsX0_firstUnmet) := goodIn_app (goodIn_of _ (by decide +kernel)) ggX3_isSound_X0_firstUnmet
set_option maxRecDepth 20000 in
theorem ggX3_isSound_X3_isSameByWays : GoodIn wsX3_isSound wsX3_isSameByWays := goodIn_r _ [159, 160, 2, 9, 35, 36, 37, 29, 38, 32, 31, 39, 40, 41, 42, 161, 162, 163, 15, 164, 165, 166, 167, 168, 169, 170, 171, 172, 17, 18, 19, 26, 27, 28, 30, 173, 174, 175, 176, 149, 13, 14, 16, 20, 21, 22, 23, 24, 25, 150, 151, 152, 153, 47, 154, 44, 45, 46, 48, 49, 50, 51, 177, 178, 179, 180, 70, 71, 72, 73, 74, 189, 190, 191, 192, 193, 194, 195, 196, 197, 206, 207, 198, 199, 200, 201, 202, 203, 204, 205] (by decide +kernel) (by decide +kernel)
set_option maxRecDepth 20000 in
theorem gX3_isSound_X3_isSameByWays : GoodIn wsX3_isSound (wsV RX3 258 RX3 yX3_isSameByWays wsX3_isSameByWays) := goodIn_app (goodIn_of _ (by decide +kernel)) ggX3_isSound_X3_isSameByWays
set_option maxRecDepth 20000 in
theorem ggX3_isSound_X3_isSameJoined : GoodIn wsX3_isSound wsX3_isSameJoined := goodIn_r _ [184, 160, 185, 2, 186, 9, 35, 36, 37, 29, 38, 32, 31, 39, 40, 41, 42, 187, 146, 147, 15, 148, 149, 13, 14, 16, 17, 18, 19, 20, 21, 22, 23, 24, 25, 26, 27, 28, 30, 150, 151, 152, 153, 47, 154, 44, 45, 46, 48, 49, 50, 51, 177, 178, 179, 180, 188, 137, 138, 139, 70, 71, 72, 73, 74, 189, 190, 191, 192, 193, 194, 195, 196, 197, 206, 207, 198, 199, 200, 201, 202, 203, 204, 205] (by decide +kernel) (by decide +kernel)
set_option maxRecDepth 20000 in
theorem gX3_isSound_X3_isSameJoined : GoodIn wsX3_isSound (wsV RX3 261 RX3 yX3_isSameJoined wsX3_isSameJoined) := goodIn_app (goodIn_of _ (by decide +kernel)) ggX3_isSound_X3_isSameJoined
theorem dX3_isSound_0 : decode cX3_isSound 0 = .ok (.iconst 0, 1) := by decide +kernel
theorem dX3_isSound_1 : decode cX3_isSound 1 = .ok (.istore_n 1, 1) := by decide +kernel
theorem dX3_isSound_2 : decode cX3_isSound 2 = .ok (.iload_n 1, 1) := by decide +kernel
theorem dX3_isSound_3 : decode cX3_isSound 3 = .ok (.iconst 4, 1) := by decide +kernel
theorem dX3_isSound_4 : decode cX3_isSound 4 = .ok (.if_icmp .ge 37, 3) := by decide +kernel
theorem dX3_isSound_7 : decode cX3_isSound 7 = .ok (.aload_n 0, 1) := by decide +kernel
theorem dX3_isSound_8 : decode cX3_isSound 8 = .ok (.aload_n 0, 1) := by decide +kernel
theorem dX3_isSound_9 : decode cX3_isSound 9 = .ok (.getfield 11, 3) := by decide +kernel
theorem dX3_isSound_12 : decode cX3_isSound 12 = .ok (.iload_n 1, 1) := by decide +kernel
theorem dX3_isSound_13 : decode cX3_isSound 13 = .ok (.aaload, 1) := by decide +kernel
theorem dX3_isSound_14 : decode cX3_isSound 14 = .ok (.invokevirtual 252, 3) := by decide +kernel
theorem dX3_isSound_17 : decode cX3_isSound 17 = .ok (.ifCond .eq 16, 3) := by decide +kernel
theorem dX3_isSound_20 : decode cX3_isSound 20 = .ok (.aload_n 0, 1) := by decide +kernel
theorem dX3_isSound_21 : decode cX3_isSound 21 = .ok (.aload_n 0, 1) := by decide +kernel
theorem dX3_isSound_22 : decode cX3_isSound 22 = .ok (.getfield 11, 3) := by decide +kernel
theorem dX3_isSound_25 : decode cX3_isSound 25 = .ok (.iload_n 1, 1) := by decide +kernel
theorem dX3_isSound_26 : decode cX3_isSound 26 = .ok (.aaload, 1) := by decide +kernel
theorem dX3_isSound_27 : decode cX3_isSound 27 = .ok (.invokevirtual 255, 3) := by decide +kernel
theorem dX3_isSound_30 : decode cX3_isSound 30 = .ok (.ifCond .ne 5, 3) := by decide +kernel
theorem dX3_isSound_33 : decode cX3_isSound 33 = .ok (.iconst 0, 1) := by decide +kernel
theorem dX3_isSound_34 : decode cX3_isSound 34 = .ok (.ireturn, 1) := by decide +kernel
theorem dX3_isSound_35 : decode cX3_isSound 35 = .ok (.iinc 1 1, 3) := by decide +kernel
theorem dX3_isSound_38 : decode cX3_isSound 38 = .ok (.goto (-36), 3) := by decide +kernel
theorem dX3_isSound_41 : decode cX3_isSound 41 = .ok (.aload_n 0, 1) := by decide +kernel
theorem dX3_isSound_42 : decode cX3_isSound 42 = .ok (.getfield 18, 3) := by decide +kernel
theorem dX3_isSound_45 : decode cX3_isSound 45 = .ok (.invokevirtual 161, 3) := by decide +kernel
theorem dX3_isSound_48 : decode cX3_isSound 48 = .ok (.ifCond .eq 14, 3) := by decide +kernel
theorem dX3_isSound_51 : decode cX3_isSound 51 = .ok (.aload_n 0, 1) := by decide +kernel
theorem dX3_isSound_52 : decode cX3_isSound 52 = .ok (.getfield 27, 3) := by decide +kernel
theorem dX3_isSound_55 : decode cX3_isSound 55 = .ok (.invokevirtual 216, 3) := by decide +kernel
theorem dX3_isSound_58 : decode cX3_isSound 58 = .ok (.iconst (-1), 1) := by decide +kernel
theorem dX3_isSound_59 : decode cX3_isSound 59 = .ok (.if_icmp .eq 5, 3) := by decide +kernel
theorem dX3_isSound_62 : decode cX3_isSound 62 = .ok (.iconst 1, 1) := by decide +kernel
theorem dX3_isSound_63 : decode cX3_isSound 63 = .ok (.ireturn, 1) := by decide +kernel
theorem dX3_isSound_64 : decode cX3_isSound 64 = .ok (.iconst 0, 1) := by decide +kernel
theorem dX3_isSound_65 : decode cX3_isSound 65 = .ok (.istore_n 1, 1) := by decide +kernel
theorem dX3_isSound_66 : decode cX3_isSound 66 = .ok (.iload_n 1, 1) := by decide +kernel
theorem dX3_isSound_67 : decode cX3_isSound 67 = .ok (.iconst 4, 1) := by decide +kernel
theorem dX3_isSound_68 : decode cX3_isSound 68 = .ok (.if_icmp .ge 49, 3) := by decide +kernel
theorem dX3_isSound_71 : decode cX3_isSound 71 = .ok (.aload_n 0, 1) := by decide +kernel
theorem dX3_isSound_72 : decode cX3_isSound 72 = .ok (.getfield 11, 3) := by decide +kernel
theorem dX3_isSound_75 : decode cX3_isSound 75 = .ok (.iload_n 1, 1) := by decide +kernel
theorem dX3_isSound_76 : decode cX3_isSound 76 = .ok (.iconst 1, 1) := by decide +kernel
theorem dX3_isSound_77 : decode cX3_isSound 77 = .ok (.iadd, 1) := by decide +kernel
theorem dX3_isSound_78 : decode cX3_isSound 78 = .ok (.iconst 4, 1) := by decide +kernel
theorem dX3_isSound_79 : decode cX3_isSound 79 = .ok (.irem, 1) := by decide +kernel
theorem dX3_isSound_80 : decode cX3_isSound 80 = .ok (.aaload, 1) := by decide +kernel
theorem dX3_isSound_81 : decode cX3_isSound 81 = .ok (.astore_n 2, 1) := by decide +kernel
theorem dX3_isSound_82 : decode cX3_isSound 82 = .ok (.aload_n 0, 1) := by decide +kernel
theorem dX3_isSound_83 : decode cX3_isSound 83 = .ok (.aload_n 0, 1) := by decide +kernel
theorem dX3_isSound_84 : decode cX3_isSound 84 = .ok (.getfield 11, 3) := by decide +kernel
theorem dX3_isSound_87 : decode cX3_isSound 87 = .ok (.iload_n 1, 1) := by decide +kernel
theorem dX3_isSound_88 : decode cX3_isSound 88 = .ok (.aaload, 1) := by decide +kernel
theorem dX3_isSound_89 : decode cX3_isSound 89 = .ok (.invokevirtual 258, 3) := by decide +kernel
theorem dX3_isSound_92 : decode cX3_isSound 92 = .ok (.ifCond .eq 17, 3) := by decide +kernel
theorem dX3_isSound_95 : decode cX3_isSound 95 = .ok (.aload_n 0, 1) := by decide +kernel
theorem dX3_isSound_96 : decode cX3_isSound 96 = .ok (.aload_n 0, 1) := by decide +kernel
theorem dX3_isSound_97 : decode cX3_isSound 97 = .ok (.getfield 11, 3) := by decide +kernel
theorem dX3_isSound_100 : decode cX3_isSound 100 = .ok (.iload_n 1, 1) := by decide +kernel
theorem dX3_isSound_101 : decode cX3_isSound 101 = .ok (.aaload, 1) := by decide +kernel
theorem dX3_isSound_102 : decode cX3_isSound 102 = .ok (.aload_n 2, 1) := by decide +kernel
theorem dX3_isSound_103 : decode cX3_isSound 103 = .ok (.invokevirtual 261, 3) := by decide +kernel
theorem dX3_isSound_106 : decode cX3_isSound 106 = .ok (.ifCond .ne 5, 3) := by decide +kernel
theorem dX3_isSound_109 : decode cX3_isSound 109 = .ok (.iconst 0, 1) := by decide +kernel
theorem dX3_isSound_110 : decode cX3_isSound 110 = .ok (.ireturn, 1) := by decide +kernel
theorem dX3_isSound_111 : decode cX3_isSound 111 = .ok (.iinc 1 1, 3) := by decide +kernel
theorem dX3_isSound_114 : decode cX3_isSound 114 = .ok (.goto (-48), 3) := by decide +kernel
theorem dX3_isSound_117 : decode cX3_isSound 117 = .ok (.iconst 1, 1) := by decide +kernel
theorem dX3_isSound_118 : decode cX3_isSound 118 = .ok (.ireturn, 1) := by decide +kernel
set_option maxRecDepth 20000 in
theorem ggX3_digest_X3_mix : GoodIn wsX3_digest wsX3_mix := goodIn_r _ [15, 16] (by decide +kernel) (by decide +kernel)
set_option maxRecDepth 20000 in
theorem gX3_digest_X3_mix : GoodIn wsX3_digest (va_wsS RX3 267 yX3_mix wsX3_mix) := goodIn_app (goodIn_of _ (by decide +kernel)) ggX3_digest_X3_mix
set_option maxRecDepth 20000 in
theorem ggX3_digest_X3_lettersOfRopes : GoodIn wsX3_digest wsX3_lettersOfRopes := goodIn_r _ [20, 5, 21, 218, 219, 220, 221, 222, 223, 224, 225, 226, 235, 236] (by decide +kernel) (by decide +kernel)
set_option maxRecDepth 20000 in
theorem gX3_digest_X3_lettersOfRopes : GoodIn wsX3_digest (wsV RX3 247 RX3 yX3_lettersOfRopes wsX3_lettersOfRopes) := goodIn_app (goodIn_of _ (by decide +kernel)) ggX3_digest_X3_lettersOfRopes
set_option maxRecDepth 20000 in
theorem ggX3_digest_X2_mixInto : GoodIn wsX3_digest wsX2_mixInto := goodIn_r _ [26, 27, 28, 13, 14, 15, 16, 235, 236] (by decide +kernel) (by decide +kernel)
set_option maxRecDepth 20000 in
theorem gX3_digest_X2_mixInto : GoodIn wsX3_digest (wsV RX3 271 RX2 yX2_mixInto wsX2_mixInto) := goodIn_app (goodIn_of _ (by decide +kernel)) ggX3_digest_X2_mixInto
set_option maxRecDepth 20000 in
theorem ggX3_digest_X1_countSpots : GoodIn wsX3_digest wsX1_countSpots := goodIn_r _ [33, 34, 35, 36, 37, 38, 39, 25, 40, 27, 28, 235, 236, 227, 228, 229, 230, 231, 232, 233, 234] (by decide +kernel) (by decide +kernel)
set_option maxRecDepth 20000 in
theorem gX3_digest_X1_countSpots : GoodIn wsX3_digest (wsV RX3 192 RX1 yX1_countSpots wsX1_countSpots) := goodIn_app (goodIn_of _ (by decide +kernel)) ggX3_digest_X1_countSpots
set_option maxRecDepth 20000 in
theorem ggX3_digest_X2_become : GoodIn wsX3_digest wsX2_become := goodIn_r _ [44, 28, 27, 45, 46, 47, 48, 235, 236] (by decide +kernel) (by decide +kernel)
set_option maxRecDepth 20000 in
theorem gX3_digest_X2_become : GoodIn wsX3_digest (wsV RX3 79 RX2 yX2_become wsX2_become) := goodIn_app (goodIn_of _ (by decide +kernel)) ggX3_digest_X2_become
set_option maxRecDepth 20000 in
theorem ggX3_digest_X1_toForm : GoodIn wsX3_digest wsX1_toForm := goodIn_r _ [52, 53, 54, 55, 32, 56, 34, 35, 36, 57, 58, 59, 60, 61, 62, 37, 38, 39, 25, 40, 27, 28, 63, 64, 65, 66, 67, 68, 69, 70, 71, 72, 73, 74, 75, 45, 46, 47, 48, 235, 236, 227, 228, 229, 230, 231, 232, 233, 234] (by decide +kernel) (by decide +kernel)
set_option maxRecDepth 20000 in
theorem gX3_digest_X1_toForm : GoodIn wsX3_digest (wsV RX3 210 RX1 yX1_toForm wsX1_toForm) := goodIn_app (goodIn_of _ (by decide +kernel)) ggX3_digest_X1_toForm
set_option maxRecDepth 20000 in
theorem ggX3_digest_X1_areAllFalling : GoodIn wsX3_digest wsX1_areAllFalling := goodIn_r _ [79, 35, 80, 81, 82, 32, 83, 67, 36, 84, 85, 86, 25, 87, 27, 28, 227, 228, 229, 230, 231, 232, 233, 234, 235, 236] (by decide +kernel) (by decide +kernel)
set_option maxRecDepth 20000 in
theorem gX3_digest_X1_areAllFalling : GoodIn wsX3_digest (wsV RX3 161 RX1 yX1_areAllFalling wsX1_areAllFalling) := goodIn_app (goodIn_of _ (by decide +kernel)) ggX3_digest_X1_areAllFalling
set_option maxRecDepth 20000 in
theorem ggX3_digest_X0_size : GoodIn wsX3_digest wsX0_size := goodIn_r _ [92, 93, 94, 95, 96, 91, 97, 98, 99, 100, 101, 102, 103, 104, 105, 106, 107, 108, 109, 110, 111, 112, 113, 114, 115, 25, 116, 27, 28, 117, 118, 119, 120, 121, 122, 123, 124, 125, 126, 38, 39, 40, 237, 238, 239, 240, 241, 242, 243, 244, 227, 228, 229, 230, 231, 232, 233, 234, 235, 236] (by decide +kernel) (by decide +kernel)
set_option maxRecDepth 20000 in
theorem gX3_digest_X0_size : GoodIn wsX3_digest (wsV RX3 219 RX0 yX0_size wsX0_size) := goodIn_app (goodIn_of _ (by decide +kernel)) ggX3_digest_X0_size
set_option maxRecDepth 20000 in
theorem ggX3_digest_X0_firstUnmet : GoodIn wsX3_digest wsX0_firstUnmet := goodIn_r _ [130, 101, 93, 94, 95, 96, 91, 97, 98, 99, 100, 102, 103, 104, 105, 106, 107, 108, 109, 110, 111, 112, 113, 114, 115, 25, 116, 27, 28, 117, 118, 119, 120, 121, 122, 123, 124, 125, 126, 38, 39, 40, 131, 132, 133, 134, 135, 136, 137, 138, 139, 140, 141, 142, 143, 144, 145, 146, 147, 42, 43, 44, 45, 46, 47, 48, 148, 149, 150, 151, 152, 73, 74, 75, 153, 154, 155, 156, 157, 50, 51, 32, 52, 53, 54, 55, 56, 34, 35, 36, 57, 58, 59, 60, 61, 62, 37, 63, 64, 65, 66, 67, 68, 69, 70, 71, 72, 158, 159, 160, 161, 162, 237, 238, 239, 240, 241, 242, 243, 244, 227, 228, 229, 230, 231, 232, 233, 234, 235, 236] (by decide +kernel) (by decide +kernel)
set_option maxRecDepth 20000 in
theorem gX3_digest_X0_firstUnmet : GoodIn wsX3_digest (wsV RX3 216 RX0 yX0_firstUnmet wsX0_firstUnmet) := goodIn_app (goodIn_of _ (by decide +kernel)) ggX3_digest_X0_firstUnmet
set_option maxRecDepth 20000 in
theorem ggX3_digest_X3_isSound : GoodIn wsX3_digest wsX3_isSound := goodIn_r _ [166, 5, 6, 11, 167, 168, 169, 14, 170, 7, 9, 10, 171, 54, 55, 32, 56, 34, 35, 36, 57, 58, 59, 60, 61, 62, 37, 38, 39, 25, 40, 27, 28, 172, 173, 41, 42, 43, 44, 45, 46, 47, 48, 174, 69, 70, 71, 67, 72, 73, 74, 75, 175, 81, 82, 83, 84, 85, 86, 87, 176, 177, 178, 179, 180, 181, 182, 183, 184, 185, 186, 159, 160, 161, 162, 76, 77, 78, 79, 80, 127, 128, 129, 91, 130, 101, 93, 94, 95, 96, 97, 98, 99, 100, 102, 103, 104, 105, 106, 107, 108, 109, 110, 111, 112, 113, 114, 115, 116, 117, 118, 119, 120, 121, 122, 123, 124, 125, 126, 131, 132, 133, 134, 135, 136, 137, 138, 139, 140, 141, 142, 143, 144, 145, 146, 147, 148, 149, 150, 151, 152, 153, 154, 155, 156, 157, 50, 51, 52, 53, 63, 64, 65, 66, 68, 158, 187, 188, 189, 190, 191, 192, 193, 194, 195, 196, 197, 198, 199, 200, 201, 202, 203, 204, 205, 206, 207, 208, 209, 210, 211, 212, 213, 214, 215, 216, 21, 49, 217, 218, 219, 220, 221, 222, 223, 224, 225, 226, 227, 228, 229, 230, 231, 232, 233, 234, 235, 236, 237, 238, 239, 240, 241, 242, 243, 244] (by decide +kernel) (by decide +kernel)
set_option maxRecDepth 20000 in
theorem gX3_digest_X3_isSound : GoodIn wsX3_digest (wsV RX3 275 RX3 yX3_isSound wsX3_isSound) := goodIn_app (goodIn_of _ (by decide +kernel)) ggX3_digest_X3_isSound
theorem dX3_digest_0 : decode cX3_digest 0 = .ok (.ldc2_w 265, 3) := by decide +kernel
theorem dX3_digest_3 : decode cX3_digest 3 = .ok (.lstore_n 1, 1) := by decide +kernel
theorem dX3_digest_4 : decode cX3_digest 4 = .ok (.lload_n 1, 1) := by decide +kernel
theorem dX3_digest_5 : decode cX3_digest 5 = .ok (.aload_n 0, 1) := by decide +kernel
theorem dX3_digest_6 : decode cX3_digest 6 = .ok (.getfield 42, 3) := by decide +kernel
theorem dX3_digest_9 : decode cX3_digest 9 = .ok (.invokestatic 267, 3) := by decide +kernel
theorem dX3_digest_12 : decode cX3_digest 12 = .ok (.lstore_n 1, 1) := by decide +kernel
theorem dX3_digest_13 : decode cX3_digest 13 = .ok (.lload_n 1, 1) := by decide +kernel
theorem dX3_digest_14 : decode cX3_digest 14 = .ok (.aload_n 0, 1) := by decide +kernel
theorem dX3_digest_15 : decode cX3_digest 15 = .ok (.getfield 46, 3) := by decide +kernel
theorem dX3_digest_18 : decode cX3_digest 18 = .ok (.invokestatic 267, 3) := by decide +kernel
theorem dX3_digest_21 : decode cX3_digest 21 = .ok (.lstore_n 1, 1) := by decide +kernel
theorem dX3_digest_22 : decode cX3_digest 22 = .ok (.lload_n 1, 1) := by decide +kernel
theorem dX3_digest_23 : decode cX3_digest 23 = .ok (.aload_n 0, 1) := by decide +kernel
theorem dX3_digest_24 : decode cX3_digest 24 = .ok (.invokevirtual 247, 3) := by decide +kernel
theorem dX3_digest_27 : decode cX3_digest 27 = .ok (.invokestatic 267, 3) := by decide +kernel
theorem dX3_digest_30 : decode cX3_digest 30 = .ok (.lstore_n 1, 1) := by decide +kernel
theorem dX3_digest_31 : decode cX3_digest 31 = .ok (.lload_n 1, 1) := by decide +kernel
theorem dX3_digest_32 : decode cX3_digest 32 = .ok (.aload_n 0, 1) := by decide +kernel
theorem dX3_digest_33 : decode cX3_digest 33 = .ok (.getfield 49, 3) := by decide +kernel
theorem dX3_digest_36 : decode cX3_digest 36 = .ok (.invokestatic 267, 3) := by decide +kernel
theorem dX3_digest_39 : decode cX3_digest 39 = .ok (.lstore_n 1, 1) := by decide +kernel
theorem dX3_digest_40 : decode cX3_digest 40 = .ok (.iconst 0, 1) := by decide +kernel
theorem dX3_digest_41 : decode cX3_digest 41 = .ok (.istore_n 3, 1) := by decide +kernel
theorem dX3_digest_42 : decode cX3_digest 42 = .ok (.iload_n 3, 1) := by decide +kernel
theorem dX3_digest_43 : decode cX3_digest 43 = .ok (.iconst 4, 1) := by decide +kernel
theorem dX3_digest_44 : decode cX3_digest 44 = .ok (.if_icmp .ge 71, 3) := by decide +kernel
theorem dX3_digest_47 : decode cX3_digest 47 = .ok (.aload_n 0, 1) := by decide +kernel
theorem dX3_digest_48 : decode cX3_digest 48 = .ok (.getfield 11, 3) := by decide +kernel
theorem dX3_digest_51 : decode cX3_digest 51 = .ok (.iload_n 3, 1) := by decide +kernel
theorem dX3_digest_52 : decode cX3_digest 52 = .ok (.aaload, 1) := by decide +kernel
theorem dX3_digest_53 : decode cX3_digest 53 = .ok (.lload_n 1, 1) := by decide +kernel
theorem dX3_digest_54 : decode cX3_digest 54 = .ok (.invokevirtual 271, 3) := by decide +kernel
theorem dX3_digest_57 : decode cX3_digest 57 = .ok (.lstore_n 1, 1) := by decide +kernel
theorem dX3_digest_58 : decode cX3_digest 58 = .ok (.lload_n 1, 1) := by decide +kernel
theorem dX3_digest_59 : decode cX3_digest 59 = .ok (.aload_n 0, 1) := by decide +kernel
theorem dX3_digest_60 : decode cX3_digest 60 = .ok (.getfield 18, 3) := by decide +kernel
theorem dX3_digest_63 : decode cX3_digest 63 = .ok (.aload_n 0, 1) := by decide +kernel
theorem dX3_digest_64 : decode cX3_digest 64 = .ok (.getfield 11, 3) := by decide +kernel
theorem dX3_digest_67 : decode cX3_digest 67 = .ok (.iload_n 3, 1) := by decide +kernel
theorem dX3_digest_68 : decode cX3_digest 68 = .ok (.aaload, 1) := by decide +kernel
theorem dX3_digest_69 : decode cX3_digest 69 = .ok (.invokevirtual 192, 3) := by decide +kernel
theorem dX3_digest_72 : decode cX3_digest 72 = .ok (.invokestatic 267, 3) := by decide +kernel
theorem dX3_digest_75 : decode cX3_digest 75 = .ok (.lstore_n 1, 1) := by decide +kernel
theorem dX3_digest_76 : decode cX3_digest 76 = .ok (.aload_n 0, 1) := by decide +kernel
theorem dX3_digest_77 : decode cX3_digest 77 = .ok (.getfield 32, 3) := by decide +kernel
theorem dX3_digest_80 : decode cX3_digest 80 = .ok (.aload_n 0, 1) := by decide +kernel
theorem dX3_digest_81 : decode cX3_digest 81 = .ok (.getfield 11, 3) := by decide +kernel
theorem dX3_digest_84 : decode cX3_digest 84 = .ok (.iload_n 3, 1) := by decide +kernel
theorem dX3_digest_85 : decode cX3_digest 85 = .ok (.aaload, 1) := by decide +kernel
theorem dX3_digest_86 : decode cX3_digest 86 = .ok (.invokevirtual 79, 3) := by decide +kernel
theorem dX3_digest_89 : decode cX3_digest 89 = .ok (.aload_n 0, 1) := by decide +kernel
theorem dX3_digest_90 : decode cX3_digest 90 = .ok (.getfield 18, 3) := by decide +kernel
theorem dX3_digest_93 : decode cX3_digest 93 = .ok (.aload_n 0, 1) := by decide +kernel
theorem dX3_digest_94 : decode cX3_digest 94 = .ok (.getfield 32, 3) := by decide +kernel
theorem dX3_digest_97 : decode cX3_digest 97 = .ok (.invokevirtual 210, 3) := by decide +kernel
theorem dX3_digest_100 : decode cX3_digest 100 = .ok (.aload_n 0, 1) := by decide +kernel
theorem dX3_digest_101 : decode cX3_digest 101 = .ok (.getfield 32, 3) := by decide +kernel
theorem dX3_digest_104 : decode cX3_digest 104 = .ok (.lload_n 1, 1) := by decide +kernel
theorem dX3_digest_105 : decode cX3_digest 105 = .ok (.invokevirtual 271, 3) := by decide +kernel
theorem dX3_digest_108 : decode cX3_digest 108 = .ok (.lstore_n 1, 1) := by decide +kernel
theorem dX3_digest_109 : decode cX3_digest 109 = .ok (.iinc 3 1, 3) := by decide +kernel
theorem dX3_digest_112 : decode cX3_digest 112 = .ok (.goto (-70), 3) := by decide +kernel
theorem dX3_digest_115 : decode cX3_digest 115 = .ok (.iconst 0, 1) := by decide +kernel
theorem dX3_digest_116 : decode cX3_digest 116 = .ok (.istore_n 3, 1) := by decide +kernel
theorem dX3_digest_117 : decode cX3_digest 117 = .ok (.iload_n 3, 1) := by decide +kernel
theorem dX3_digest_118 : decode cX3_digest 118 = .ok (.aload_n 0, 1) := by decide +kernel
theorem dX3_digest_119 : decode cX3_digest 119 = .ok (.getfield 18, 3) := by decide +kernel
theorem dX3_digest_122 : decode cX3_digest 122 = .ok (.getfield 128, 3) := by decide +kernel
theorem dX3_digest_125 : decode cX3_digest 125 = .ok (.if_icmp .ge 44, 3) := by decide +kernel
theorem dX3_digest_128 : decode cX3_digest 128 = .ok (.aload_n 0, 1) := by decide +kernel
theorem dX3_digest_129 : decode cX3_digest 129 = .ok (.getfield 18, 3) := by decide +kernel
theorem dX3_digest_132 : decode cX3_digest 132 = .ok (.getfield 144, 3) := by decide +kernel
theorem dX3_digest_135 : decode cX3_digest 135 = .ok (.iload_n 3, 1) := by decide +kernel
theorem dX3_digest_136 : decode cX3_digest 136 = .ok (.aaload, 1) := by decide +kernel
theorem dX3_digest_137 : decode cX3_digest 137 = .ok (.lload_n 1, 1) := by decide +kernel
theorem dX3_digest_138 : decode cX3_digest 138 = .ok (.invokevirtual 271, 3) := by decide +kernel
theorem dX3_digest_141 : decode cX3_digest 141 = .ok (.lstore_n 1, 1) := by decide +kernel
theorem dX3_digest_142 : decode cX3_digest 142 = .ok (.lload_n 1, 1) := by decide +kernel
theorem dX3_digest_143 : decode cX3_digest 143 = .ok (.bipush 62, 2) := by decide +kernel
theorem dX3_digest_145 : decode cX3_digest 145 = .ok (.invokestatic 267, 3) := by decide +kernel
theorem dX3_digest_148 : decode cX3_digest 148 = .ok (.lstore_n 1, 1) := by decide +kernel
theorem dX3_digest_149 : decode cX3_digest 149 = .ok (.aload_n 0, 1) := by decide +kernel
theorem dX3_digest_150 : decode cX3_digest 150 = .ok (.getfield 18, 3) := by decide +kernel
theorem dX3_digest_153 : decode cX3_digest 153 = .ok (.getfield 134, 3) := by decide +kernel
theorem dX3_digest_156 : decode cX3_digest 156 = .ok (.iload_n 3, 1) := by decide +kernel
theorem dX3_digest_157 : decode cX3_digest 157 = .ok (.aaload, 1) := by decide +kernel
theorem dX3_digest_158 : decode cX3_digest 158 = .ok (.lload_n 1, 1) := by decide +kernel
theorem dX3_digest_159 : decode cX3_digest 159 = .ok (.invokevirtual 271, 3) := by decide +kernel
theorem dX3_digest_162 : decode cX3_digest 162 = .ok (.lstore_n 1, 1) := by decide +kernel
theorem dX3_digest_163 : decode cX3_digest 163 = .ok (.iinc 3 1, 3) := by decide +kernel
theorem dX3_digest_166 : decode cX3_digest 166 = .ok (.goto (-49), 3) := by decide +kernel
theorem dX3_digest_169 : decode cX3_digest 169 = .ok (.lload_n 1, 1) := by decide +kernel
theorem dX3_digest_170 : decode cX3_digest 170 = .ok (.aload_n 0, 1) := by decide +kernel
theorem dX3_digest_171 : decode cX3_digest 171 = .ok (.getfield 18, 3) := by decide +kernel
theorem dX3_digest_174 : decode cX3_digest 174 = .ok (.invokevirtual 161, 3) := by decide +kernel
theorem dX3_digest_177 : decode cX3_digest 177 = .ok (.ifCond .eq 7, 3) := by decide +kernel
theorem dX3_digest_180 : decode cX3_digest 180 = .ok (.iconst 1, 1) := by decide +kernel
theorem dX3_digest_181 : decode cX3_digest 181 = .ok (.goto 4, 3) := by decide +kernel
theorem dX3_digest_184 : decode cX3_digest 184 = .ok (.iconst 0, 1) := by decide +kernel
theorem dX3_digest_185 : decode cX3_digest 185 = .ok (.invokestatic 267, 3) := by decide +kernel
theorem dX3_digest_188 : decode cX3_digest 188 = .ok (.lstore_n 1, 1) := by decide +kernel
theorem dX3_digest_189 : decode cX3_digest 189 = .ok (.lload_n 1, 1) := by decide +kernel
theorem dX3_digest_190 : decode cX3_digest 190 = .ok (.aload_n 0, 1) := by decide +kernel
theorem dX3_digest_191 : decode cX3_digest 191 = .ok (.getfield 27, 3) := by decide +kernel
theorem dX3_digest_194 : decode cX3_digest 194 = .ok (.invokevirtual 219, 3) := by decide +kernel
theorem dX3_digest_197 : decode cX3_digest 197 = .ok (.invokestatic 267, 3) := by decide +kernel
theorem dX3_digest_200 : decode cX3_digest 200 = .ok (.lstore_n 1, 1) := by decide +kernel
theorem dX3_digest_201 : decode cX3_digest 201 = .ok (.lload_n 1, 1) := by decide +kernel
theorem dX3_digest_202 : decode cX3_digest 202 = .ok (.aload_n 0, 1) := by decide +kernel
theorem dX3_digest_203 : decode cX3_digest 203 = .ok (.getfield 27, 3) := by decide +kernel
theorem dX3_digest_206 : decode cX3_digest 206 = .ok (.invokevirtual 216, 3) := by decide +kernel
theorem dX3_digest_209 : decode cX3_digest 209 = .ok (.invokestatic 267, 3) := by decide +kernel
theorem dX3_digest_212 : decode cX3_digest 212 = .ok (.lstore_n 1, 1) := by decide +kernel
theorem dX3_digest_213 : decode cX3_digest 213 = .ok (.lload_n 1, 1) := by decide +kernel
theorem dX3_digest_214 : decode cX3_digest 214 = .ok (.aload_n 0, 1) := by decide +kernel
theorem dX3_digest_215 : decode cX3_digest 215 = .ok (.invokevirtual 275, 3) := by decide +kernel
theorem dX3_digest_218 : decode cX3_digest 218 = .ok (.ifCond .eq 7, 3) := by decide +kernel
theorem dX3_digest_221 : decode cX3_digest 221 = .ok (.iconst 1, 1) := by decide +kernel
theorem dX3_digest_222 : decode cX3_digest 222 = .ok (.goto 4, 3) := by decide +kernel
theorem dX3_digest_225 : decode cX3_digest 225 = .ok (.iconst 0, 1) := by decide +kernel
theorem dX3_digest_226 : decode cX3_digest 226 = .ok (.invokestatic 267, 3) := by decide +kernel
theorem dX3_digest_229 : decode cX3_digest 229 = .ok (.lreturn, 1) := by decide +kernel
theorem dX3_needRope_0 : decode cX3_needRope 0 = .ok (.iload_n 0, 1) := by decide +kernel
theorem dX3_needRope_1 : decode cX3_needRope 1 = .ok (.ifCond .lt 8, 3) := by decide +kernel
theorem dX3_needRope_4 : decode cX3_needRope 4 = .ok (.iload_n 0, 1) := by decide +kernel
theorem dX3_needRope_5 : decode cX3_needRope 5 = .ok (.iconst 4, 1) := by decide +kernel
theorem dX3_needRope_6 : decode cX3_needRope 6 = .ok (.if_icmp .lt 14, 3) := by decide +kernel
theorem dX3_needRope_9 : decode cX3_needRope 9 = .ok (.new 236, 3) := by decide +kernel
theorem dX3_needRope_12 : decode cX3_needRope 12 = .ok (.dup, 1) := by decide +kernel
theorem dX3_needRope_13 : decode cX3_needRope 13 = .ok (.ldc_w 278, 3) := by decide +kernel
theorem dX3_needRope_16 : decode cX3_needRope 16 = .ok (.invokespecial 240, 3) := by decide +kernel
theorem dX3_needRope_19 : decode cX3_needRope 19 = .ok (.athrow, 1) := by decide +kernel
theorem dX3_needRope_20 : decode cX3_needRope 20 = .ok (.return_, 1) := by decide +kernel
theorem dX3_needRule_0 : decode cX3_needRule 0 = .ok (.iload_n 1, 1) := by decide +kernel
theorem dX3_needRule_1 : decode cX3_needRule 1 = .ok (.ifCond .lt 14, 3) := by decide +kernel
theorem dX3_needRule_4 : decode cX3_needRule 4 = .ok (.iload_n 1, 1) := by decide +kernel
theorem dX3_needRule_5 : decode cX3_needRule 5 = .ok (.aload_n 0, 1) := by decide +kernel
theorem dX3_needRule_6 : decode cX3_needRule 6 = .ok (.getfield 18, 3) := by decide +kernel
theorem dX3_needRule_9 : decode cX3_needRule 9 = .ok (.getfield 128, 3) := by decide +kernel
theorem dX3_needRule_12 : decode cX3_needRule 12 = .ok (.if_icmp .lt 14, 3) := by decide +kernel
theorem dX3_needRule_15 : decode cX3_needRule 15 = .ok (.new 236, 3) := by decide +kernel
theorem dX3_needRule_18 : decode cX3_needRule 18 = .ok (.dup, 1) := by decide +kernel
theorem dX3_needRule_19 : decode cX3_needRule 19 = .ok (.ldc_w 280, 3) := by decide +kernel
theorem dX3_needRule_22 : decode cX3_needRule 22 = .ok (.invokespecial 240, 3) := by decide +kernel
theorem dX3_needRule_25 : decode cX3_needRule 25 = .ok (.athrow, 1) := by decide +kernel
theorem dX3_needRule_26 : decode cX3_needRule 26 = .ok (.return_, 1) := by decide +kernel
theorem dX3_needPlace_0 : decode cX3_needPlace 0 = .ok (.iload_n 1, 1) := by decide +kernel
theorem dX3_needPlace_1 : decode cX3_needPlace 1 = .ok (.ifCond .lt 11, 3) := by decide +kernel
theorem dX3_needPlace_4 : decode cX3_needPlace 4 = .ok (.iload_n 1, 1) := by decide +kernel
theorem dX3_needPlace_5 : decode cX3_needPlace 5 = .ok (.aload_n 0, 1) := by decide +kernel
theorem dX3_needPlace_6 : decode cX3_needPlace 6 = .ok (.getfield 65, 3) := by decide +kernel
theorem dX3_needPlace_9 : decode cX3_needPlace 9 = .ok (.if_icmp .le 14, 3) := by decide +kernel
theorem dX3_needPlace_12 : decode cX3_needPlace 12 = .ok (.new 236, 3) := by decide +kernel
theorem dX3_needPlace_15 : decode cX3_needPlace 15 = .ok (.dup, 1) := by decide +kernel
theorem dX3_needPlace_16 : decode cX3_needPlace 16 = .ok (.ldc_w 282, 3) := by decide +kernel
theorem dX3_needPlace_19 : decode cX3_needPlace 19 = .ok (.invokespecial 240, 3) := by decide +kernel
theorem dX3_needPlace_22 : decode cX3_needPlace 22 = .ok (.athrow, 1) := by decide +kernel
theorem dX3_needPlace_23 : decode cX3_needPlace 23 = .ok (.return_, 1) := by decide +kernel
theorem dX3_needWay_0 : decode cX3_needWay 0 = .ok (.iload_n 0, 1) := by decide +kernel
theorem dX3_needWay_1 : decode cX3_needWay 1 = .ok (.ifCond .lt 8, 3) := by decide +kernel
theorem dX3_needWay_4 : decode cX3_needWay 4 = .ok (.iload_n 0, 1) := by decide +kernel
theorem dX3_needWay_5 : decode cX3_needWay 5 = .ok (.iconst 3, 1) := by decide +kernel
theorem dX3_needWay_6 : decode cX3_needWay 6 = .ok (.if_icmp .lt 14, 3) := by decide +kernel
theorem dX3_needWay_9 : decode cX3_needWay 9 = .ok (.new 95, 3) := by decide +kernel
theorem dX3_needWay_12 : decode cX3_needWay 12 = .ok (.dup, 1) := by decide +kernel
theorem dX3_needWay_13 : decode cX3_needWay 13 = .ok (.ldc_w 286, 3) := by decide +kernel
theorem dX3_needWay_16 : decode cX3_needWay 16 = .ok (.invokespecial 99, 3) := by decide +kernel
theorem dX3_needWay_19 : decode cX3_needWay 19 = .ok (.athrow, 1) := by decide +kernel
theorem dX3_needWay_20 : decode cX3_needWay 20 = .ok (.return_, 1) := by decide +kernel
theorem dX3_refuse_0 : decode cX3_refuse 0 = .ok (.aload_n 0, 1) := by decide +kernel
theorem dX3_refuse_1 : decode cX3_refuse 1 = .ok (.dup, 1) := by decide +kernel
theorem dX3_refuse_2 : decode cX3_refuse 2 = .ok (.getfield 42, 3) := by decide +kernel
theorem dX3_refuse_5 : decode cX3_refuse 5 = .ok (.iconst 1, 1) := by decide +kernel
theorem dX3_refuse_6 : decode cX3_refuse 6 = .ok (.iadd, 1) := by decide +kernel
theorem dX3_refuse_7 : decode cX3_refuse 7 = .ok (.putfield 42, 3) := by decide +kernel
theorem dX3_refuse_10 : decode cX3_refuse 10 = .ok (.bipush (-9), 2) := by decide +kernel
theorem dX3_refuse_12 : decode cX3_refuse 12 = .ok (.ireturn, 1) := by decide +kernel
set_option maxRecDepth 20000 in
theorem ggX3_addRule_X3_refuse : GoodIn wsX3_addRule wsX3_refuse := goodIn_r _ [8, 9, 32, 33, 34, 35, 36, 37, 38, 39, 40] (by decide +kernel) (by decide +kernel)
set_option maxRecDepth 20000 in
theorem gX3_addRule_X3_refuse : GoodIn wsX3_addRule (wsV RX3 87 RX3 yX3_refuse wsX3_refuse) := goodIn_app (goodIn_of _ (by decide +kernel)) ggX3_addRule_X3_refuse
theorem dX3_addRule_0 : decode cX3_addRule 0 = .ok (.aload_n 1, 1) := by decide +kernel
theorem dX3_addRule_1 : decode cX3_addRule 1 = .ok (.getfield 65, 3) := by decide +kernel
theorem dX3_addRule_4 : decode cX3_addRule 4 = .ok (.ifCond .le 25, 3) := by decide +kernel
theorem dX3_addRule_7 : decode cX3_addRule 7 = .ok (.aload_n 1, 1) := by decide +kernel
theorem dX3_addRule_8 : decode cX3_addRule 8 = .ok (.getfield 65, 3) := by decide +kernel
theorem dX3_addRule_11 : decode cX3_addRule 11 = .ok (.bipush 6, 2) := by decide +kernel
theorem dX3_addRule_13 : decode cX3_addRule 13 = .ok (.if_icmp .gt 16, 3) := by decide +kernel
theorem dX3_addRule_16 : decode cX3_addRule 16 = .ok (.aload_n 2, 1) := by decide +kernel
theorem dX3_addRule_17 : decode cX3_addRule 17 = .ok (.getfield 65, 3) := by decide +kernel
theorem dX3_addRule_20 : decode cX3_addRule 20 = .ok (.bipush 6, 2) := by decide +kernel
theorem dX3_addRule_22 : decode cX3_addRule 22 = .ok (.if_icmp .gt 7, 3) := by decide +kernel
theorem dX3_addRule_25 : decode cX3_addRule 25 = .ok (.iconst 1, 1) := by decide +kernel
theorem dX3_addRule_26 : decode cX3_addRule 26 = .ok (.goto 4, 3) := by decide +kernel
theorem dX3_addRule_29 : decode cX3_addRule 29 = .ok (.iconst 0, 1) := by decide +kernel
theorem dX3_addRule_30 : decode cX3_addRule 30 = .ok (.istore_n 3, 1) := by decide +kernel
theorem dX3_addRule_31 : decode cX3_addRule 31 = .ok (.iload_n 3, 1) := by decide +kernel
theorem dX3_addRule_32 : decode cX3_addRule 32 = .ok (.ifCond .eq 15, 3) := by decide +kernel
theorem dX3_addRule_35 : decode cX3_addRule 35 = .ok (.aload_n 0, 1) := by decide +kernel
theorem dX3_addRule_36 : decode cX3_addRule 36 = .ok (.getfield 18, 3) := by decide +kernel
theorem dX3_addRule_39 : decode cX3_addRule 39 = .ok (.getfield 128, 3) := by decide +kernel
theorem dX3_addRule_42 : decode cX3_addRule 42 = .ok (.bipush 8, 2) := by decide +kernel
theorem dX3_addRule_44 : decode cX3_addRule 44 = .ok (.if_icmp .lt 8, 3) := by decide +kernel
theorem dX3_addRule_47 : decode cX3_addRule 47 = .ok (.aload_n 0, 1) := by decide +kernel
theorem dX3_addRule_48 : decode cX3_addRule 48 = .ok (.invokevirtual 87, 3) := by decide +kernel
theorem dX3_addRule_51 : decode cX3_addRule 51 = .ok (.ireturn, 1) := by decide +kernel
theorem dX3_addRule_52 : decode cX3_addRule 52 = .ok (.aload_n 0, 1) := by decide +kernel
theorem dX3_addRule_53 : decode cX3_addRule 53 = .ok (.getfield 18, 3) := by decide +kernel
theorem dX3_addRule_56 : decode cX3_addRule 56 = .ok (.aload_n 0, 1) := by decide +kernel
theorem dX3_addRule_57 : decode cX3_addRule 57 = .ok (.getfield 18, 3) := by decide +kernel
theorem dX3_addRule_60 : decode cX3_addRule 60 = .ok (.getfield 128, 3) := by decide +kernel
theorem dX3_addRule_63 : decode cX3_addRule 63 = .ok (.aload_n 1, 1) := by decide +kernel
theorem dX3_addRule_64 : decode cX3_addRule 64 = .ok (.aload_n 2, 1) := by decide +kernel
theorem dX3_addRule_65 : decode cX3_addRule 65 = .ok (.invokevirtual 288, 3) := by decide +kernel
theorem dX3_addRule_68 : decode cX3_addRule 68 = .ok (.aload_n 0, 1) := by decide +kernel
theorem dX3_addRule_69 : decode cX3_addRule 69 = .ok (.getfield 18, 3) := by decide +kernel
theorem dX3_addRule_72 : decode cX3_addRule 72 = .ok (.getfield 128, 3) := by decide +kernel
theorem dX3_addRule_75 : decode cX3_addRule 75 = .ok (.iconst 1, 1) := by decide +kernel
theorem dX3_addRule_76 : decode cX3_addRule 76 = .ok (.isub, 1) := by decide +kernel
theorem dX3_addRule_77 : decode cX3_addRule 77 = .ok (.ireturn, 1) := by decide +kernel
set_option maxRecDepth 20000 in
theorem ggX3_addFallingRule_X2_compareWith : GoodIn wsX3_addFallingRule wsX2_compareWith := goodIn_r _ [5, 6, 7, 38, 39] (by decide +kernel) (by decide +kernel)
set_option maxRecDepth 20000 in
theorem gX3_addFallingRule_X2_compareWith : GoodIn wsX3_addFallingRule (wsV RX3 107 RX2 yX2_compareWith wsX2_compareWith) := goodIn_app (goodIn_of _ (by decide +kernel)) ggX3_addFallingRule_X2_compareWith
set_option maxRecDepth 20000 in
theorem ggX3_addFallingRule_X3_refuse : GoodIn wsX3_addFallingRule wsX3_refuse := goodIn_r _ [12, 13, 40, 41, 42, 43, 44, 45, 46, 47, 48] (by decide +kernel) (by decide +kernel)
set_option maxRecDepth 20000 in
theorem gX3_addFallingRule_X3_refuse : GoodIn wsX3_addFallingRule (wsV RX3 87 RX3 yX3_refuse wsX3_refuse) := goodIn_app (goodIn_of _ (by decide +kernel)) ggX3_addFallingRule_X3_refuse
set_option maxRecDepth 20000 in
theorem ggX3_addFallingRule_X3_addRule : GoodIn wsX3_addFallingRule wsX3_addRule := goodIn_r _ [17, 18, 19, 20, 8, 9, 10, 11, 12, 13, 21, 22, 23, 24, 25, 26, 27, 28, 29, 30, 31, 32, 4, 33, 7, 6, 34, 35, 36, 37, 38, 39, 40, 41, 42, 43, 44, 45, 46, 47, 48, 49, 50, 51, 52, 53, 54, 55, 56] (by decide +kernel) (by decide +kernel)
set_option maxRecDepth 20000 in
theorem gX3_addFallingRule_X3_addRule : GoodIn wsX3_addFallingRule (wsV RX3 115 RX3 yX3_addRule wsX3_addRule) := goodIn_app (goodIn_of _ (by decide +kernel)) ggX3_addFallingRule_X3_addRule
theorem dX3_addFallingRule_0 : decode cX3_addFallingRule 0 = .ok (.aload_n 1, 1) := by decide +kernel
theorem dX3_addFallingRule_1 : decode cX3_addFallingRule 1 = .ok (.aload_n 2, 1) := by decide +kernel
theorem dX3_addFallingRule_2 : decode cX3_addFallingRule 2 = .ok (.invokevirtual 107, 3) := by decide +kernel
theorem dX3_addFallingRule_5 : decode cX3_addFallingRule 5 = .ok (.istore_n 3, 1) := by decide +kernel
theorem dX3_addFallingRule_6 : decode cX3_addFallingRule 6 = .ok (.iload_n 3, 1) := by decide +kernel
theorem dX3_addFallingRule_7 : decode cX3_addFallingRule 7 = .ok (.ifCond .ne 8, 3) := by decide +kernel
theorem dX3_addFallingRule_10 : decode cX3_addFallingRule 10 = .ok (.aload_n 0, 1) := by decide +kernel
theorem dX3_addFallingRule_11 : decode cX3_addFallingRule 11 = .ok (.invokevirtual 87, 3) := by decide +kernel
theorem dX3_addFallingRule_14 : decode cX3_addFallingRule 14 = .ok (.ireturn, 1) := by decide +kernel
theorem dX3_addFallingRule_15 : decode cX3_addFallingRule 15 = .ok (.iload_n 3, 1) := by decide +kernel
theorem dX3_addFallingRule_16 : decode cX3_addFallingRule 16 = .ok (.ifCond .le 12, 3) := by decide +kernel
theorem dX3_addFallingRule_19 : decode cX3_addFallingRule 19 = .ok (.aload_n 0, 1) := by decide +kernel
theorem dX3_addFallingRule_20 : decode cX3_addFallingRule 20 = .ok (.aload_n 1, 1) := by decide +kernel
theorem dX3_addFallingRule_21 : decode cX3_addFallingRule 21 = .ok (.aload_n 2, 1) := by decide +kernel
theorem dX3_addFallingRule_22 : decode cX3_addFallingRule 22 = .ok (.invokevirtual 115, 3) := by decide +kernel
theorem dX3_addFallingRule_25 : decode cX3_addFallingRule 25 = .ok (.goto 9, 3) := by decide +kernel
theorem dX3_addFallingRule_28 : decode cX3_addFallingRule 28 = .ok (.aload_n 0, 1) := by decide +kernel
theorem dX3_addFallingRule_29 : decode cX3_addFallingRule 29 = .ok (.aload_n 2, 1) := by decide +kernel
theorem dX3_addFallingRule_30 : decode cX3_addFallingRule 30 = .ok (.aload_n 1, 1) := by decide +kernel
theorem dX3_addFallingRule_31 : decode cX3_addFallingRule 31 = .ok (.invokevirtual 115, 3) := by decide +kernel
theorem dX3_addFallingRule_34 : decode cX3_addFallingRule 34 = .ok (.ireturn, 1) := by decide +kernel
theorem dX3_lettersOfRopes_0 : decode cX3_lettersOfRopes 0 = .ok (.iconst 0, 1) := by decide +kernel
theorem dX3_lettersOfRopes_1 : decode cX3_lettersOfRopes 1 = .ok (.istore_n 1, 1) := by decide +kernel
theorem dX3_lettersOfRopes_2 : decode cX3_lettersOfRopes 2 = .ok (.iconst 0, 1) := by decide +kernel
theorem dX3_lettersOfRopes_3 : decode cX3_lettersOfRopes 3 = .ok (.istore_n 2, 1) := by decide +kernel
theorem dX3_lettersOfRopes_4 : decode cX3_lettersOfRopes 4 = .ok (.iload_n 2, 1) := by decide +kernel
theorem dX3_lettersOfRopes_5 : decode cX3_lettersOfRopes 5 = .ok (.iconst 4, 1) := by decide +kernel
theorem dX3_lettersOfRopes_6 : decode cX3_lettersOfRopes 6 = .ok (.if_icmp .ge 21, 3) := by decide +kernel
theorem dX3_lettersOfRopes_9 : decode cX3_lettersOfRopes 9 = .ok (.iload_n 1, 1) := by decide +kernel
theorem dX3_lettersOfRopes_10 : decode cX3_lettersOfRopes 10 = .ok (.aload_n 0, 1) := by decide +kernel
theorem dX3_lettersOfRopes_11 : decode cX3_lettersOfRopes 11 = .ok (.getfield 11, 3) := by decide +kernel
theorem dX3_lettersOfRopes_14 : decode cX3_lettersOfRopes 14 = .ok (.iload_n 2, 1) := by decide +kernel
theorem dX3_lettersOfRopes_15 : decode cX3_lettersOfRopes 15 = .ok (.aaload, 1) := by decide +kernel
theorem dX3_lettersOfRopes_16 : decode cX3_lettersOfRopes 16 = .ok (.getfield 65, 3) := by decide +kernel
theorem dX3_lettersOfRopes_19 : decode cX3_lettersOfRopes 19 = .ok (.iadd, 1) := by decide +kernel
theorem dX3_lettersOfRopes_20 : decode cX3_lettersOfRopes 20 = .ok (.istore_n 1, 1) := by decide +kernel
theorem dX3_lettersOfRopes_21 : decode cX3_lettersOfRopes 21 = .ok (.iinc 2 1, 3) := by decide +kernel
theorem dX3_lettersOfRopes_24 : decode cX3_lettersOfRopes 24 = .ok (.goto (-20), 3) := by decide +kernel
theorem dX3_lettersOfRopes_27 : decode cX3_lettersOfRopes 27 = .ok (.iload_n 1, 1) := by decide +kernel
theorem dX3_lettersOfRopes_28 : decode cX3_lettersOfRopes 28 = .ok (.ireturn, 1) := by decide +kernel
theorem dX3_mix_0 : decode cX3_mix 0 = .ok (.lload_n 0, 1) := by decide +kernel
theorem dX3_mix_1 : decode cX3_mix 1 = .ok (.ldc2_w 295, 3) := by decide +kernel
theorem dX3_mix_4 : decode cX3_mix 4 = .ok (.lmul, 1) := by decide +kernel
theorem dX3_mix_5 : decode cX3_mix 5 = .ok (.iload_n 2, 1) := by decide +kernel
theorem dX3_mix_6 : decode cX3_mix 6 = .ok (.i2l, 1) := by decide +kernel
theorem dX3_mix_7 : decode cX3_mix 7 = .ok (.ladd, 1) := by decide +kernel
theorem dX3_mix_8 : decode cX3_mix 8 = .ok (.lreturn, 1) := by decide +kernel
set_option maxRecDepth 20000 in
theorem ggX3_areSpotsSound_X1_spotFrom : GoodIn wsX3_areSpotsSound wsX1_spotFrom := goodIn_r _ [9, 10, 11, 12, 13, 14, 8, 15, 16, 17, 18, 19, 20, 21, 22, 23, 24, 25, 72, 73, 64, 65, 66, 67, 68, 69, 70, 71] (by decide +kernel) (by decide +kernel)
set_option maxRecDepth 20000 in
theorem gX3_areSpotsSound_X1_spotFrom : GoodIn wsX3_areSpotsSound (wsV RX3 297 RX1 yX1_spotFrom wsX1_spotFrom) := goodIn_app (goodIn_of _ (by decide +kernel)) ggX3_areSpotsSound_X1_spotFrom
set_option maxRecDepth 20000 in
theorem ggX3_areSpotsSound_X1_placeOf : GoodIn wsX3_areSpotsSound wsX1_placeOf := goodIn_r _ [18] (by decide +kernel) (by decide +kernel)
set_option maxRecDepth 20000 in
theorem gX3_areSpotsSound_X1_placeOf : GoodIn wsX3_areSpotsSound (va_wsS RX3 176 yX1_placeOf wsX1_placeOf) := goodIn_app (goodIn_of _ (by decide +kernel)) ggX3_areSpotsSound_X1_placeOf
set_option maxRecDepth 20000 in
theorem ggX3_areSpotsSound_X1_ruleOf : GoodIn wsX3_areSpotsSound wsX1_ruleOf := goodIn_r _ [15] (by decide +kernel) (by decide +kernel)
set_option maxRecDepth 20000 in
theorem gX3_areSpotsSound_X1_ruleOf : GoodIn wsX3_areSpotsSound (va_wsS RX3 203 yX1_ruleOf wsX1_ruleOf) := goodIn_app (goodIn_of _ (by decide +kernel)) ggX3_areSpotsSound_X1_ruleOf
set_option maxRecDepth 20000 in
theorem ggX3_areSpotsSound_X2_become : GoodIn wsX3_areSpotsSound wsX2_become := goodIn_r _ [31, 25, 24, 32, 33, 34, 35, 72, 73] (by decide +kernel) (by decide +kernel)
set_option maxRecDepth 20000 in
theorem gX3_areSpotsSound_X2_become : GoodIn wsX3_areSpotsSound (wsV RX3 79 RX2 yX2_become wsX2_become) := goodIn_app (goodIn_of _ (by decide +kernel)) ggX3_areSpotsSound_X2_become
set_option maxRecDepth 20000 in
theorem ggX3_areSpotsSound_X2_compareWith : GoodIn wsX3_areSpotsSound wsX2_compareWith := goodIn_r _ [52, 24, 25, 72, 73] (by decide +kernel) (by decide +kernel)
set_option maxRecDepth 20000 in
theorem gX3_areSpotsSound_X2_compareWith : GoodIn wsX3_areSpotsSound (wsV RX3 107 RX2 yX2_compareWith wsX2_compareWith) := goodIn_app (goodIn_of _ (by decide +kernel)) ggX3_areSpotsSound_X2_compareWith
set_option maxRecDepth 20000 in
theorem ggX3_areSpotsSound_X2_holds : GoodIn wsX3_areSpotsSound wsX2_holds := goodIn_r _ [23, 24, 25, 72, 73] (by decide +kernel) (by decide +kernel)
set_option maxRecDepth 20000 in
theorem gX3_areSpotsSound_X2_holds : GoodIn wsX3_areSpotsSound (wsV RX3 111 RX2 yX2_holds wsX2_holds) := goodIn_app (goodIn_of _ (by decide +kernel)) ggX3_areSpotsSound_X2_holds
theorem dX3_areSpotsSound_0 : decode cX3_areSpotsSound 0 = .ok (.aload_n 0, 1) := by decide +kernel
theorem dX3_areSpotsSound_1 : decode cX3_areSpotsSound 1 = .ok (.getfield 18, 3) := by decide +kernel
theorem dX3_areSpotsSound_4 : decode cX3_areSpotsSound 4 = .ok (.aload_n 1, 1) := by decide +kernel
theorem dX3_areSpotsSound_5 : decode cX3_areSpotsSound 5 = .ok (.iconst 0, 1) := by decide +kernel
theorem dX3_areSpotsSound_6 : decode cX3_areSpotsSound 6 = .ok (.invokevirtual 297, 3) := by decide +kernel
theorem dX3_areSpotsSound_9 : decode cX3_areSpotsSound 9 = .ok (.istore_n 2, 1) := by decide +kernel
theorem dX3_areSpotsSound_10 : decode cX3_areSpotsSound 10 = .ok (.iconst 0, 1) := by decide +kernel
theorem dX3_areSpotsSound_11 : decode cX3_areSpotsSound 11 = .ok (.istore_n 3, 1) := by decide +kernel
theorem dX3_areSpotsSound_12 : decode cX3_areSpotsSound 12 = .ok (.iload_n 3, 1) := by decide +kernel
theorem dX3_areSpotsSound_13 : decode cX3_areSpotsSound 13 = .ok (.sipush 512, 3) := by decide +kernel
theorem dX3_areSpotsSound_16 : decode cX3_areSpotsSound 16 = .ok (.if_icmp .ge 140, 3) := by decide +kernel
theorem dX3_areSpotsSound_19 : decode cX3_areSpotsSound 19 = .ok (.iload_n 2, 1) := by decide +kernel
theorem dX3_areSpotsSound_20 : decode cX3_areSpotsSound 20 = .ok (.iconst (-1), 1) := by decide +kernel
theorem dX3_areSpotsSound_21 : decode cX3_areSpotsSound 21 = .ok (.if_icmp .eq 135, 3) := by decide +kernel
theorem dX3_areSpotsSound_24 : decode cX3_areSpotsSound 24 = .ok (.iload_n 2, 1) := by decide +kernel
theorem dX3_areSpotsSound_25 : decode cX3_areSpotsSound 25 = .ok (.invokestatic 176, 3) := by decide +kernel
theorem dX3_areSpotsSound_28 : decode cX3_areSpotsSound 28 = .ok (.istore 4, 2) := by decide +kernel
theorem dX3_areSpotsSound_30 : decode cX3_areSpotsSound 30 = .ok (.iload_n 2, 1) := by decide +kernel
theorem dX3_areSpotsSound_31 : decode cX3_areSpotsSound 31 = .ok (.invokestatic 203, 3) := by decide +kernel
theorem dX3_areSpotsSound_34 : decode cX3_areSpotsSound 34 = .ok (.istore 5, 2) := by decide +kernel
theorem dX3_areSpotsSound_36 : decode cX3_areSpotsSound 36 = .ok (.aload_n 0, 1) := by decide +kernel
theorem dX3_areSpotsSound_37 : decode cX3_areSpotsSound 37 = .ok (.getfield 32, 3) := by decide +kernel
theorem dX3_areSpotsSound_40 : decode cX3_areSpotsSound 40 = .ok (.aload_n 1, 1) := by decide +kernel
theorem dX3_areSpotsSound_41 : decode cX3_areSpotsSound 41 = .ok (.invokevirtual 79, 3) := by decide +kernel
theorem dX3_areSpotsSound_44 : decode cX3_areSpotsSound 44 = .ok (.aload_n 0, 1) := by decide +kernel
theorem dX3_areSpotsSound_45 : decode cX3_areSpotsSound 45 = .ok (.getfield 18, 3) := by decide +kernel
theorem dX3_areSpotsSound_48 : decode cX3_areSpotsSound 48 = .ok (.aload_n 0, 1) := by decide +kernel
theorem dX3_areSpotsSound_49 : decode cX3_areSpotsSound 49 = .ok (.getfield 32, 3) := by decide +kernel
theorem dX3_areSpotsSound_52 : decode cX3_areSpotsSound 52 = .ok (.iload_n 2, 1) := by decide +kernel
theorem dX3_areSpotsSound_53 : decode cX3_areSpotsSound 53 = .ok (.invokevirtual 197, 3) := by decide +kernel
theorem dX3_areSpotsSound_56 : decode cX3_areSpotsSound 56 = .ok (.aload_n 0, 1) := by decide +kernel
theorem dX3_areSpotsSound_57 : decode cX3_areSpotsSound 57 = .ok (.getfield 18, 3) := by decide +kernel
theorem dX3_areSpotsSound_60 : decode cX3_areSpotsSound 60 = .ok (.iload 5, 2) := by decide +kernel
theorem dX3_areSpotsSound_62 : decode cX3_areSpotsSound 62 = .ok (.invokevirtual 140, 3) := by decide +kernel
theorem dX3_areSpotsSound_65 : decode cX3_areSpotsSound 65 = .ok (.ifCond .eq 14, 3) := by decide +kernel
theorem dX3_areSpotsSound_68 : decode cX3_areSpotsSound 68 = .ok (.aload_n 0, 1) := by decide +kernel
theorem dX3_areSpotsSound_69 : decode cX3_areSpotsSound 69 = .ok (.getfield 32, 3) := by decide +kernel
theorem dX3_areSpotsSound_72 : decode cX3_areSpotsSound 72 = .ok (.aload_n 1, 1) := by decide +kernel
theorem dX3_areSpotsSound_73 : decode cX3_areSpotsSound 73 = .ok (.invokevirtual 107, 3) := by decide +kernel
theorem dX3_areSpotsSound_76 : decode cX3_areSpotsSound 76 = .ok (.ifCond .ge 7, 3) := by decide +kernel
theorem dX3_areSpotsSound_79 : decode cX3_areSpotsSound 79 = .ok (.iconst 1, 1) := by decide +kernel
theorem dX3_areSpotsSound_80 : decode cX3_areSpotsSound 80 = .ok (.goto 4, 3) := by decide +kernel
theorem dX3_areSpotsSound_83 : decode cX3_areSpotsSound 83 = .ok (.iconst 0, 1) := by decide +kernel
theorem dX3_areSpotsSound_84 : decode cX3_areSpotsSound 84 = .ok (.istore 6, 2) := by decide +kernel
theorem dX3_areSpotsSound_86 : decode cX3_areSpotsSound 86 = .ok (.aload_n 1, 1) := by decide +kernel
theorem dX3_areSpotsSound_87 : decode cX3_areSpotsSound 87 = .ok (.aload_n 0, 1) := by decide +kernel
theorem dX3_areSpotsSound_88 : decode cX3_areSpotsSound 88 = .ok (.getfield 18, 3) := by decide +kernel
theorem dX3_areSpotsSound_91 : decode cX3_areSpotsSound 91 = .ok (.getfield 144, 3) := by decide +kernel
theorem dX3_areSpotsSound_94 : decode cX3_areSpotsSound 94 = .ok (.iload 5, 2) := by decide +kernel
theorem dX3_areSpotsSound_96 : decode cX3_areSpotsSound 96 = .ok (.aaload, 1) := by decide +kernel
theorem dX3_areSpotsSound_97 : decode cX3_areSpotsSound 97 = .ok (.iload 4, 2) := by decide +kernel
theorem dX3_areSpotsSound_99 : decode cX3_areSpotsSound 99 = .ok (.invokevirtual 111, 3) := by decide +kernel
theorem dX3_areSpotsSound_102 : decode cX3_areSpotsSound 102 = .ok (.istore 7, 2) := by decide +kernel
theorem dX3_areSpotsSound_104 : decode cX3_areSpotsSound 104 = .ok (.iload 6, 2) := by decide +kernel
theorem dX3_areSpotsSound_106 : decode cX3_areSpotsSound 106 = .ok (.ifCond .eq 30, 3) := by decide +kernel
theorem dX3_areSpotsSound_109 : decode cX3_areSpotsSound 109 = .ok (.iload 7, 2) := by decide +kernel
theorem dX3_areSpotsSound_111 : decode cX3_areSpotsSound 111 = .ok (.ifCond .eq 25, 3) := by decide +kernel
theorem dX3_areSpotsSound_114 : decode cX3_areSpotsSound 114 = .ok (.aload_n 0, 1) := by decide +kernel
theorem dX3_areSpotsSound_115 : decode cX3_areSpotsSound 115 = .ok (.getfield 32, 3) := by decide +kernel
theorem dX3_areSpotsSound_118 : decode cX3_areSpotsSound 118 = .ok (.aload_n 0, 1) := by decide +kernel
theorem dX3_areSpotsSound_119 : decode cX3_areSpotsSound 119 = .ok (.getfield 18, 3) := by decide +kernel
theorem dX3_areSpotsSound_122 : decode cX3_areSpotsSound 122 = .ok (.getfield 134, 3) := by decide +kernel
theorem dX3_areSpotsSound_125 : decode cX3_areSpotsSound 125 = .ok (.iload 5, 2) := by decide +kernel
theorem dX3_areSpotsSound_127 : decode cX3_areSpotsSound 127 = .ok (.aaload, 1) := by decide +kernel
theorem dX3_areSpotsSound_128 : decode cX3_areSpotsSound 128 = .ok (.iload 4, 2) := by decide +kernel
theorem dX3_areSpotsSound_130 : decode cX3_areSpotsSound 130 = .ok (.invokevirtual 111, 3) := by decide +kernel
theorem dX3_areSpotsSound_133 : decode cX3_areSpotsSound 133 = .ok (.ifCond .ne 5, 3) := by decide +kernel
theorem dX3_areSpotsSound_136 : decode cX3_areSpotsSound 136 = .ok (.iconst 0, 1) := by decide +kernel
theorem dX3_areSpotsSound_137 : decode cX3_areSpotsSound 137 = .ok (.ireturn, 1) := by decide +kernel
theorem dX3_areSpotsSound_138 : decode cX3_areSpotsSound 138 = .ok (.aload_n 0, 1) := by decide +kernel
theorem dX3_areSpotsSound_139 : decode cX3_areSpotsSound 139 = .ok (.getfield 18, 3) := by decide +kernel
theorem dX3_areSpotsSound_142 : decode cX3_areSpotsSound 142 = .ok (.aload_n 1, 1) := by decide +kernel
theorem dX3_areSpotsSound_143 : decode cX3_areSpotsSound 143 = .ok (.iload_n 2, 1) := by decide +kernel
theorem dX3_areSpotsSound_144 : decode cX3_areSpotsSound 144 = .ok (.iconst 1, 1) := by decide +kernel
theorem dX3_areSpotsSound_145 : decode cX3_areSpotsSound 145 = .ok (.iadd, 1) := by decide +kernel
theorem dX3_areSpotsSound_146 : decode cX3_areSpotsSound 146 = .ok (.invokevirtual 297, 3) := by decide +kernel
theorem dX3_areSpotsSound_149 : decode cX3_areSpotsSound 149 = .ok (.istore_n 2, 1) := by decide +kernel
theorem dX3_areSpotsSound_150 : decode cX3_areSpotsSound 150 = .ok (.iinc 3 1, 3) := by decide +kernel
theorem dX3_areSpotsSound_153 : decode cX3_areSpotsSound 153 = .ok (.goto (-141), 3) := by decide +kernel
theorem dX3_areSpotsSound_156 : decode cX3_areSpotsSound 156 = .ok (.iconst 1, 1) := by decide +kernel
theorem dX3_areSpotsSound_157 : decode cX3_areSpotsSound 157 = .ok (.ireturn, 1) := by decide +kernel
set_option maxRecDepth 20000 in
theorem ggX3_isTurnSound_X2_become : GoodIn wsX3_isTurnSound wsX2_become := goodIn_r _ [6, 7, 8, 9, 10, 11, 12, 34, 35] (by decide +kernel) (by decide +kernel)
set_option maxRecDepth 20000 in
theorem gX3_isTurnSound_X2_become : GoodIn wsX3_isTurnSound (wsV RX3 79 RX2 yX2_become wsX2_become) := goodIn_app (goodIn_of _ (by decide +kernel)) ggX3_isTurnSound_X2_become
set_option maxRecDepth 20000 in
theorem ggX3_isTurnSound_X2_turnRound : GoodIn wsX3_isTurnSound wsX2_turnRound := goodIn_r _ [16, 8, 7, 34, 35] (by decide +kernel) (by decide +kernel)
set_option maxRecDepth 20000 in
theorem gX3_isTurnSound_X2_turnRound : GoodIn wsX3_isTurnSound (wsV RX3 100 RX2 yX2_turnRound wsX2_turnRound) := goodIn_app (goodIn_of _ (by decide +kernel)) ggX3_isTurnSound_X2_turnRound
set_option maxRecDepth 20000 in
theorem ggX3_isTurnSound_X2_isSameAs : GoodIn wsX3_isTurnSound wsX2_isSameAs := goodIn_r _ [20, 8, 21, 22, 23, 5, 24, 7, 34, 35] (by decide +kernel) (by decide +kernel)
set_option maxRecDepth 20000 in
theorem gX3_isTurnSound_X2_isSameAs : GoodIn wsX3_isTurnSound (wsV RX3 213 RX2 yX2_isSameAs wsX2_isSameAs) := goodIn_app (goodIn_of _ (by decide +kernel)) ggX3_isTurnSound_X2_isSameAs
theorem dX3_isTurnSound_0 : decode cX3_isTurnSound 0 = .ok (.aload_n 0, 1) := by decide +kernel
theorem dX3_isTurnSound_1 : decode cX3_isTurnSound 1 = .ok (.getfield 32, 3) := by decide +kernel
theorem dX3_isTurnSound_4 : decode cX3_isTurnSound 4 = .ok (.aload_n 1, 1) := by decide +kernel
theorem dX3_isTurnSound_5 : decode cX3_isTurnSound 5 = .ok (.invokevirtual 79, 3) := by decide +kernel
theorem dX3_isTurnSound_8 : decode cX3_isTurnSound 8 = .ok (.aload_n 0, 1) := by decide +kernel
theorem dX3_isTurnSound_9 : decode cX3_isTurnSound 9 = .ok (.getfield 32, 3) := by decide +kernel
theorem dX3_isTurnSound_12 : decode cX3_isTurnSound 12 = .ok (.invokevirtual 100, 3) := by decide +kernel
theorem dX3_isTurnSound_15 : decode cX3_isTurnSound 15 = .ok (.aload_n 0, 1) := by decide +kernel
theorem dX3_isTurnSound_16 : decode cX3_isTurnSound 16 = .ok (.getfield 32, 3) := by decide +kernel
theorem dX3_isTurnSound_19 : decode cX3_isTurnSound 19 = .ok (.invokevirtual 100, 3) := by decide +kernel
theorem dX3_isTurnSound_22 : decode cX3_isTurnSound 22 = .ok (.aload_n 0, 1) := by decide +kernel
theorem dX3_isTurnSound_23 : decode cX3_isTurnSound 23 = .ok (.getfield 32, 3) := by decide +kernel
theorem dX3_isTurnSound_26 : decode cX3_isTurnSound 26 = .ok (.aload_n 1, 1) := by decide +kernel
theorem dX3_isTurnSound_27 : decode cX3_isTurnSound 27 = .ok (.invokevirtual 213, 3) := by decide +kernel
theorem dX3_isTurnSound_30 : decode cX3_isTurnSound 30 = .ok (.ireturn, 1) := by decide +kernel
set_option maxRecDepth 20000 in
theorem ggX3_isSameByWays_X2_become : GoodIn wsX3_isSameByWays wsX2_become := goodIn_r _ [8, 9, 10, 11, 12, 13, 14, 80, 81] (by decide +kernel) (by decide +kernel)
set_option maxRecDepth 20000 in
theorem gX3_isSameByWays_X2_become : GoodIn wsX3_isSameByWays (wsV RX3 79 RX2 yX2_become wsX2_become) := goodIn_app (goodIn_of _ (by decide +kernel)) ggX3_isSameByWays_X2_become
set_option maxRecDepth 20000 in
theorem ggX3_isSameByWays_X1_rewriteByWay : GoodIn wsX3_isSameByWays wsX1_rewriteByWay := goodIn_r _ [19, 20, 21, 22, 18, 23, 24, 25, 26, 27, 28, 29, 30, 31, 32, 33, 7, 34, 10, 9, 35, 36, 37, 38, 39, 40, 41, 42, 43, 44, 45, 46, 47, 48, 49, 50, 51, 52, 53, 54, 55, 56, 57, 58, 59, 60, 61, 11, 12, 13, 14, 80, 81, 82, 83, 84, 85, 86, 87, 88, 89] (by decide +kernel) (by decide +kernel)
set_option maxRecDepth 20000 in
theorem gX3_isSameByWays_X1_rewriteByWay : GoodIn wsX3_isSameByWays (wsV RX3 182 RX1 yX1_rewriteByWay wsX1_rewriteByWay) := goodIn_app (goodIn_of _ (by decide +kernel)) ggX3_isSameByWays_X1_rewriteByWay
set_option maxRecDepth 20000 in
theorem ggX3_isSameByWays_X1_isDone : GoodIn wsX3_isSameByWays wsX1_isDone := goodIn_r _ [65, 39, 40, 41, 18, 42, 28, 29, 30, 43, 44, 45, 46, 47, 48, 31, 32, 33, 7, 34, 10, 9, 80, 81, 82, 83, 84, 85, 86, 87, 88, 89] (by decide +kernel) (by decide +kernel)
set_option maxRecDepth 20000 in
theorem gX3_isSameByWays_X1_isDone : GoodIn wsX3_isSameByWays (wsV RX3 206 RX1 yX1_isDone wsX1_isDone) := goodIn_app (goodIn_of _ (by decide +kernel)) ggX3_isSameByWays_X1_isDone
set_option maxRecDepth 20000 in
theorem ggX3_isSameByWays_X2_isSameAs : GoodIn wsX3_isSameByWays wsX2_isSameAs := goodIn_r _ [69, 10, 70, 32, 33, 7, 34, 9, 80, 81] (by decide +kernel) (by decide +kernel)
set_option maxRecDepth 20000 in
theorem gX3_isSameByWays_X2_isSameAs : GoodIn wsX3_isSameByWays (wsV RX3 213 RX2 yX2_isSameAs wsX2_isSameAs) := goodIn_app (goodIn_of _ (by decide +kernel)) ggX3_isSameByWays_X2_isSameAs
theorem dX3_isSameByWays_0 : decode cX3_isSameByWays 0 = .ok (.iconst 0, 1) := by decide +kernel
theorem dX3_isSameByWays_1 : decode cX3_isSameByWays 1 = .ok (.istore_n 2, 1) := by decide +kernel
theorem dX3_isSameByWays_2 : decode cX3_isSameByWays 2 = .ok (.iconst 0, 1) := by decide +kernel
theorem dX3_isSameByWays_3 : decode cX3_isSameByWays 3 = .ok (.istore_n 3, 1) := by decide +kernel
theorem dX3_isSameByWays_4 : decode cX3_isSameByWays 4 = .ok (.iload_n 3, 1) := by decide +kernel
theorem dX3_isSameByWays_5 : decode cX3_isSameByWays 5 = .ok (.iconst 3, 1) := by decide +kernel
theorem dX3_isSameByWays_6 : decode cX3_isSameByWays 6 = .ok (.if_icmp .ge 82, 3) := by decide +kernel
theorem dX3_isSameByWays_9 : decode cX3_isSameByWays 9 = .ok (.aload_n 0, 1) := by decide +kernel
theorem dX3_isSameByWays_10 : decode cX3_isSameByWays 10 = .ok (.getfield 36, 3) := by decide +kernel
theorem dX3_isSameByWays_13 : decode cX3_isSameByWays 13 = .ok (.aload_n 1, 1) := by decide +kernel
theorem dX3_isSameByWays_14 : decode cX3_isSameByWays 14 = .ok (.invokevirtual 79, 3) := by decide +kernel
theorem dX3_isSameByWays_17 : decode cX3_isSameByWays 17 = .ok (.aload_n 0, 1) := by decide +kernel
theorem dX3_isSameByWays_18 : decode cX3_isSameByWays 18 = .ok (.getfield 18, 3) := by decide +kernel
theorem dX3_isSameByWays_21 : decode cX3_isSameByWays 21 = .ok (.aload_n 0, 1) := by decide +kernel
theorem dX3_isSameByWays_22 : decode cX3_isSameByWays 22 = .ok (.getfield 36, 3) := by decide +kernel
theorem dX3_isSameByWays_25 : decode cX3_isSameByWays 25 = .ok (.iload_n 3, 1) := by decide +kernel
theorem dX3_isSameByWays_26 : decode cX3_isSameByWays 26 = .ok (.bipush 40, 2) := by decide +kernel
theorem dX3_isSameByWays_28 : decode cX3_isSameByWays 28 = .ok (.invokevirtual 182, 3) := by decide +kernel
theorem dX3_isSameByWays_31 : decode cX3_isSameByWays 31 = .ok (.pop, 1) := by decide +kernel
theorem dX3_isSameByWays_32 : decode cX3_isSameByWays 32 = .ok (.aload_n 0, 1) := by decide +kernel
theorem dX3_isSameByWays_33 : decode cX3_isSameByWays 33 = .ok (.getfield 18, 3) := by decide +kernel
theorem dX3_isSameByWays_36 : decode cX3_isSameByWays 36 = .ok (.aload_n 0, 1) := by decide +kernel
theorem dX3_isSameByWays_37 : decode cX3_isSameByWays 37 = .ok (.getfield 36, 3) := by decide +kernel
theorem dX3_isSameByWays_40 : decode cX3_isSameByWays 40 = .ok (.invokevirtual 206, 3) := by decide +kernel
theorem dX3_isSameByWays_43 : decode cX3_isSameByWays 43 = .ok (.ifCond .ne 6, 3) := by decide +kernel
theorem dX3_isSameByWays_46 : decode cX3_isSameByWays 46 = .ok (.goto 36, 3) := by decide +kernel
theorem dX3_isSameByWays_49 : decode cX3_isSameByWays 49 = .ok (.iload_n 2, 1) := by decide +kernel
theorem dX3_isSameByWays_50 : decode cX3_isSameByWays 50 = .ok (.ifCond .eq 19, 3) := by decide +kernel
theorem dX3_isSameByWays_53 : decode cX3_isSameByWays 53 = .ok (.aload_n 0, 1) := by decide +kernel
theorem dX3_isSameByWays_54 : decode cX3_isSameByWays 54 = .ok (.getfield 36, 3) := by decide +kernel
theorem dX3_isSameByWays_57 : decode cX3_isSameByWays 57 = .ok (.aload_n 0, 1) := by decide +kernel
theorem dX3_isSameByWays_58 : decode cX3_isSameByWays 58 = .ok (.getfield 32, 3) := by decide +kernel
theorem dX3_isSameByWays_61 : decode cX3_isSameByWays 61 = .ok (.invokevirtual 213, 3) := by decide +kernel
theorem dX3_isSameByWays_64 : decode cX3_isSameByWays 64 = .ok (.ifCond .ne 5, 3) := by decide +kernel
theorem dX3_isSameByWays_67 : decode cX3_isSameByWays 67 = .ok (.iconst 0, 1) := by decide +kernel
theorem dX3_isSameByWays_68 : decode cX3_isSameByWays 68 = .ok (.ireturn, 1) := by decide +kernel
theorem dX3_isSameByWays_69 : decode cX3_isSameByWays 69 = .ok (.aload_n 0, 1) := by decide +kernel
theorem dX3_isSameByWays_70 : decode cX3_isSameByWays 70 = .ok (.getfield 32, 3) := by decide +kernel
theorem dX3_isSameByWays_73 : decode cX3_isSameByWays 73 = .ok (.aload_n 0, 1) := by decide +kernel
theorem dX3_isSameByWays_74 : decode cX3_isSameByWays 74 = .ok (.getfield 36, 3) := by decide +kernel
theorem dX3_isSameByWays_77 : decode cX3_isSameByWays 77 = .ok (.invokevirtual 79, 3) := by decide +kernel
theorem dX3_isSameByWays_80 : decode cX3_isSameByWays 80 = .ok (.iconst 1, 1) := by decide +kernel
theorem dX3_isSameByWays_81 : decode cX3_isSameByWays 81 = .ok (.istore_n 2, 1) := by decide +kernel
theorem dX3_isSameByWays_82 : decode cX3_isSameByWays 82 = .ok (.iinc 3 1, 3) := by decide +kernel
theorem dX3_isSameByWays_85 : decode cX3_isSameByWays 85 = .ok (.goto (-81), 3) := by decide +kernel
theorem dX3_isSameByWays_88 : decode cX3_isSameByWays 88 = .ok (.iconst 1, 1) := by decide +kernel
theorem dX3_isSameByWays_89 : decode cX3_isSameByWays 89 = .ok (.ireturn, 1) := by decide +kernel
set_option maxRecDepth 20000 in
theorem ggX3_isSameJoined_X2_become : GoodIn wsX3_isSameJoined wsX2_become := goodIn_r _ [10, 11, 12, 13, 14, 15, 16, 74, 75] (by decide +kernel) (by decide +kernel)
set_option maxRecDepth 20000 in
theorem gX3_isSameJoined_X2_become : GoodIn wsX3_isSameJoined (wsV RX3 79 RX2 yX2_become wsX2_become) := goodIn_app (goodIn_of _ (by decide +kernel)) ggX3_isSameJoined_X2_become
set_option maxRecDepth 20000 in
theorem ggX3_isSameJoined_X1_toForm : GoodIn wsX3_isSameJoined wsX1_toForm := goodIn_r _ [21, 22, 23, 24, 20, 25, 26, 27, 28, 29, 30, 31, 32, 33, 34, 35, 36, 37, 9, 38, 12, 11, 39, 40, 41, 42, 43, 44, 45, 46, 47, 48, 49, 50, 51, 13, 14, 15, 16, 74, 75, 76, 77, 78, 79, 80, 81, 82, 83] (by decide +kernel) (by decide +kernel)
set_option maxRecDepth 20000 in
theorem gX3_isSameJoined_X1_toForm : GoodIn wsX3_isSameJoined (wsV RX3 210 RX1 yX1_toForm wsX1_toForm) := goodIn_app (goodIn_of _ (by decide +kernel)) ggX3_isSameJoined_X1_toForm
set_option maxRecDepth 20000 in
theorem ggX3_isSameJoined_X1_isDone : GoodIn wsX3_isSameJoined wsX1_isDone := goodIn_r _ [55, 22, 23, 24, 20, 25, 26, 27, 28, 29, 30, 31, 32, 33, 34, 35, 36, 37, 9, 38, 12, 11, 74, 75, 76, 77, 78, 79, 80, 81, 82, 83] (by decide +kernel) (by decide +kernel)
set_option maxRecDepth 20000 in
theorem gX3_isSameJoined_X1_isDone : GoodIn wsX3_isSameJoined (wsV RX3 206 RX1 yX1_isDone wsX1_isDone) := goodIn_app (goodIn_of _ (by decide +kernel)) ggX3_isSameJoined_X1_isDone
set_option maxRecDepth 20000 in
theorem ggX3_isSameJoined_X2_addPart : GoodIn wsX3_isSameJoined wsX2_addPart := goodIn_r _ [59, 12, 11, 13, 14, 15, 16, 74, 75] (by decide +kernel) (by decide +kernel)
set_option maxRecDepth 20000 in
theorem gX3_isSameJoined_X2_addPart : GoodIn wsX3_isSameJoined (wsV RX3 75 RX2 yX2_addPart wsX2_addPart) := goodIn_app (goodIn_of _ (by decide +kernel)) ggX3_isSameJoined_X2_addPart
set_option maxRecDepth 20000 in
theorem ggX3_isSameJoined_X2_isSameAs : GoodIn wsX3_isSameJoined wsX2_isSameAs := goodIn_r _ [63, 12, 64, 36, 37, 9, 38, 11, 74, 75] (by decide +kernel) (by decide +kernel)
set_option maxRecDepth 20000 in
theorem gX3_isSameJoined_X2_isSameAs : GoodIn wsX3_isSameJoined (wsV RX3 213 RX2 yX2_isSameAs wsX2_isSameAs) := goodIn_app (goodIn_of _ (by decide +kernel)) ggX3_isSameJoined_X2_isSameAs
theorem dX3_isSameJoined_0 : decode cX3_isSameJoined 0 = .ok (.aload_n 0, 1) := by decide +kernel
theorem dX3_isSameJoined_1 : decode cX3_isSameJoined 1 = .ok (.getfield 36, 3) := by decide +kernel
theorem dX3_isSameJoined_4 : decode cX3_isSameJoined 4 = .ok (.aload_n 1, 1) := by decide +kernel
theorem dX3_isSameJoined_5 : decode cX3_isSameJoined 5 = .ok (.invokevirtual 79, 3) := by decide +kernel
theorem dX3_isSameJoined_8 : decode cX3_isSameJoined 8 = .ok (.aload_n 0, 1) := by decide +kernel
theorem dX3_isSameJoined_9 : decode cX3_isSameJoined 9 = .ok (.getfield 39, 3) := by decide +kernel
theorem dX3_isSameJoined_12 : decode cX3_isSameJoined 12 = .ok (.aload_n 2, 1) := by decide +kernel
theorem dX3_isSameJoined_13 : decode cX3_isSameJoined 13 = .ok (.invokevirtual 79, 3) := by decide +kernel
theorem dX3_isSameJoined_16 : decode cX3_isSameJoined 16 = .ok (.aload_n 0, 1) := by decide +kernel
theorem dX3_isSameJoined_17 : decode cX3_isSameJoined 17 = .ok (.getfield 18, 3) := by decide +kernel
theorem dX3_isSameJoined_20 : decode cX3_isSameJoined 20 = .ok (.aload_n 0, 1) := by decide +kernel
theorem dX3_isSameJoined_21 : decode cX3_isSameJoined 21 = .ok (.getfield 36, 3) := by decide +kernel
theorem dX3_isSameJoined_24 : decode cX3_isSameJoined 24 = .ok (.invokevirtual 210, 3) := by decide +kernel
theorem dX3_isSameJoined_27 : decode cX3_isSameJoined 27 = .ok (.aload_n 0, 1) := by decide +kernel
theorem dX3_isSameJoined_28 : decode cX3_isSameJoined 28 = .ok (.getfield 18, 3) := by decide +kernel
theorem dX3_isSameJoined_31 : decode cX3_isSameJoined 31 = .ok (.aload_n 0, 1) := by decide +kernel
theorem dX3_isSameJoined_32 : decode cX3_isSameJoined 32 = .ok (.getfield 39, 3) := by decide +kernel
theorem dX3_isSameJoined_35 : decode cX3_isSameJoined 35 = .ok (.invokevirtual 210, 3) := by decide +kernel
theorem dX3_isSameJoined_38 : decode cX3_isSameJoined 38 = .ok (.aload_n 0, 1) := by decide +kernel
theorem dX3_isSameJoined_39 : decode cX3_isSameJoined 39 = .ok (.getfield 18, 3) := by decide +kernel
theorem dX3_isSameJoined_42 : decode cX3_isSameJoined 42 = .ok (.aload_n 0, 1) := by decide +kernel
theorem dX3_isSameJoined_43 : decode cX3_isSameJoined 43 = .ok (.getfield 36, 3) := by decide +kernel
theorem dX3_isSameJoined_46 : decode cX3_isSameJoined 46 = .ok (.invokevirtual 206, 3) := by decide +kernel
theorem dX3_isSameJoined_49 : decode cX3_isSameJoined 49 = .ok (.ifCond .eq 21, 3) := by decide +kernel
theorem dX3_isSameJoined_52 : decode cX3_isSameJoined 52 = .ok (.aload_n 0, 1) := by decide +kernel
theorem dX3_isSameJoined_53 : decode cX3_isSameJoined 53 = .ok (.getfield 18, 3) := by decide +kernel
theorem dX3_isSameJoined_56 : decode cX3_isSameJoined 56 = .ok (.aload_n 0, 1) := by decide +kernel
theorem dX3_isSameJoined_57 : decode cX3_isSameJoined 57 = .ok (.getfield 39, 3) := by decide +kernel
theorem dX3_isSameJoined_60 : decode cX3_isSameJoined 60 = .ok (.invokevirtual 206, 3) := by decide +kernel
theorem dX3_isSameJoined_63 : decode cX3_isSameJoined 63 = .ok (.ifCond .eq 7, 3) := by decide +kernel
theorem dX3_isSameJoined_66 : decode cX3_isSameJoined 66 = .ok (.iconst 1, 1) := by decide +kernel
theorem dX3_isSameJoined_67 : decode cX3_isSameJoined 67 = .ok (.goto 4, 3) := by decide +kernel
theorem dX3_isSameJoined_70 : decode cX3_isSameJoined 70 = .ok (.iconst 0, 1) := by decide +kernel
theorem dX3_isSameJoined_71 : decode cX3_isSameJoined 71 = .ok (.istore_n 3, 1) := by decide +kernel
theorem dX3_isSameJoined_72 : decode cX3_isSameJoined 72 = .ok (.aload_n 0, 1) := by decide +kernel
theorem dX3_isSameJoined_73 : decode cX3_isSameJoined 73 = .ok (.getfield 36, 3) := by decide +kernel
theorem dX3_isSameJoined_76 : decode cX3_isSameJoined 76 = .ok (.aload_n 0, 1) := by decide +kernel
theorem dX3_isSameJoined_77 : decode cX3_isSameJoined 77 = .ok (.getfield 39, 3) := by decide +kernel
theorem dX3_isSameJoined_80 : decode cX3_isSameJoined 80 = .ok (.iconst 0, 1) := by decide +kernel
theorem dX3_isSameJoined_81 : decode cX3_isSameJoined 81 = .ok (.aload_n 0, 1) := by decide +kernel
theorem dX3_isSameJoined_82 : decode cX3_isSameJoined 82 = .ok (.getfield 39, 3) := by decide +kernel
theorem dX3_isSameJoined_85 : decode cX3_isSameJoined 85 = .ok (.getfield 65, 3) := by decide +kernel
theorem dX3_isSameJoined_88 : decode cX3_isSameJoined 88 = .ok (.invokevirtual 75, 3) := by decide +kernel
theorem dX3_isSameJoined_91 : decode cX3_isSameJoined 91 = .ok (.aload_n 0, 1) := by decide +kernel
theorem dX3_isSameJoined_92 : decode cX3_isSameJoined 92 = .ok (.getfield 18, 3) := by decide +kernel
theorem dX3_isSameJoined_95 : decode cX3_isSameJoined 95 = .ok (.aload_n 0, 1) := by decide +kernel
theorem dX3_isSameJoined_96 : decode cX3_isSameJoined 96 = .ok (.getfield 36, 3) := by decide +kernel
theorem dX3_isSameJoined_99 : decode cX3_isSameJoined 99 = .ok (.invokevirtual 210, 3) := by decide +kernel
theorem dX3_isSameJoined_102 : decode cX3_isSameJoined 102 = .ok (.aload_n 0, 1) := by decide +kernel
theorem dX3_isSameJoined_103 : decode cX3_isSameJoined 103 = .ok (.getfield 32, 3) := by decide +kernel
theorem dX3_isSameJoined_106 : decode cX3_isSameJoined 106 = .ok (.aload_n 1, 1) := by decide +kernel
theorem dX3_isSameJoined_107 : decode cX3_isSameJoined 107 = .ok (.invokevirtual 79, 3) := by decide +kernel
theorem dX3_isSameJoined_110 : decode cX3_isSameJoined 110 = .ok (.aload_n 0, 1) := by decide +kernel
theorem dX3_isSameJoined_111 : decode cX3_isSameJoined 111 = .ok (.getfield 32, 3) := by decide +kernel
theorem dX3_isSameJoined_114 : decode cX3_isSameJoined 114 = .ok (.aload_n 2, 1) := by decide +kernel
theorem dX3_isSameJoined_115 : decode cX3_isSameJoined 115 = .ok (.iconst 0, 1) := by decide +kernel
theorem dX3_isSameJoined_116 : decode cX3_isSameJoined 116 = .ok (.aload_n 2, 1) := by decide +kernel
theorem dX3_isSameJoined_117 : decode cX3_isSameJoined 117 = .ok (.getfield 65, 3) := by decide +kernel
theorem dX3_isSameJoined_120 : decode cX3_isSameJoined 120 = .ok (.invokevirtual 75, 3) := by decide +kernel
theorem dX3_isSameJoined_123 : decode cX3_isSameJoined 123 = .ok (.aload_n 0, 1) := by decide +kernel
theorem dX3_isSameJoined_124 : decode cX3_isSameJoined 124 = .ok (.getfield 18, 3) := by decide +kernel
theorem dX3_isSameJoined_127 : decode cX3_isSameJoined 127 = .ok (.aload_n 0, 1) := by decide +kernel
theorem dX3_isSameJoined_128 : decode cX3_isSameJoined 128 = .ok (.getfield 32, 3) := by decide +kernel
theorem dX3_isSameJoined_131 : decode cX3_isSameJoined 131 = .ok (.invokevirtual 210, 3) := by decide +kernel
theorem dX3_isSameJoined_134 : decode cX3_isSameJoined 134 = .ok (.iload_n 3, 1) := by decide +kernel
theorem dX3_isSameJoined_135 : decode cX3_isSameJoined 135 = .ok (.ifCond .eq 35, 3) := by decide +kernel
theorem dX3_isSameJoined_138 : decode cX3_isSameJoined 138 = .ok (.aload_n 0, 1) := by decide +kernel
theorem dX3_isSameJoined_139 : decode cX3_isSameJoined 139 = .ok (.getfield 18, 3) := by decide +kernel
theorem dX3_isSameJoined_142 : decode cX3_isSameJoined 142 = .ok (.aload_n 0, 1) := by decide +kernel
theorem dX3_isSameJoined_143 : decode cX3_isSameJoined 143 = .ok (.getfield 32, 3) := by decide +kernel
theorem dX3_isSameJoined_146 : decode cX3_isSameJoined 146 = .ok (.invokevirtual 206, 3) := by decide +kernel
theorem dX3_isSameJoined_149 : decode cX3_isSameJoined 149 = .ok (.ifCond .eq 21, 3) := by decide +kernel
theorem dX3_isSameJoined_152 : decode cX3_isSameJoined 152 = .ok (.aload_n 0, 1) := by decide +kernel
theorem dX3_isSameJoined_153 : decode cX3_isSameJoined 153 = .ok (.getfield 18, 3) := by decide +kernel
theorem dX3_isSameJoined_156 : decode cX3_isSameJoined 156 = .ok (.aload_n 0, 1) := by decide +kernel
theorem dX3_isSameJoined_157 : decode cX3_isSameJoined 157 = .ok (.getfield 36, 3) := by decide +kernel
theorem dX3_isSameJoined_160 : decode cX3_isSameJoined 160 = .ok (.invokevirtual 206, 3) := by decide +kernel
theorem dX3_isSameJoined_163 : decode cX3_isSameJoined 163 = .ok (.ifCond .eq 7, 3) := by decide +kernel
theorem dX3_isSameJoined_166 : decode cX3_isSameJoined 166 = .ok (.iconst 1, 1) := by decide +kernel
theorem dX3_isSameJoined_167 : decode cX3_isSameJoined 167 = .ok (.goto 4, 3) := by decide +kernel
theorem dX3_isSameJoined_170 : decode cX3_isSameJoined 170 = .ok (.iconst 0, 1) := by decide +kernel
theorem dX3_isSameJoined_171 : decode cX3_isSameJoined 171 = .ok (.istore_n 3, 1) := by decide +kernel
theorem dX3_isSameJoined_172 : decode cX3_isSameJoined 172 = .ok (.aload_n 0, 1) := by decide +kernel
theorem dX3_isSameJoined_173 : decode cX3_isSameJoined 173 = .ok (.getfield 32, 3) := by decide +kernel
theorem dX3_isSameJoined_176 : decode cX3_isSameJoined 176 = .ok (.getfield 65, 3) := by decide +kernel
theorem dX3_isSameJoined_179 : decode cX3_isSameJoined 179 = .ok (.bipush 32, 2) := by decide +kernel
theorem dX3_isSameJoined_181 : decode cX3_isSameJoined 181 = .ok (.if_icmp .gt 19, 3) := by decide +kernel
theorem dX3_isSameJoined_184 : decode cX3_isSameJoined 184 = .ok (.aload_n 0, 1) := by decide +kernel
theorem dX3_isSameJoined_185 : decode cX3_isSameJoined 185 = .ok (.getfield 36, 3) := by decide +kernel
theorem dX3_isSameJoined_188 : decode cX3_isSameJoined 188 = .ok (.getfield 65, 3) := by decide +kernel
theorem dX3_isSameJoined_191 : decode cX3_isSameJoined 191 = .ok (.bipush 32, 2) := by decide +kernel
theorem dX3_isSameJoined_193 : decode cX3_isSameJoined 193 = .ok (.if_icmp .gt 7, 3) := by decide +kernel
theorem dX3_isSameJoined_196 : decode cX3_isSameJoined 196 = .ok (.iconst 1, 1) := by decide +kernel
theorem dX3_isSameJoined_197 : decode cX3_isSameJoined 197 = .ok (.goto 4, 3) := by decide +kernel
theorem dX3_isSameJoined_200 : decode cX3_isSameJoined 200 = .ok (.iconst 0, 1) := by decide +kernel
theorem dX3_isSameJoined_201 : decode cX3_isSameJoined 201 = .ok (.istore 4, 2) := by decide +kernel
theorem dX3_isSameJoined_203 : decode cX3_isSameJoined 203 = .ok (.iload_n 3, 1) := by decide +kernel
theorem dX3_isSameJoined_204 : decode cX3_isSameJoined 204 = .ok (.ifCond .eq 22, 3) := by decide +kernel
theorem dX3_isSameJoined_207 : decode cX3_isSameJoined 207 = .ok (.iload 4, 2) := by decide +kernel
theorem dX3_isSameJoined_209 : decode cX3_isSameJoined 209 = .ok (.ifCond .eq 17, 3) := by decide +kernel
theorem dX3_isSameJoined_212 : decode cX3_isSameJoined 212 = .ok (.aload_n 0, 1) := by decide +kernel
theorem dX3_isSameJoined_213 : decode cX3_isSameJoined 213 = .ok (.getfield 32, 3) := by decide +kernel
theorem dX3_isSameJoined_216 : decode cX3_isSameJoined 216 = .ok (.aload_n 0, 1) := by decide +kernel
theorem dX3_isSameJoined_217 : decode cX3_isSameJoined 217 = .ok (.getfield 36, 3) := by decide +kernel
theorem dX3_isSameJoined_220 : decode cX3_isSameJoined 220 = .ok (.invokevirtual 213, 3) := by decide +kernel
theorem dX3_isSameJoined_223 : decode cX3_isSameJoined 223 = .ok (.ifCond .eq 7, 3) := by decide +kernel
theorem dX3_isSameJoined_226 : decode cX3_isSameJoined 226 = .ok (.iconst 1, 1) := by decide +kernel
theorem dX3_isSameJoined_227 : decode cX3_isSameJoined 227 = .ok (.goto 4, 3) := by decide +kernel
theorem dX3_isSameJoined_230 : decode cX3_isSameJoined 230 = .ok (.iconst 0, 1) := by decide +kernel
theorem dX3_isSameJoined_231 : decode cX3_isSameJoined 231 = .ok (.ireturn, 1) := by decide +kernel
theorem dX4_init_0 : decode cX4_init 0 = .ok (.aload_n 0, 1) := by decide +kernel
theorem dX4_init_1 : decode cX4_init 1 = .ok (.invokespecial 1, 3) := by decide +kernel
theorem dX4_init_4 : decode cX4_init 4 = .ok (.return_, 1) := by decide +kernel
set_option maxRecDepth 20000 in
theorem ggX5_init_Jx4a65c_init_da8c8 : GoodIn wsX5_init wsJx4a65c_init_da8c8 := goodIn_r _ [13, 14, 15, 16, 17, 18, 19, 20, 21, 22, 23, 24, 25, 2, 3, 33, 34, 35] (by decide +kernel) (by decide +kernel)
set_option maxRecDepth 20000 in
theorem gX5_init_Jx4a65c_init_da8c8 : GoodIn wsX5_init (wsJx4a65c_init_da8c8) := ggX5_init_Jx4a65c_init_da8c8
theorem dX5_init_0 : decode cX5_init 0 = .ok (.aload_n 0, 1) := by decide +kernel
theorem dX5_init_1 : decode cX5_init 1 = .ok (.invokespecial 1, 3) := by decide +kernel
theorem dX5_init_4 : decode cX5_init 4 = .ok (.aload_n 0, 1) := by decide +kernel
theorem dX5_init_5 : decode cX5_init 5 = .ok (.iconst 4, 1) := by decide +kernel
theorem dX5_init_6 : decode cX5_init 6 = .ok (.anewarray 7, 3) := by decide +kernel
theorem dX5_init_9 : decode cX5_init 9 = .ok (.dup, 1) := by decide +kernel
theorem dX5_init_10 : decode cX5_init 10 = .ok (.iconst 0, 1) := by decide +kernel
theorem dX5_init_11 : decode cX5_init 11 = .ok (.ldc 9, 2) := by decide +kernel
theorem dX5_init_13 : decode cX5_init 13 = .ok (.aastore, 1) := by decide +kernel
theorem dX5_init_14 : decode cX5_init 14 = .ok (.dup, 1) := by decide +kernel
theorem dX5_init_15 : decode cX5_init 15 = .ok (.iconst 1, 1) := by decide +kernel
theorem dX5_init_16 : decode cX5_init 16 = .ok (.ldc 9, 2) := by decide +kernel
theorem dX5_init_18 : decode cX5_init 18 = .ok (.aastore, 1) := by decide +kernel
theorem dX5_init_19 : decode cX5_init 19 = .ok (.dup, 1) := by decide +kernel
theorem dX5_init_20 : decode cX5_init 20 = .ok (.iconst 2, 1) := by decide +kernel
theorem dX5_init_21 : decode cX5_init 21 = .ok (.ldc 9, 2) := by decide +kernel
theorem dX5_init_23 : decode cX5_init 23 = .ok (.aastore, 1) := by decide +kernel
theorem dX5_init_24 : decode cX5_init 24 = .ok (.dup, 1) := by decide +kernel
theorem dX5_init_25 : decode cX5_init 25 = .ok (.iconst 3, 1) := by decide +kernel
theorem dX5_init_26 : decode cX5_init 26 = .ok (.ldc 9, 2) := by decide +kernel
theorem dX5_init_28 : decode cX5_init 28 = .ok (.aastore, 1) := by decide +kernel
theorem dX5_init_29 : decode cX5_init 29 = .ok (.putfield 11, 3) := by decide +kernel
theorem dX5_init_32 : decode cX5_init 32 = .ok (.aload_n 0, 1) := by decide +kernel
theorem dX5_init_33 : decode cX5_init 33 = .ok (.new 17, 3) := by decide +kernel
theorem dX5_init_36 : decode cX5_init 36 = .ok (.dup, 1) := by decide +kernel
theorem dX5_init_37 : decode cX5_init 37 = .ok (.invokespecial 19, 3) := by decide +kernel
theorem dX5_init_40 : decode cX5_init 40 = .ok (.putfield 20, 3) := by decide +kernel
theorem dX5_init_43 : decode cX5_init 43 = .ok (.aload_n 0, 1) := by decide +kernel
theorem dX5_init_44 : decode cX5_init 44 = .ok (.new 17, 3) := by decide +kernel
theorem dX5_init_47 : decode cX5_init 47 = .ok (.dup, 1) := by decide +kernel
theorem dX5_init_48 : decode cX5_init 48 = .ok (.invokespecial 19, 3) := by decide +kernel
theorem dX5_init_51 : decode cX5_init 51 = .ok (.putfield 24, 3) := by decide +kernel
theorem dX5_init_54 : decode cX5_init 54 = .ok (.return_, 1) := by decide +kernel
theorem dX5_thrown_0 : decode cX5_thrown 0 = .ok (.aload_n 0, 1) := by decide +kernel
theorem dX5_thrown_1 : decode cX5_thrown 1 = .ok (.getfield 27, 3) := by decide +kernel
theorem dX5_thrown_4 : decode cX5_thrown 4 = .ok (.ireturn, 1) := by decide +kernel
theorem dX5_fails_0 : decode cX5_fails 0 = .ok (.aload_n 0, 1) := by decide +kernel
theorem dX5_fails_1 : decode cX5_fails 1 = .ok (.iload_n 1, 1) := by decide +kernel
theorem dX5_fails_2 : decode cX5_fails 2 = .ok (.ifCond .eq 7, 3) := by decide +kernel
theorem dX5_fails_5 : decode cX5_fails 5 = .ok (.iconst 1, 1) := by decide +kernel
theorem dX5_fails_6 : decode cX5_fails 6 = .ok (.goto 20, 3) := by decide +kernel
theorem dX5_fails_9 : decode cX5_fails 9 = .ok (.iload_n 2, 1) := by decide +kernel
theorem dX5_fails_10 : decode cX5_fails 10 = .ok (.ifCond .eq 7, 3) := by decide +kernel
theorem dX5_fails_13 : decode cX5_fails 13 = .ok (.iconst 2, 1) := by decide +kernel
theorem dX5_fails_14 : decode cX5_fails 14 = .ok (.goto 12, 3) := by decide +kernel
theorem dX5_fails_17 : decode cX5_fails 17 = .ok (.iload_n 3, 1) := by decide +kernel
theorem dX5_fails_18 : decode cX5_fails 18 = .ok (.ifCond .eq 7, 3) := by decide +kernel
theorem dX5_fails_21 : decode cX5_fails 21 = .ok (.iconst 3, 1) := by decide +kernel
theorem dX5_fails_22 : decode cX5_fails 22 = .ok (.goto 4, 3) := by decide +kernel
theorem dX5_fails_25 : decode cX5_fails 25 = .ok (.iconst 0, 1) := by decide +kernel
theorem dX5_fails_26 : decode cX5_fails 26 = .ok (.putfield 27, 3) := by decide +kernel
theorem dX5_fails_29 : decode cX5_fails 29 = .ok (.aload_n 0, 1) := by decide +kernel
theorem dX5_fails_30 : decode cX5_fails 30 = .ok (.getfield 27, 3) := by decide +kernel
theorem dX5_fails_33 : decode cX5_fails 33 = .ok (.ifCond .le 7, 3) := by decide +kernel
theorem dX5_fails_36 : decode cX5_fails 36 = .ok (.iconst 1, 1) := by decide +kernel
theorem dX5_fails_37 : decode cX5_fails 37 = .ok (.goto 4, 3) := by decide +kernel
theorem dX5_fails_40 : decode cX5_fails 40 = .ok (.iconst 0, 1) := by decide +kernel
theorem dX5_fails_41 : decode cX5_fails 41 = .ok (.ireturn, 1) := by decide +kernel
theorem dX5_isIn_0 : decode cX5_isIn 0 = .ok (.iload_n 0, 1) := by decide +kernel
theorem dX5_isIn_1 : decode cX5_isIn 1 = .ok (.iload_n 1, 1) := by decide +kernel
theorem dX5_isIn_2 : decode cX5_isIn 2 = .ok (.if_icmp .lt 12, 3) := by decide +kernel
theorem dX5_isIn_5 : decode cX5_isIn 5 = .ok (.iload_n 0, 1) := by decide +kernel
theorem dX5_isIn_6 : decode cX5_isIn 6 = .ok (.iload_n 2, 1) := by decide +kernel
theorem dX5_isIn_7 : decode cX5_isIn 7 = .ok (.if_icmp .gt 7, 3) := by decide +kernel
theorem dX5_isIn_10 : decode cX5_isIn 10 = .ok (.iconst 1, 1) := by decide +kernel
theorem dX5_isIn_11 : decode cX5_isIn 11 = .ok (.goto 4, 3) := by decide +kernel
theorem dX5_isIn_14 : decode cX5_isIn 14 = .ok (.iconst 0, 1) := by decide +kernel
theorem dX5_isIn_15 : decode cX5_isIn 15 = .ok (.ireturn, 1) := by decide +kernel
set_option maxRecDepth 20000 in
theorem ggX5_isNo_X5_isIn : GoodIn wsX5_isNo wsX5_isIn := goodIn_r _ [4] (by decide +kernel) (by decide +kernel)
set_option maxRecDepth 20000 in
theorem gX5_isNo_X5_isIn : GoodIn wsX5_isNo (va_wsS RX5 31 yX5_isIn wsX5_isIn) := goodIn_app (goodIn_of _ (by decide +kernel)) ggX5_isNo_X5_isIn
theorem dX5_isNo_0 : decode cX5_isNo 0 = .ok (.iload_n 0, 1) := by decide +kernel
theorem dX5_isNo_1 : decode cX5_isNo 1 = .ok (.iconst 0, 1) := by decide +kernel
theorem dX5_isNo_2 : decode cX5_isNo 2 = .ok (.iconst 3, 1) := by decide +kernel
theorem dX5_isNo_3 : decode cX5_isNo 3 = .ok (.invokestatic 31, 3) := by decide +kernel
theorem dX5_isNo_6 : decode cX5_isNo 6 = .ok (.ifCond .ne 7, 3) := by decide +kernel
theorem dX5_isNo_9 : decode cX5_isNo 9 = .ok (.iconst 1, 1) := by decide +kernel
theorem dX5_isNo_10 : decode cX5_isNo 10 = .ok (.goto 4, 3) := by decide +kernel
theorem dX5_isNo_13 : decode cX5_isNo 13 = .ok (.iconst 0, 1) := by decide +kernel
theorem dX5_isNo_14 : decode cX5_isNo 14 = .ok (.ireturn, 1) := by decide +kernel
set_option maxRecDepth 20000 in
theorem ggX5_isNoRule_Jx4a65c_size_8abf5 : GoodIn wsX5_isNoRule wsJx4a65c_size_8abf5 := goodIn_r _ [6, 7, 19, 20, 21] (by decide +kernel) (by decide +kernel)
set_option maxRecDepth 20000 in
theorem gX5_isNoRule_Jx4a65c_size_8abf5 : GoodIn wsX5_isNoRule (wsV RX5 35 RJx4a65c yJx4a65c_size_8abf5 wsJx4a65c_size_8abf5) := goodIn_app (goodIn_of _ (by decide +kernel)) ggX5_isNoRule_Jx4a65c_size_8abf5
set_option maxRecDepth 20000 in
theorem ggX5_isNoRule_X5_isIn : GoodIn wsX5_isNoRule wsX5_isIn := goodIn_r _ [11] (by decide +kernel) (by decide +kernel)
set_option maxRecDepth 20000 in
theorem gX5_isNoRule_X5_isIn : GoodIn wsX5_isNoRule (va_wsS RX5 31 yX5_isIn wsX5_isIn) := goodIn_app (goodIn_of _ (by decide +kernel)) ggX5_isNoRule_X5_isIn
theorem dX5_isNoRule_0 : decode cX5_isNoRule 0 = .ok (.iload_n 1, 1) := by decide +kernel
theorem dX5_isNoRule_1 : decode cX5_isNoRule 1 = .ok (.iconst 0, 1) := by decide +kernel
theorem dX5_isNoRule_2 : decode cX5_isNoRule 2 = .ok (.aload_n 0, 1) := by decide +kernel
theorem dX5_isNoRule_3 : decode cX5_isNoRule 3 = .ok (.getfield 20, 3) := by decide +kernel
theorem dX5_isNoRule_6 : decode cX5_isNoRule 6 = .ok (.invokevirtual 35, 3) := by decide +kernel
theorem dX5_isNoRule_9 : decode cX5_isNoRule 9 = .ok (.iconst 1, 1) := by decide +kernel
theorem dX5_isNoRule_10 : decode cX5_isNoRule 10 = .ok (.isub, 1) := by decide +kernel
theorem dX5_isNoRule_11 : decode cX5_isNoRule 11 = .ok (.invokestatic 31, 3) := by decide +kernel
theorem dX5_isNoRule_14 : decode cX5_isNoRule 14 = .ok (.ifCond .ne 7, 3) := by decide +kernel
theorem dX5_isNoRule_17 : decode cX5_isNoRule 17 = .ok (.iconst 1, 1) := by decide +kernel
theorem dX5_isNoRule_18 : decode cX5_isNoRule 18 = .ok (.goto 4, 3) := by decide +kernel
theorem dX5_isNoRule_21 : decode cX5_isNoRule 21 = .ok (.iconst 0, 1) := by decide +kernel
theorem dX5_isNoRule_22 : decode cX5_isNoRule 22 = .ok (.ireturn, 1) := by decide +kernel
theorem dX5_refuse_0 : decode cX5_refuse 0 = .ok (.aload_n 0, 1) := by decide +kernel
theorem dX5_refuse_1 : decode cX5_refuse 1 = .ok (.dup, 1) := by decide +kernel
theorem dX5_refuse_2 : decode cX5_refuse 2 = .ok (.getfield 39, 3) := by decide +kernel
theorem dX5_refuse_5 : decode cX5_refuse 5 = .ok (.iconst 1, 1) := by decide +kernel
theorem dX5_refuse_6 : decode cX5_refuse 6 = .ok (.iadd, 1) := by decide +kernel
theorem dX5_refuse_7 : decode cX5_refuse 7 = .ok (.putfield 39, 3) := by decide +kernel
theorem dX5_refuse_10 : decode cX5_refuse 10 = .ok (.bipush (-9), 2) := by decide +kernel
theorem dX5_refuse_12 : decode cX5_refuse 12 = .ok (.ireturn, 1) := by decide +kernel
theorem dX5_one_0 : decode cX5_one 0 = .ok (.iload_n 0, 1) := by decide +kernel
theorem dX5_one_1 : decode cX5_one 1 = .ok (.ifCond .eq 7, 3) := by decide +kernel
theorem dX5_one_4 : decode cX5_one 4 = .ok (.iconst 1, 1) := by decide +kernel
theorem dX5_one_5 : decode cX5_one 5 = .ok (.goto 4, 3) := by decide +kernel
theorem dX5_one_8 : decode cX5_one 8 = .ok (.iconst 0, 1) := by decide +kernel
theorem dX5_one_9 : decode cX5_one 9 = .ok (.ireturn, 1) := by decide +kernel
set_option maxRecDepth 20000 in
theorem ggX5_stands_J0_length_8abf5 : GoodIn wsX5_stands wsJ0_length_8abf5 := goodIn_r _ [5, 6, 7, 8, 9, 4, 10, 11, 12, 50, 51, 52, 53] (by decide +kernel) (by decide +kernel)
set_option maxRecDepth 20000 in
theorem gX5_stands_J0_length_8abf5 : GoodIn wsX5_stands (wsV RX5 42 RJ0 yJ0_length_8abf5 wsJ0_length_8abf5) := goodIn_app (goodIn_of _ (by decide +kernel)) ggX5_stands_J0_length_8abf5
theorem dX5_stands_0 : decode cX5_stands 0 = .ok (.iload_n 2, 1) := by decide +kernel
theorem dX5_stands_1 : decode cX5_stands 1 = .ok (.aload_n 0, 1) := by decide +kernel
theorem dX5_stands_2 : decode cX5_stands 2 = .ok (.invokevirtual 42, 3) := by decide +kernel
theorem dX5_stands_5 : decode cX5_stands 5 = .ok (.iadd, 1) := by decide +kernel
theorem dX5_stands_6 : decode cX5_stands 6 = .ok (.aload_n 1, 1) := by decide +kernel
theorem dX5_stands_7 : decode cX5_stands 7 = .ok (.invokevirtual 42, 3) := by decide +kernel
theorem dX5_stands_10 : decode cX5_stands 10 = .ok (.if_icmp .le 5, 3) := by decide +kernel
theorem dX5_stands_13 : decode cX5_stands 13 = .ok (.iconst 0, 1) := by decide +kernel
theorem dX5_stands_14 : decode cX5_stands 14 = .ok (.ireturn, 1) := by decide +kernel
theorem dX5_stands_15 : decode cX5_stands 15 = .ok (.iconst 1, 1) := by decide +kernel
theorem dX5_stands_16 : decode cX5_stands 16 = .ok (.istore_n 3, 1) := by decide +kernel
theorem dX5_stands_17 : decode cX5_stands 17 = .ok (.iconst 0, 1) := by decide +kernel
theorem dX5_stands_18 : decode cX5_stands 18 = .ok (.istore 4, 2) := by decide +kernel
theorem dX5_stands_20 : decode cX5_stands 20 = .ok (.iload 4, 2) := by decide +kernel
theorem dX5_stands_22 : decode cX5_stands 22 = .ok (.aload_n 0, 1) := by decide +kernel
theorem dX5_stands_23 : decode cX5_stands 23 = .ok (.invokevirtual 42, 3) := by decide +kernel
theorem dX5_stands_26 : decode cX5_stands 26 = .ok (.if_icmp .ge 34, 3) := by decide +kernel
theorem dX5_stands_29 : decode cX5_stands 29 = .ok (.iload_n 3, 1) := by decide +kernel
theorem dX5_stands_30 : decode cX5_stands 30 = .ok (.aload_n 0, 1) := by decide +kernel
theorem dX5_stands_31 : decode cX5_stands 31 = .ok (.iload 4, 2) := by decide +kernel
theorem dX5_stands_33 : decode cX5_stands 33 = .ok (.invokevirtual 45, 3) := by decide +kernel
theorem dX5_stands_36 : decode cX5_stands 36 = .ok (.aload_n 1, 1) := by decide +kernel
theorem dX5_stands_37 : decode cX5_stands 37 = .ok (.iload_n 2, 1) := by decide +kernel
theorem dX5_stands_38 : decode cX5_stands 38 = .ok (.iload 4, 2) := by decide +kernel
theorem dX5_stands_40 : decode cX5_stands 40 = .ok (.iadd, 1) := by decide +kernel
theorem dX5_stands_41 : decode cX5_stands 41 = .ok (.invokevirtual 45, 3) := by decide +kernel
theorem dX5_stands_44 : decode cX5_stands 44 = .ok (.if_icmp .ne 7, 3) := by decide +kernel
theorem dX5_stands_47 : decode cX5_stands 47 = .ok (.iconst 1, 1) := by decide +kernel
theorem dX5_stands_48 : decode cX5_stands 48 = .ok (.goto 4, 3) := by decide +kernel
theorem dX5_stands_51 : decode cX5_stands 51 = .ok (.iconst 0, 1) := by decide +kernel
theorem dX5_stands_52 : decode cX5_stands 52 = .ok (.iand, 1) := by decide +kernel
theorem dX5_stands_53 : decode cX5_stands 53 = .ok (.istore_n 3, 1) := by decide +kernel
theorem dX5_stands_54 : decode cX5_stands 54 = .ok (.iinc 4 1, 3) := by decide +kernel
theorem dX5_stands_57 : decode cX5_stands 57 = .ok (.goto (-37), 3) := by decide +kernel
theorem dX5_stands_60 : decode cX5_stands 60 = .ok (.iload_n 3, 1) := by decide +kernel
theorem dX5_stands_61 : decode cX5_stands 61 = .ok (.ireturn, 1) := by decide +kernel
set_option maxRecDepth 20000 in
theorem ggX5_compare_J0_length_8abf5 : GoodIn wsX5_compare wsJ0_length_8abf5 := goodIn_r _ [5, 6, 7, 8, 9, 4, 10, 11, 12, 50, 51, 52, 53] (by decide +kernel) (by decide +kernel)
set_option maxRecDepth 20000 in
theorem gX5_compare_J0_length_8abf5 : GoodIn wsX5_compare (wsV RX5 42 RJ0 yJ0_length_8abf5 wsJ0_length_8abf5) := goodIn_app (goodIn_of _ (by decide +kernel)) ggX5_compare_J0_length_8abf5
theorem dX5_compare_0 : decode cX5_compare 0 = .ok (.aload_n 0, 1) := by decide +kernel
theorem dX5_compare_1 : decode cX5_compare 1 = .ok (.invokevirtual 42, 3) := by decide +kernel
theorem dX5_compare_4 : decode cX5_compare 4 = .ok (.aload_n 1, 1) := by decide +kernel
theorem dX5_compare_5 : decode cX5_compare 5 = .ok (.invokevirtual 42, 3) := by decide +kernel
theorem dX5_compare_8 : decode cX5_compare 8 = .ok (.if_icmp .eq 20, 3) := by decide +kernel
theorem dX5_compare_11 : decode cX5_compare 11 = .ok (.aload_n 0, 1) := by decide +kernel
theorem dX5_compare_12 : decode cX5_compare 12 = .ok (.invokevirtual 42, 3) := by decide +kernel
theorem dX5_compare_15 : decode cX5_compare 15 = .ok (.aload_n 1, 1) := by decide +kernel
theorem dX5_compare_16 : decode cX5_compare 16 = .ok (.invokevirtual 42, 3) := by decide +kernel
theorem dX5_compare_19 : decode cX5_compare 19 = .ok (.if_icmp .ge 7, 3) := by decide +kernel
theorem dX5_compare_22 : decode cX5_compare 22 = .ok (.iconst (-1), 1) := by decide +kernel
theorem dX5_compare_23 : decode cX5_compare 23 = .ok (.goto 4, 3) := by decide +kernel
theorem dX5_compare_26 : decode cX5_compare 26 = .ok (.iconst 1, 1) := by decide +kernel
theorem dX5_compare_27 : decode cX5_compare 27 = .ok (.ireturn, 1) := by decide +kernel
theorem dX5_compare_28 : decode cX5_compare 28 = .ok (.iconst 0, 1) := by decide +kernel
theorem dX5_compare_29 : decode cX5_compare 29 = .ok (.istore_n 2, 1) := by decide +kernel
theorem dX5_compare_30 : decode cX5_compare 30 = .ok (.iload_n 2, 1) := by decide +kernel
theorem dX5_compare_31 : decode cX5_compare 31 = .ok (.aload_n 0, 1) := by decide +kernel
theorem dX5_compare_32 : decode cX5_compare 32 = .ok (.invokevirtual 42, 3) := by decide +kernel
theorem dX5_compare_35 : decode cX5_compare 35 = .ok (.if_icmp .ge 41, 3) := by decide +kernel
theorem dX5_compare_38 : decode cX5_compare 38 = .ok (.aload_n 0, 1) := by decide +kernel
theorem dX5_compare_39 : decode cX5_compare 39 = .ok (.iload_n 2, 1) := by decide +kernel
theorem dX5_compare_40 : decode cX5_compare 40 = .ok (.invokevirtual 45, 3) := by decide +kernel
theorem dX5_compare_43 : decode cX5_compare 43 = .ok (.aload_n 1, 1) := by decide +kernel
theorem dX5_compare_44 : decode cX5_compare 44 = .ok (.iload_n 2, 1) := by decide +kernel
theorem dX5_compare_45 : decode cX5_compare 45 = .ok (.invokevirtual 45, 3) := by decide +kernel
theorem dX5_compare_48 : decode cX5_compare 48 = .ok (.if_icmp .eq 22, 3) := by decide +kernel
theorem dX5_compare_51 : decode cX5_compare 51 = .ok (.aload_n 0, 1) := by decide +kernel
theorem dX5_compare_52 : decode cX5_compare 52 = .ok (.iload_n 2, 1) := by decide +kernel
theorem dX5_compare_53 : decode cX5_compare 53 = .ok (.invokevirtual 45, 3) := by decide +kernel
theorem dX5_compare_56 : decode cX5_compare 56 = .ok (.aload_n 1, 1) := by decide +kernel
theorem dX5_compare_57 : decode cX5_compare 57 = .ok (.iload_n 2, 1) := by decide +kernel
theorem dX5_compare_58 : decode cX5_compare 58 = .ok (.invokevirtual 45, 3) := by decide +kernel
theorem dX5_compare_61 : decode cX5_compare 61 = .ok (.if_icmp .ge 7, 3) := by decide +kernel
theorem dX5_compare_64 : decode cX5_compare 64 = .ok (.iconst (-1), 1) := by decide +kernel
theorem dX5_compare_65 : decode cX5_compare 65 = .ok (.goto 4, 3) := by decide +kernel
theorem dX5_compare_68 : decode cX5_compare 68 = .ok (.iconst 1, 1) := by decide +kernel
theorem dX5_compare_69 : decode cX5_compare 69 = .ok (.ireturn, 1) := by decide +kernel
theorem dX5_compare_70 : decode cX5_compare 70 = .ok (.iinc 2 1, 3) := by decide +kernel
theorem dX5_compare_73 : decode cX5_compare 73 = .ok (.goto (-43), 3) := by decide +kernel
theorem dX5_compare_76 : decode cX5_compare 76 = .ok (.iconst 0, 1) := by decide +kernel
theorem dX5_compare_77 : decode cX5_compare 77 = .ok (.ireturn, 1) := by decide +kernel
set_option maxRecDepth 20000 in
theorem ggX5_changed_J4_init_da8c8 : GoodIn wsX5_changed wsJ4_init_da8c8 := goodIn_r _ [6, 7, 8, 9, 10, 11, 12, 13, 14, 15, 16, 17, 18, 19, 20, 21, 22, 23, 24, 25, 242, 243, 244, 245] (by decide +kernel) (by decide +kernel)
set_option maxRecDepth 20000 in
theorem gX5_changed_J4_init_da8c8 : GoodIn wsX5_changed (wsJ4_init_da8c8) := ggX5_changed_J4_init_da8c8
set_option maxRecDepth 20000 in
theorem ggX5_changed_J0_substring_37a41 : GoodIn wsX5_changed wsJ0_substring_37a41 := goodIn_r _ [30, 31, 32, 33, 34, 29, 35, 36, 37, 38, 39, 40, 41, 42, 43, 44, 45, 46, 47, 48, 49, 50, 51, 52, 53, 54, 55, 56, 57, 58, 59, 60, 61, 62, 63, 64, 65, 66, 67, 68, 69, 70, 71, 72, 15, 73, 74, 75, 76, 77, 78, 79, 80, 81, 82, 83, 84, 2, 3, 85, 86, 87, 88, 12, 13, 89, 90, 20, 91, 92, 93, 94, 95, 96, 97, 98, 99, 100, 101, 102, 103, 104, 105, 106, 107, 108, 109, 110, 111, 112, 113, 114, 115, 116, 117, 22, 23, 24, 25, 118, 119, 120, 121, 122, 246, 247, 248, 249, 242, 243, 244, 245] (by decide +kernel) (by decide +kernel)
set_option maxRecDepth 20000 in
theorem gX5_changed_J0_substring_37a41 : GoodIn wsX5_changed (wsV RX5 52 RJ0 yJ0_substring_37a41 wsJ0_substring_37a41) := goodIn_app (goodIn_of _ (by decide +kernel)) ggX5_changed_J0_substring_37a41
set_option maxRecDepth 20000 in
theorem ggX5_changed_J4_append_15ec4 : GoodIn wsX5_changed wsJ4_append_15ec4 := goodIn_r _ [126, 127, 128, 129, 130, 9, 131, 132, 133, 134, 135, 136, 137, 16, 138, 139, 140, 141, 142, 17, 143, 144, 145, 146, 147, 148, 149, 150, 151, 152, 153, 154, 75, 155, 156, 157, 158, 159, 160, 161, 62, 162, 64, 65, 66, 67, 68, 69, 15, 73, 74, 76, 77, 78, 79, 80, 163, 164, 165, 166, 167, 14, 168, 169, 20, 170, 115, 171, 172, 173, 103, 104, 105, 174, 43, 29, 44, 45, 46, 47, 48, 49, 175, 176, 177, 116, 117, 178, 33, 34, 35, 31, 36, 37, 38, 39, 40, 41, 179, 180, 181, 182, 183, 184, 185, 186, 187, 188, 189, 190, 191, 192, 193, 194, 18, 19, 21, 22, 23, 24, 25, 195, 196, 56, 197, 198, 199, 200, 100, 101, 102, 106, 107, 108, 109, 110, 111, 201, 202, 203, 204, 205, 206, 242, 243, 244, 245, 246, 247, 248, 249] (by decide +kernel) (by decide +kernel)
set_option maxRecDepth 20000 in
theorem gX5_changed_J4_append_15ec4 : GoodIn wsX5_changed (wsV RX5 56 RJ4 yJ4_append_15ec4 wsJ4_append_15ec4) := goodIn_app (goodIn_of _ (by decide +kernel)) ggX5_changed_J4_append_15ec4
set_option maxRecDepth 20000 in
theorem ggX5_changed_J0_substring_b52d3 : GoodIn wsX5_changed wsJ0_substring_b52d3 := goodIn_r _ [210, 32, 33, 34, 29, 35, 31, 36, 37, 38, 39, 40, 41, 211, 27, 28, 30, 42, 43, 44, 45, 46, 47, 48, 49, 50, 51, 52, 53, 54, 55, 56, 57, 58, 59, 60, 61, 62, 63, 64, 65, 66, 67, 68, 69, 70, 71, 72, 15, 73, 74, 75, 76, 77, 78, 79, 80, 81, 82, 83, 84, 2, 3, 85, 86, 87, 88, 12, 13, 89, 90, 20, 91, 92, 93, 94, 95, 96, 97, 98, 99, 100, 101, 102, 103, 104, 105, 106, 107, 108, 109, 110, 111, 112, 113, 114, 115, 116, 117, 22, 23, 24, 25, 118, 119, 120, 121, 122, 246, 247, 248, 249, 242, 243, 244, 245] (by decide +kernel) (by decide +kernel)
set_option maxRecDepth 20000 in
theorem gX5_changed_J0_substring_b52d3 : GoodIn wsX5_changed (wsV RX5 60 RJ0 yJ0_substring_b52d3 wsJ0_substring_b52d3) := goodIn_app (goodIn_of _ (by decide +kernel)) ggX5_changed_J0_substring_b52d3
set_option maxRecDepth 20000 in
theorem ggX5_changed_J4_toString_0e30d : GoodIn wsX5_changed wsJ4_toString_0e30d := goodIn_r _ [215, 216, 59, 29, 217, 218, 219, 220, 221, 222, 88, 12, 13, 41, 31, 40, 223, 224, 225, 226, 227, 9, 228, 16, 229, 230, 231, 232, 233, 3, 234, 235, 129, 236, 237, 132, 238, 164, 165, 166, 167, 14, 17, 239, 61, 62, 63, 64, 65, 66, 67, 68, 69, 70, 71, 72, 15, 73, 74, 75, 76, 77, 78, 79, 80, 81, 82, 83, 84, 2, 240, 95, 20, 96, 97, 98, 99, 100, 101, 102, 103, 104, 105, 106, 107, 108, 45, 109, 110, 48, 111, 112, 113, 114, 115, 116, 117, 22, 23, 24, 25, 118, 241, 120, 121, 246, 247, 248, 249, 242, 243, 244, 245] (by decide +kernel) (by decide +kernel)
set_option maxRecDepth 20000 in
theorem gX5_changed_J4_toString_0e30d : GoodIn wsX5_changed (wsV RX5 63 RJ4 yJ4_toString_0e30d wsJ4_toString_0e30d) := goodIn_app (goodIn_of _ (by decide +kernel)) ggX5_changed_J4_toString_0e30d
theorem dX5_changed_0 : decode cX5_changed 0 = .ok (.new 49, 3) := by decide +kernel
theorem dX5_changed_3 : decode cX5_changed 3 = .ok (.dup, 1) := by decide +kernel
theorem dX5_changed_4 : decode cX5_changed 4 = .ok (.invokespecial 51, 3) := by decide +kernel
theorem dX5_changed_7 : decode cX5_changed 7 = .ok (.aload_n 0, 1) := by decide +kernel
theorem dX5_changed_8 : decode cX5_changed 8 = .ok (.iconst 0, 1) := by decide +kernel
theorem dX5_changed_9 : decode cX5_changed 9 = .ok (.iload_n 1, 1) := by decide +kernel
theorem dX5_changed_10 : decode cX5_changed 10 = .ok (.invokevirtual 52, 3) := by decide +kernel
theorem dX5_changed_13 : decode cX5_changed 13 = .ok (.invokevirtual 56, 3) := by decide +kernel
theorem dX5_changed_16 : decode cX5_changed 16 = .ok (.aload_n 3, 1) := by decide +kernel
theorem dX5_changed_17 : decode cX5_changed 17 = .ok (.invokevirtual 56, 3) := by decide +kernel
theorem dX5_changed_20 : decode cX5_changed 20 = .ok (.aload_n 0, 1) := by decide +kernel
theorem dX5_changed_21 : decode cX5_changed 21 = .ok (.iload_n 1, 1) := by decide +kernel
theorem dX5_changed_22 : decode cX5_changed 22 = .ok (.iload_n 2, 1) := by decide +kernel
theorem dX5_changed_23 : decode cX5_changed 23 = .ok (.iadd, 1) := by decide +kernel
theorem dX5_changed_24 : decode cX5_changed 24 = .ok (.invokevirtual 60, 3) := by decide +kernel
theorem dX5_changed_27 : decode cX5_changed 27 = .ok (.invokevirtual 56, 3) := by decide +kernel
theorem dX5_changed_30 : decode cX5_changed 30 = .ok (.invokevirtual 63, 3) := by decide +kernel
theorem dX5_changed_33 : decode cX5_changed 33 = .ok (.areturn, 1) := by decide +kernel
set_option maxRecDepth 20000 in
theorem ggX5_areAllFalling_Jx4a65c_size_8abf5 : GoodIn wsX5_areAllFalling wsJx4a65c_size_8abf5 := goodIn_r _ [6, 7, 88, 89, 90] (by decide +kernel) (by decide +kernel)
set_option maxRecDepth 20000 in
theorem gX5_areAllFalling_Jx4a65c_size_8abf5 : GoodIn wsX5_areAllFalling (wsV RX5 35 RJx4a65c yJx4a65c_size_8abf5 wsJx4a65c_size_8abf5) := goodIn_app (goodIn_of _ (by decide +kernel)) ggX5_areAllFalling_Jx4a65c_size_8abf5
theorem dX5_areAllFalling_0 : decode cX5_areAllFalling 0 = .ok (.iconst 1, 1) := by decide +kernel
theorem dX5_areAllFalling_1 : decode cX5_areAllFalling 1 = .ok (.istore_n 1, 1) := by decide +kernel
theorem dX5_areAllFalling_2 : decode cX5_areAllFalling 2 = .ok (.iconst 0, 1) := by decide +kernel
theorem dX5_areAllFalling_3 : decode cX5_areAllFalling 3 = .ok (.istore_n 2, 1) := by decide +kernel
theorem dX5_areAllFalling_4 : decode cX5_areAllFalling 4 = .ok (.iload_n 2, 1) := by decide +kernel
theorem dX5_areAllFalling_5 : decode cX5_areAllFalling 5 = .ok (.aload_n 0, 1) := by decide +kernel
theorem dX5_areAllFalling_6 : decode cX5_areAllFalling 6 = .ok (.getfield 20, 3) := by decide +kernel
theorem dX5_areAllFalling_9 : decode cX5_areAllFalling 9 = .ok (.invokevirtual 35, 3) := by decide +kernel
theorem dX5_areAllFalling_12 : decode cX5_areAllFalling 12 = .ok (.if_icmp .ge 17, 3) := by decide +kernel
theorem dX5_areAllFalling_15 : decode cX5_areAllFalling 15 = .ok (.iload_n 1, 1) := by decide +kernel
theorem dX5_areAllFalling_16 : decode cX5_areAllFalling 16 = .ok (.aload_n 0, 1) := by decide +kernel
theorem dX5_areAllFalling_17 : decode cX5_areAllFalling 17 = .ok (.iload_n 2, 1) := by decide +kernel
theorem dX5_areAllFalling_18 : decode cX5_areAllFalling 18 = .ok (.invokevirtual 75, 3) := by decide +kernel
theorem dX5_areAllFalling_21 : decode cX5_areAllFalling 21 = .ok (.iand, 1) := by decide +kernel
theorem dX5_areAllFalling_22 : decode cX5_areAllFalling 22 = .ok (.istore_n 1, 1) := by decide +kernel
theorem dX5_areAllFalling_23 : decode cX5_areAllFalling 23 = .ok (.iinc 2 1, 3) := by decide +kernel
theorem dX5_areAllFalling_26 : decode cX5_areAllFalling 26 = .ok (.goto (-22), 3) := by decide +kernel
theorem dX5_areAllFalling_29 : decode cX5_areAllFalling 29 = .ok (.iload_n 1, 1) := by decide +kernel
theorem dX5_areAllFalling_30 : decode cX5_areAllFalling 30 = .ok (.ireturn, 1) := by decide +kernel
set_option maxRecDepth 20000 in
theorem ggX5_spotsOf_Jx4a65c_init_da8c8 : GoodIn wsX5_spotsOf wsJx4a65c_init_da8c8 := goodIn_r _ [9, 10, 11, 12, 13, 14, 15, 16, 17, 18, 19, 20, 21, 22, 23, 147, 148, 149] (by decide +kernel) (by decide +kernel)
set_option maxRecDepth 20000 in
theorem gX5_spotsOf_Jx4a65c_init_da8c8 : GoodIn wsX5_spotsOf (wsJx4a65c_init_da8c8) := ggX5_spotsOf_Jx4a65c_init_da8c8
set_option maxRecDepth 20000 in
theorem ggX5_spotsOf_J0_length_8abf5 : GoodIn wsX5_spotsOf wsJ0_length_8abf5 := goodIn_r _ [28, 29, 30, 31, 32, 27, 33, 34, 35, 157, 158, 159, 160] (by decide +kernel) (by decide +kernel)
set_option maxRecDepth 20000 in
theorem gX5_spotsOf_J0_length_8abf5 : GoodIn wsX5_spotsOf (wsV RX5 42 RJ0 yJ0_length_8abf5 wsJ0_length_8abf5) := goodIn_app (goodIn_of _ (by decide +kernel)) ggX5_spotsOf_J0_length_8abf5
set_option maxRecDepth 20000 in
theorem ggX5_spotsOf_Jx4a65c_size_8abf5 : GoodIn wsX5_spotsOf wsJx4a65c_size_8abf5 := goodIn_r _ [39, 40, 147, 148, 149] (by decide +kernel) (by decide +kernel)
set_option maxRecDepth 20000 in
theorem gX5_spotsOf_Jx4a65c_size_8abf5 : GoodIn wsX5_spotsOf (wsV RX5 35 RJx4a65c yJx4a65c_size_8abf5 wsJx4a65c_size_8abf5) := goodIn_app (goodIn_of _ (by decide +kernel)) ggX5_spotsOf_Jx4a65c_size_8abf5
set_option maxRecDepth 20000 in
theorem ggX5_spotsOf_Jx4a65c_get_915e3 : GoodIn wsX5_spotsOf wsJx4a65c_get_915e3 := goodIn_r _ [44, 40, 45, 46, 47, 48, 49, 50, 51, 52, 53, 54, 55, 3, 56, 11, 147, 148, 149] (by decide +kernel) (by decide +kernel)
set_option maxRecDepth 20000 in
theorem gX5_spotsOf_Jx4a65c_get_915e3 : GoodIn wsX5_spotsOf (wsV RX5 67 RJx4a65c yJx4a65c_get_915e3 wsJx4a65c_get_915e3) := goodIn_app (goodIn_of _ (by decide +kernel)) ggX5_spotsOf_Jx4a65c_get_915e3
set_option maxRecDepth 20000 in
theorem ggX5_spotsOf_X5_stands : GoodIn wsX5_spotsOf wsX5_stands := goodIn_r _ [60, 24, 25, 26, 27, 28, 29, 30, 31, 32, 33, 34, 35, 61, 62, 63, 64, 65, 66, 67, 68, 69, 70, 71, 72, 73, 74, 75, 76, 77, 50, 51, 52, 78, 79, 80, 81, 82, 83, 84, 85, 86, 87, 88, 89, 90, 91, 92, 93, 94, 157, 158, 159, 160] (by decide +kernel) (by decide +kernel)
set_option maxRecDepth 20000 in
theorem gX5_spotsOf_X5_stands : GoodIn wsX5_spotsOf (va_wsS RX5 79 yX5_stands wsX5_stands) := goodIn_app (goodIn_of _ (by decide +kernel)) ggX5_spotsOf_X5_stands
set_option maxRecDepth 20000 in
theorem ggX5_spotsOf_Jx4a65c_add_9ea2d : GoodIn wsX5_spotsOf wsJx4a65c_add_9ea2d := goodIn_r _ [98, 99, 100, 11, 40, 101, 102, 103, 3, 104, 105, 106, 107, 108, 109, 110, 111, 112, 10, 113, 114, 115, 116, 117, 118, 119, 120, 121, 122, 123, 124, 125, 126, 127, 128, 129, 130, 131, 132, 133, 134, 135, 136, 137, 138, 139, 140, 141, 142, 143, 144, 145, 146, 147, 148, 149] (by decide +kernel) (by decide +kernel)
set_option maxRecDepth 20000 in
theorem gX5_spotsOf_Jx4a65c_add_9ea2d : GoodIn wsX5_spotsOf (wsV RX5 83 RJx4a65c yJx4a65c_add_9ea2d wsJx4a65c_add_9ea2d) := goodIn_app (goodIn_of _ (by decide +kernel)) ggX5_spotsOf_Jx4a65c_add_9ea2d
theorem dX5_spotsOf_0 : decode cX5_spotsOf 0 = .ok (.new 17, 3) := by decide +kernel
theorem dX5_spotsOf_3 : decode cX5_spotsOf 3 = .ok (.dup, 1) := by decide +kernel
theorem dX5_spotsOf_4 : decode cX5_spotsOf 4 = .ok (.invokespecial 19, 3) := by decide +kernel
theorem dX5_spotsOf_7 : decode cX5_spotsOf 7 = .ok (.astore_n 2, 1) := by decide +kernel
theorem dX5_spotsOf_8 : decode cX5_spotsOf 8 = .ok (.iconst 0, 1) := by decide +kernel
theorem dX5_spotsOf_9 : decode cX5_spotsOf 9 = .ok (.istore_n 3, 1) := by decide +kernel
theorem dX5_spotsOf_10 : decode cX5_spotsOf 10 = .ok (.iload_n 3, 1) := by decide +kernel
theorem dX5_spotsOf_11 : decode cX5_spotsOf 11 = .ok (.aload_n 1, 1) := by decide +kernel
theorem dX5_spotsOf_12 : decode cX5_spotsOf 12 = .ok (.invokevirtual 42, 3) := by decide +kernel
theorem dX5_spotsOf_15 : decode cX5_spotsOf 15 = .ok (.if_icmp .ge 67, 3) := by decide +kernel
theorem dX5_spotsOf_18 : decode cX5_spotsOf 18 = .ok (.iconst 0, 1) := by decide +kernel
theorem dX5_spotsOf_19 : decode cX5_spotsOf 19 = .ok (.istore 4, 2) := by decide +kernel
theorem dX5_spotsOf_21 : decode cX5_spotsOf 21 = .ok (.iload 4, 2) := by decide +kernel
theorem dX5_spotsOf_23 : decode cX5_spotsOf 23 = .ok (.aload_n 0, 1) := by decide +kernel
theorem dX5_spotsOf_24 : decode cX5_spotsOf 24 = .ok (.getfield 20, 3) := by decide +kernel
theorem dX5_spotsOf_27 : decode cX5_spotsOf 27 = .ok (.invokevirtual 35, 3) := by decide +kernel
theorem dX5_spotsOf_30 : decode cX5_spotsOf 30 = .ok (.if_icmp .ge 46, 3) := by decide +kernel
theorem dX5_spotsOf_33 : decode cX5_spotsOf 33 = .ok (.aload_n 0, 1) := by decide +kernel
theorem dX5_spotsOf_34 : decode cX5_spotsOf 34 = .ok (.getfield 20, 3) := by decide +kernel
theorem dX5_spotsOf_37 : decode cX5_spotsOf 37 = .ok (.iload 4, 2) := by decide +kernel
theorem dX5_spotsOf_39 : decode cX5_spotsOf 39 = .ok (.invokevirtual 67, 3) := by decide +kernel
theorem dX5_spotsOf_42 : decode cX5_spotsOf 42 = .ok (.checkcast 7, 3) := by decide +kernel
theorem dX5_spotsOf_45 : decode cX5_spotsOf 45 = .ok (.aload_n 1, 1) := by decide +kernel
theorem dX5_spotsOf_46 : decode cX5_spotsOf 46 = .ok (.iload_n 3, 1) := by decide +kernel
theorem dX5_spotsOf_47 : decode cX5_spotsOf 47 = .ok (.invokestatic 79, 3) := by decide +kernel
theorem dX5_spotsOf_50 : decode cX5_spotsOf 50 = .ok (.ifCond .eq 20, 3) := by decide +kernel
theorem dX5_spotsOf_53 : decode cX5_spotsOf 53 = .ok (.aload_n 2, 1) := by decide +kernel
theorem dX5_spotsOf_54 : decode cX5_spotsOf 54 = .ok (.iconst 2, 1) := by decide +kernel
theorem dX5_spotsOf_55 : decode cX5_spotsOf 55 = .ok (.newarray .int, 2) := by decide +kernel
theorem dX5_spotsOf_57 : decode cX5_spotsOf 57 = .ok (.dup, 1) := by decide +kernel
theorem dX5_spotsOf_58 : decode cX5_spotsOf 58 = .ok (.iconst 0, 1) := by decide +kernel
theorem dX5_spotsOf_59 : decode cX5_spotsOf 59 = .ok (.iload_n 3, 1) := by decide +kernel
theorem dX5_spotsOf_60 : decode cX5_spotsOf 60 = .ok (.iastore, 1) := by decide +kernel
theorem dX5_spotsOf_61 : decode cX5_spotsOf 61 = .ok (.dup, 1) := by decide +kernel
theorem dX5_spotsOf_62 : decode cX5_spotsOf 62 = .ok (.iconst 1, 1) := by decide +kernel
theorem dX5_spotsOf_63 : decode cX5_spotsOf 63 = .ok (.iload 4, 2) := by decide +kernel
theorem dX5_spotsOf_65 : decode cX5_spotsOf 65 = .ok (.iastore, 1) := by decide +kernel
theorem dX5_spotsOf_66 : decode cX5_spotsOf 66 = .ok (.invokevirtual 83, 3) := by decide +kernel
theorem dX5_spotsOf_69 : decode cX5_spotsOf 69 = .ok (.pop, 1) := by decide +kernel
theorem dX5_spotsOf_70 : decode cX5_spotsOf 70 = .ok (.iinc 4 1, 3) := by decide +kernel
theorem dX5_spotsOf_73 : decode cX5_spotsOf 73 = .ok (.goto (-52), 3) := by decide +kernel
theorem dX5_spotsOf_76 : decode cX5_spotsOf 76 = .ok (.iinc 3 1, 3) := by decide +kernel
theorem dX5_spotsOf_79 : decode cX5_spotsOf 79 = .ok (.goto (-69), 3) := by decide +kernel
theorem dX5_spotsOf_82 : decode cX5_spotsOf 82 = .ok (.aload_n 2, 1) := by decide +kernel
theorem dX5_spotsOf_83 : decode cX5_spotsOf 83 = .ok (.areturn, 1) := by decide +kernel
set_option maxRecDepth 20000 in
theorem ggX5_chosen_Jx4a65c_size_8abf5 : GoodIn wsX5_chosen wsJx4a65c_size_8abf5 := goodIn_r _ [8, 9, 84, 85, 86] (by decide +kernel) (by decide +kernel)
set_option maxRecDepth 20000 in
theorem gX5_chosen_Jx4a65c_size_8abf5 : GoodIn wsX5_chosen (wsV RX5 35 RJx4a65c yJx4a65c_size_8abf5 wsJx4a65c_size_8abf5) := goodIn_app (goodIn_of _ (by decide +kernel)) ggX5_chosen_Jx4a65c_size_8abf5
set_option maxRecDepth 20000 in
theorem ggX5_chosen_J0_length_8abf5 : GoodIn wsX5_chosen wsJ0_length_8abf5 := goodIn_r _ [14, 15, 16, 17, 18, 13, 19, 20, 21, 87, 88, 89, 90] (by decide +kernel) (by decide +kernel)
set_option maxRecDepth 20000 in
theorem gX5_chosen_J0_length_8abf5 : GoodIn wsX5_chosen (wsV RX5 42 RJ0 yJ0_length_8abf5 wsJ0_length_8abf5) := goodIn_app (goodIn_of _ (by decide +kernel)) ggX5_chosen_J0_length_8abf5
set_option maxRecDepth 20000 in
theorem ggX5_chosen_Jx4a65c_get_915e3 : GoodIn wsX5_chosen wsJx4a65c_get_915e3 := goodIn_r _ [25, 9, 26, 27, 28, 29, 30, 31, 32, 33, 34, 35, 36, 7, 37, 38, 84, 85, 86] (by decide +kernel) (by decide +kernel)
set_option maxRecDepth 20000 in
theorem gX5_chosen_Jx4a65c_get_915e3 : GoodIn wsX5_chosen (wsV RX5 67 RJx4a65c yJx4a65c_get_915e3 wsJx4a65c_get_915e3) := goodIn_app (goodIn_of _ (by decide +kernel)) ggX5_chosen_Jx4a65c_get_915e3
set_option maxRecDepth 20000 in
theorem ggX5_chosen_X5_stands : GoodIn wsX5_chosen wsX5_stands := goodIn_r _ [42, 10, 11, 12, 13, 14, 15, 16, 17, 18, 19, 20, 21, 43, 44, 45, 46, 47, 48, 49, 50, 51, 52, 53, 54, 55, 56, 57, 58, 59, 31, 32, 33, 60, 61, 62, 63, 64, 65, 66, 67, 68, 69, 70, 71, 72, 73, 74, 75, 76, 87, 88, 89, 90] (by decide +kernel) (by decide +kernel)
set_option maxRecDepth 20000 in
theorem gX5_chosen_X5_stands : GoodIn wsX5_chosen (va_wsS RX5 79 yX5_stands wsX5_stands) := goodIn_app (goodIn_of _ (by decide +kernel)) ggX5_chosen_X5_stands
theorem dX5_chosen_0 : decode cX5_chosen 0 = .ok (.aload_n 0, 1) := by decide +kernel
theorem dX5_chosen_1 : decode cX5_chosen 1 = .ok (.getfield 20, 3) := by decide +kernel
theorem dX5_chosen_4 : decode cX5_chosen 4 = .ok (.invokevirtual 35, 3) := by decide +kernel
theorem dX5_chosen_7 : decode cX5_chosen 7 = .ok (.istore_n 3, 1) := by decide +kernel
theorem dX5_chosen_8 : decode cX5_chosen 8 = .ok (.iconst 0, 1) := by decide +kernel
theorem dX5_chosen_9 : decode cX5_chosen 9 = .ok (.istore 4, 2) := by decide +kernel
theorem dX5_chosen_11 : decode cX5_chosen 11 = .ok (.iload 4, 2) := by decide +kernel
theorem dX5_chosen_13 : decode cX5_chosen 13 = .ok (.aload_n 1, 1) := by decide +kernel
theorem dX5_chosen_14 : decode cX5_chosen 14 = .ok (.invokevirtual 42, 3) := by decide +kernel
theorem dX5_chosen_17 : decode cX5_chosen 17 = .ok (.iload_n 3, 1) := by decide +kernel
theorem dX5_chosen_18 : decode cX5_chosen 18 = .ok (.imul, 1) := by decide +kernel
theorem dX5_chosen_19 : decode cX5_chosen 19 = .ok (.if_icmp .ge 104, 3) := by decide +kernel
theorem dX5_chosen_22 : decode cX5_chosen 22 = .ok (.iload_n 2, 1) := by decide +kernel
theorem dX5_chosen_23 : decode cX5_chosen 23 = .ok (.ifCond .ne 10, 3) := by decide +kernel
theorem dX5_chosen_26 : decode cX5_chosen 26 = .ok (.iload 4, 2) := by decide +kernel
theorem dX5_chosen_28 : decode cX5_chosen 28 = .ok (.iload_n 3, 1) := by decide +kernel
theorem dX5_chosen_29 : decode cX5_chosen 29 = .ok (.idiv, 1) := by decide +kernel
theorem dX5_chosen_30 : decode cX5_chosen 30 = .ok (.goto 29, 3) := by decide +kernel
theorem dX5_chosen_33 : decode cX5_chosen 33 = .ok (.iload_n 2, 1) := by decide +kernel
theorem dX5_chosen_34 : decode cX5_chosen 34 = .ok (.iconst 1, 1) := by decide +kernel
theorem dX5_chosen_35 : decode cX5_chosen 35 = .ok (.if_icmp .ne 17, 3) := by decide +kernel
theorem dX5_chosen_38 : decode cX5_chosen 38 = .ok (.aload_n 1, 1) := by decide +kernel
theorem dX5_chosen_39 : decode cX5_chosen 39 = .ok (.invokevirtual 42, 3) := by decide +kernel
theorem dX5_chosen_42 : decode cX5_chosen 42 = .ok (.iconst 1, 1) := by decide +kernel
theorem dX5_chosen_43 : decode cX5_chosen 43 = .ok (.isub, 1) := by decide +kernel
theorem dX5_chosen_44 : decode cX5_chosen 44 = .ok (.iload 4, 2) := by decide +kernel
theorem dX5_chosen_46 : decode cX5_chosen 46 = .ok (.iload_n 3, 1) := by decide +kernel
theorem dX5_chosen_47 : decode cX5_chosen 47 = .ok (.idiv, 1) := by decide +kernel
theorem dX5_chosen_48 : decode cX5_chosen 48 = .ok (.isub, 1) := by decide +kernel
theorem dX5_chosen_49 : decode cX5_chosen 49 = .ok (.goto 10, 3) := by decide +kernel
theorem dX5_chosen_52 : decode cX5_chosen 52 = .ok (.iload 4, 2) := by decide +kernel
theorem dX5_chosen_54 : decode cX5_chosen 54 = .ok (.aload_n 1, 1) := by decide +kernel
theorem dX5_chosen_55 : decode cX5_chosen 55 = .ok (.invokevirtual 42, 3) := by decide +kernel
theorem dX5_chosen_58 : decode cX5_chosen 58 = .ok (.irem, 1) := by decide +kernel
theorem dX5_chosen_59 : decode cX5_chosen 59 = .ok (.istore 5, 2) := by decide +kernel
theorem dX5_chosen_61 : decode cX5_chosen 61 = .ok (.iload_n 2, 1) := by decide +kernel
theorem dX5_chosen_62 : decode cX5_chosen 62 = .ok (.iconst 2, 1) := by decide +kernel
theorem dX5_chosen_63 : decode cX5_chosen 63 = .ok (.if_icmp .ne 13, 3) := by decide +kernel
theorem dX5_chosen_66 : decode cX5_chosen 66 = .ok (.iload 4, 2) := by decide +kernel
theorem dX5_chosen_68 : decode cX5_chosen 68 = .ok (.aload_n 1, 1) := by decide +kernel
theorem dX5_chosen_69 : decode cX5_chosen 69 = .ok (.invokevirtual 42, 3) := by decide +kernel
theorem dX5_chosen_72 : decode cX5_chosen 72 = .ok (.idiv, 1) := by decide +kernel
theorem dX5_chosen_73 : decode cX5_chosen 73 = .ok (.goto 7, 3) := by decide +kernel
theorem dX5_chosen_76 : decode cX5_chosen 76 = .ok (.iload 4, 2) := by decide +kernel
theorem dX5_chosen_78 : decode cX5_chosen 78 = .ok (.iload_n 3, 1) := by decide +kernel
theorem dX5_chosen_79 : decode cX5_chosen 79 = .ok (.irem, 1) := by decide +kernel
theorem dX5_chosen_80 : decode cX5_chosen 80 = .ok (.istore 6, 2) := by decide +kernel
theorem dX5_chosen_82 : decode cX5_chosen 82 = .ok (.aload_n 0, 1) := by decide +kernel
theorem dX5_chosen_83 : decode cX5_chosen 83 = .ok (.getfield 20, 3) := by decide +kernel
theorem dX5_chosen_86 : decode cX5_chosen 86 = .ok (.iload 6, 2) := by decide +kernel
theorem dX5_chosen_88 : decode cX5_chosen 88 = .ok (.invokevirtual 67, 3) := by decide +kernel
theorem dX5_chosen_91 : decode cX5_chosen 91 = .ok (.checkcast 7, 3) := by decide +kernel
theorem dX5_chosen_94 : decode cX5_chosen 94 = .ok (.aload_n 1, 1) := by decide +kernel
theorem dX5_chosen_95 : decode cX5_chosen 95 = .ok (.iload 5, 2) := by decide +kernel
theorem dX5_chosen_97 : decode cX5_chosen 97 = .ok (.invokestatic 79, 3) := by decide +kernel
theorem dX5_chosen_100 : decode cX5_chosen 100 = .ok (.ifCond .eq 17, 3) := by decide +kernel
theorem dX5_chosen_103 : decode cX5_chosen 103 = .ok (.iconst 2, 1) := by decide +kernel
theorem dX5_chosen_104 : decode cX5_chosen 104 = .ok (.newarray .int, 2) := by decide +kernel
theorem dX5_chosen_106 : decode cX5_chosen 106 = .ok (.dup, 1) := by decide +kernel
theorem dX5_chosen_107 : decode cX5_chosen 107 = .ok (.iconst 0, 1) := by decide +kernel
theorem dX5_chosen_108 : decode cX5_chosen 108 = .ok (.iload 5, 2) := by decide +kernel
theorem dX5_chosen_110 : decode cX5_chosen 110 = .ok (.iastore, 1) := by decide +kernel
theorem dX5_chosen_111 : decode cX5_chosen 111 = .ok (.dup, 1) := by decide +kernel
theorem dX5_chosen_112 : decode cX5_chosen 112 = .ok (.iconst 1, 1) := by decide +kernel
theorem dX5_chosen_113 : decode cX5_chosen 113 = .ok (.iload 6, 2) := by decide +kernel
theorem dX5_chosen_115 : decode cX5_chosen 115 = .ok (.iastore, 1) := by decide +kernel
theorem dX5_chosen_116 : decode cX5_chosen 116 = .ok (.areturn, 1) := by decide +kernel
theorem dX5_chosen_117 : decode cX5_chosen 117 = .ok (.iinc 4 1, 3) := by decide +kernel
theorem dX5_chosen_120 : decode cX5_chosen 120 = .ok (.goto (-109), 3) := by decide +kernel
theorem dX5_chosen_123 : decode cX5_chosen 123 = .ok (.aconst_null, 1) := by decide +kernel
theorem dX5_chosen_124 : decode cX5_chosen 124 = .ok (.areturn, 1) := by decide +kernel
set_option maxRecDepth 20000 in
theorem ggX5_isEndNow_X5_chosen : GoodIn wsX5_isEndNow wsX5_chosen := goodIn_r _ [5, 6, 7, 8, 9, 10, 11, 12, 13, 14, 15, 16, 17, 18, 19, 20, 21, 22, 23, 24, 25, 26, 27, 28, 29, 30, 31, 32, 33, 34, 35, 36, 37, 38, 39, 40, 41, 42, 43, 44, 45, 4, 46, 47, 48, 49, 50, 51, 52, 53, 54, 55, 56, 57, 58, 59, 60, 61, 62, 63, 64, 65, 66, 67, 68, 69, 70, 71, 72, 73, 74, 75, 76, 77, 78, 79, 80, 81, 82, 83, 84, 85, 86, 87, 88, 89, 90, 91, 92, 93, 94] (by decide +kernel) (by decide +kernel)
set_option maxRecDepth 20000 in
theorem gX5_isEndNow_X5_chosen : GoodIn wsX5_isEndNow (wsV RX5 91 RX5 yX5_chosen wsX5_chosen) := goodIn_app (goodIn_of _ (by decide +kernel)) ggX5_isEndNow_X5_chosen
theorem dX5_isEndNow_0 : decode cX5_isEndNow 0 = .ok (.aload_n 0, 1) := by decide +kernel
theorem dX5_isEndNow_1 : decode cX5_isEndNow 1 = .ok (.aload_n 1, 1) := by decide +kernel
theorem dX5_isEndNow_2 : decode cX5_isEndNow 2 = .ok (.iconst 0, 1) := by decide +kernel
theorem dX5_isEndNow_3 : decode cX5_isEndNow 3 = .ok (.invokevirtual 91, 3) := by decide +kernel
theorem dX5_isEndNow_6 : decode cX5_isEndNow 6 = .ok (.ifnonnull 7, 3) := by decide +kernel
theorem dX5_isEndNow_9 : decode cX5_isEndNow 9 = .ok (.iconst 1, 1) := by decide +kernel
theorem dX5_isEndNow_10 : decode cX5_isEndNow 10 = .ok (.goto 4, 3) := by decide +kernel
theorem dX5_isEndNow_13 : decode cX5_isEndNow 13 = .ok (.iconst 0, 1) := by decide +kernel
theorem dX5_isEndNow_14 : decode cX5_isEndNow 14 = .ok (.ireturn, 1) := by decide +kernel
set_option maxRecDepth 20000 in
theorem ggX5_rewritten_X5_chosen : GoodIn wsX5_rewritten wsX5_chosen := goodIn_r _ [5, 6, 7, 8, 9, 10, 11, 12, 13, 14, 15, 16, 17, 18, 19, 20, 21, 22, 23, 24, 25, 26, 27, 28, 29, 30, 31, 32, 33, 34, 35, 36, 37, 38, 39, 40, 41, 42, 43, 44, 45, 4, 46, 47, 48, 49, 50, 51, 52, 53, 54, 55, 56, 57, 58, 59, 60, 61, 62, 63, 64, 65, 66, 67, 68, 69, 70, 71, 72, 73, 74, 75, 76, 77, 78, 79, 80, 302, 303, 304, 305, 306, 307, 308, 309, 310, 311, 312, 313, 314, 315] (by decide +kernel) (by decide +kernel)
set_option maxRecDepth 20000 in
theorem gX5_rewritten_X5_chosen : GoodIn wsX5_rewritten (wsV RX5 91 RX5 yX5_chosen wsX5_chosen) := goodIn_app (goodIn_of _ (by decide +kernel)) ggX5_rewritten_X5_chosen
set_option maxRecDepth 20000 in
theorem ggX5_rewritten_J0_length_8abf5 : GoodIn wsX5_rewritten wsJ0_length_8abf5 := goodIn_r _ [19, 20, 21, 22, 23, 18, 24, 25, 26, 312, 313, 314, 315] (by decide +kernel) (by decide +kernel)
set_option maxRecDepth 20000 in
theorem gX5_rewritten_J0_length_8abf5 : GoodIn wsX5_rewritten (wsV RX5 42 RJ0 yJ0_length_8abf5 wsJ0_length_8abf5) := goodIn_app (goodIn_of _ (by decide +kernel)) ggX5_rewritten_J0_length_8abf5
theorem dX5_rewritten_0 : decode cX5_rewritten 0 = .ok (.aload_n 1, 1) := by decide +kernel
theorem dX5_rewritten_1 : decode cX5_rewritten 1 = .ok (.astore 5, 2) := by decide +kernel
theorem dX5_rewritten_3 : decode cX5_rewritten 3 = .ok (.iconst 0, 1) := by decide +kernel
theorem dX5_rewritten_4 : decode cX5_rewritten 4 = .ok (.istore 6, 2) := by decide +kernel
theorem dX5_rewritten_6 : decode cX5_rewritten 6 = .ok (.iload 6, 2) := by decide +kernel
theorem dX5_rewritten_8 : decode cX5_rewritten 8 = .ok (.iload_n 3, 1) := by decide +kernel
theorem dX5_rewritten_9 : decode cX5_rewritten 9 = .ok (.if_icmp .ge 60, 3) := by decide +kernel
theorem dX5_rewritten_12 : decode cX5_rewritten 12 = .ok (.aload_n 0, 1) := by decide +kernel
theorem dX5_rewritten_13 : decode cX5_rewritten 13 = .ok (.aload 5, 2) := by decide +kernel
theorem dX5_rewritten_15 : decode cX5_rewritten 15 = .ok (.iload_n 2, 1) := by decide +kernel
theorem dX5_rewritten_16 : decode cX5_rewritten 16 = .ok (.invokevirtual 91, 3) := by decide +kernel
theorem dX5_rewritten_19 : decode cX5_rewritten 19 = .ok (.astore 7, 2) := by decide +kernel
theorem dX5_rewritten_21 : decode cX5_rewritten 21 = .ok (.aload 7, 2) := by decide +kernel
theorem dX5_rewritten_23 : decode cX5_rewritten 23 = .ok (.ifnull 19, 3) := by decide +kernel
theorem dX5_rewritten_26 : decode cX5_rewritten 26 = .ok (.aload_n 0, 1) := by decide +kernel
theorem dX5_rewritten_27 : decode cX5_rewritten 27 = .ok (.aload 5, 2) := by decide +kernel
theorem dX5_rewritten_29 : decode cX5_rewritten 29 = .ok (.aload 7, 2) := by decide +kernel
theorem dX5_rewritten_31 : decode cX5_rewritten 31 = .ok (.invokevirtual 95, 3) := by decide +kernel
theorem dX5_rewritten_34 : decode cX5_rewritten 34 = .ok (.invokevirtual 42, 3) := by decide +kernel
theorem dX5_rewritten_37 : decode cX5_rewritten 37 = .ok (.bipush 32, 2) := by decide +kernel
theorem dX5_rewritten_39 : decode cX5_rewritten 39 = .ok (.if_icmp .le 6, 3) := by decide +kernel
theorem dX5_rewritten_42 : decode cX5_rewritten 42 = .ok (.aload 5, 2) := by decide +kernel
theorem dX5_rewritten_44 : decode cX5_rewritten 44 = .ok (.areturn, 1) := by decide +kernel
theorem dX5_rewritten_45 : decode cX5_rewritten 45 = .ok (.aload_n 0, 1) := by decide +kernel
theorem dX5_rewritten_46 : decode cX5_rewritten 46 = .ok (.aload 5, 2) := by decide +kernel
theorem dX5_rewritten_48 : decode cX5_rewritten 48 = .ok (.aload 7, 2) := by decide +kernel
theorem dX5_rewritten_50 : decode cX5_rewritten 50 = .ok (.invokevirtual 95, 3) := by decide +kernel
theorem dX5_rewritten_53 : decode cX5_rewritten 53 = .ok (.astore 5, 2) := by decide +kernel
theorem dX5_rewritten_55 : decode cX5_rewritten 55 = .ok (.aload 4, 2) := by decide +kernel
theorem dX5_rewritten_57 : decode cX5_rewritten 57 = .ok (.iconst 0, 1) := by decide +kernel
theorem dX5_rewritten_58 : decode cX5_rewritten 58 = .ok (.dup2, 1) := by decide +kernel
theorem dX5_rewritten_59 : decode cX5_rewritten 59 = .ok (.iaload, 1) := by decide +kernel
theorem dX5_rewritten_60 : decode cX5_rewritten 60 = .ok (.iconst 1, 1) := by decide +kernel
theorem dX5_rewritten_61 : decode cX5_rewritten 61 = .ok (.iadd, 1) := by decide +kernel
theorem dX5_rewritten_62 : decode cX5_rewritten 62 = .ok (.iastore, 1) := by decide +kernel
theorem dX5_rewritten_63 : decode cX5_rewritten 63 = .ok (.iinc 6 1, 3) := by decide +kernel
theorem dX5_rewritten_66 : decode cX5_rewritten 66 = .ok (.goto (-60), 3) := by decide +kernel
theorem dX5_rewritten_69 : decode cX5_rewritten 69 = .ok (.aload 5, 2) := by decide +kernel
theorem dX5_rewritten_71 : decode cX5_rewritten 71 = .ok (.areturn, 1) := by decide +kernel
set_option maxRecDepth 20000 in
theorem ggX5_formOf_X5_rewritten : GoodIn wsX5_formOf wsX5_rewritten := goodIn_r _ [6, 7, 8, 9, 5, 10, 11, 12, 1, 13, 14, 15, 16, 17, 18, 19, 20, 21, 22, 23, 24, 25, 26, 27, 28, 29, 30, 31, 32, 33, 34, 35, 36, 37, 38, 39, 40, 41, 42, 43, 44, 45, 46, 47, 48, 49, 50, 51, 52, 53, 54, 55, 56, 57, 58, 59, 60, 61, 62, 63, 64, 65, 66, 67, 68, 69, 70, 71, 72, 73, 74, 75, 76, 77, 78, 79, 80, 81, 82, 83, 84, 85, 86, 87, 88, 89, 90, 91, 92, 93, 94, 95, 96, 97, 98, 99, 100, 101, 102, 103, 104, 105, 106, 107, 108, 109, 110, 111, 112, 113, 114, 115, 116, 117, 118, 119, 120, 121, 122, 123, 124, 125, 126, 127, 128, 129, 130, 131, 132, 133, 134, 135, 136, 137, 138, 139, 140, 141, 142, 143, 144, 145, 146, 147, 148, 149, 150, 151, 152, 153, 154, 155, 156, 157, 158, 159, 160, 161, 162, 163, 164, 165, 166, 167, 168, 169, 170, 171, 172, 173, 174, 175, 176, 177, 178, 179, 180, 181, 182, 183, 184, 185, 186, 187, 188, 189, 190, 191, 192, 193, 194, 195, 196, 197, 198, 199, 200, 201, 202, 203, 204, 205, 206, 207, 208, 209, 210, 211, 212, 213, 214, 215, 216, 217, 218, 219, 220, 221, 222, 223, 224, 225, 226, 227, 228, 229, 230, 231, 232, 233, 234, 235, 236, 237, 238, 239, 240, 241, 242, 243, 244, 245, 246, 247, 248, 249, 250, 251, 252, 253, 254, 255, 256, 257, 258, 259, 260, 261, 262, 263, 264, 265, 266, 267, 268, 269, 270, 271, 272, 273, 274, 275, 276, 277, 278, 279, 280, 281, 282, 283, 284, 285, 286, 287, 288, 289, 290, 291, 292, 293, 294, 295, 296, 297, 298, 299, 300, 301, 302, 303, 304, 305, 306, 307, 308, 309, 310, 311, 312, 313, 314, 315, 316, 317, 318, 319, 320, 321, 322, 323] (by decide +kernel) (by decide +kernel)
set_option maxRecDepth 20000 in
theorem gX5_formOf_X5_rewritten : GoodIn wsX5_formOf (wsV RX5 99 RX5 yX5_rewritten wsX5_rewritten) := goodIn_app (goodIn_of _ (by decide +kernel)) ggX5_formOf_X5_rewritten
theorem dX5_formOf_0 : decode cX5_formOf 0 = .ok (.aload_n 0, 1) := by decide +kernel
theorem dX5_formOf_1 : decode cX5_formOf 1 = .ok (.aload_n 1, 1) := by decide +kernel
theorem dX5_formOf_2 : decode cX5_formOf 2 = .ok (.iconst 0, 1) := by decide +kernel
theorem dX5_formOf_3 : decode cX5_formOf 3 = .ok (.bipush 40, 2) := by decide +kernel
theorem dX5_formOf_5 : decode cX5_formOf 5 = .ok (.iconst 1, 1) := by decide +kernel
theorem dX5_formOf_6 : decode cX5_formOf 6 = .ok (.newarray .int, 2) := by decide +kernel
theorem dX5_formOf_8 : decode cX5_formOf 8 = .ok (.invokevirtual 99, 3) := by decide +kernel
theorem dX5_formOf_11 : decode cX5_formOf 11 = .ok (.areturn, 1) := by decide +kernel
set_option maxRecDepth 20000 in
theorem ggX5_allPeaks_Jx4a65c_init_da8c8 : GoodIn wsX5_allPeaks wsJx4a65c_init_da8c8 := goodIn_r _ [13, 14, 15, 16, 17, 18, 19, 20, 21, 22, 23, 24, 25, 26, 27, 343, 344, 345] (by decide +kernel) (by decide +kernel)
set_option maxRecDepth 20000 in
theorem gX5_allPeaks_Jx4a65c_init_da8c8 : GoodIn wsX5_allPeaks (wsJx4a65c_init_da8c8) := ggX5_allPeaks_Jx4a65c_init_da8c8
set_option maxRecDepth 20000 in
theorem ggX5_allPeaks_Jx4a65c_size_8abf5 : GoodIn wsX5_allPeaks wsJx4a65c_size_8abf5 := goodIn_r _ [31, 32, 343, 344, 345] (by decide +kernel) (by decide +kernel)
set_option maxRecDepth 20000 in
theorem gX5_allPeaks_Jx4a65c_size_8abf5 : GoodIn wsX5_allPeaks (wsV RX5 35 RJx4a65c yJx4a65c_size_8abf5 wsJx4a65c_size_8abf5) := goodIn_app (goodIn_of _ (by decide +kernel)) ggX5_allPeaks_Jx4a65c_size_8abf5
set_option maxRecDepth 20000 in
theorem ggX5_allPeaks_Jx4a65c_get_915e3 : GoodIn wsX5_allPeaks wsJx4a65c_get_915e3 := goodIn_r _ [36, 32, 37, 38, 39, 40, 41, 42, 43, 44, 45, 46, 47, 3, 48, 15, 343, 344, 345] (by decide +kernel) (by decide +kernel)
set_option maxRecDepth 20000 in
theorem gX5_allPeaks_Jx4a65c_get_915e3 : GoodIn wsX5_allPeaks (wsV RX5 67 RJx4a65c yJx4a65c_get_915e3 wsJx4a65c_get_915e3) := goodIn_app (goodIn_of _ (by decide +kernel)) ggX5_allPeaks_Jx4a65c_get_915e3
set_option maxRecDepth 20000 in
theorem ggX5_allPeaks_J0_length_8abf5 : GoodIn wsX5_allPeaks wsJ0_length_8abf5 := goodIn_r _ [53, 54, 55, 56, 57, 52, 58, 59, 60, 357, 358, 359, 360] (by decide +kernel) (by decide +kernel)
set_option maxRecDepth 20000 in
theorem gX5_allPeaks_J0_length_8abf5 : GoodIn wsX5_allPeaks (wsV RX5 42 RJ0 yJ0_length_8abf5 wsJ0_length_8abf5) := goodIn_app (goodIn_of _ (by decide +kernel)) ggX5_allPeaks_J0_length_8abf5
set_option maxRecDepth 20000 in
theorem ggX5_allPeaks_J0_substring_37a41 : GoodIn wsX5_allPeaks wsJ0_substring_37a41 := goodIn_r _ [64, 54, 65, 50, 51, 52, 53, 55, 56, 57, 58, 59, 60, 66, 67, 68, 69, 70, 71, 43, 72, 73, 74, 75, 76, 77, 78, 79, 80, 81, 82, 83, 84, 85, 86, 87, 88, 89, 90, 91, 92, 93, 94, 95, 96, 97, 98, 99, 100, 101, 102, 103, 104, 105, 106, 107, 108, 8, 9, 109, 110, 111, 112, 26, 27, 113, 114, 115, 116, 117, 118, 119, 120, 121, 122, 123, 124, 125, 126, 127, 128, 129, 130, 131, 132, 133, 134, 135, 136, 137, 138, 139, 140, 141, 142, 143, 144, 145, 146, 147, 148, 149, 150, 151, 357, 358, 359, 360, 353, 354, 355, 356] (by decide +kernel) (by decide +kernel)
set_option maxRecDepth 20000 in
theorem gX5_allPeaks_J0_substring_37a41 : GoodIn wsX5_allPeaks (wsV RX5 52 RJ0 yJ0_substring_37a41 wsJ0_substring_37a41) := goodIn_app (goodIn_of _ (by decide +kernel)) ggX5_allPeaks_J0_substring_37a41
set_option maxRecDepth 20000 in
theorem ggX5_allPeaks_X5_stands : GoodIn wsX5_allPeaks wsX5_stands := goodIn_r _ [155, 49, 50, 51, 52, 53, 54, 55, 56, 57, 58, 59, 60, 156, 157, 158, 159, 73, 74, 75, 76, 160, 161, 79, 162, 163, 164, 165, 69, 166, 42, 43, 44, 167, 168, 115, 169, 170, 171, 172, 128, 129, 130, 173, 137, 138, 139, 140, 141, 142, 357, 358, 359, 360] (by decide +kernel) (by decide +kernel)
set_option maxRecDepth 20000 in
theorem gX5_allPeaks_X5_stands : GoodIn wsX5_allPeaks (va_wsS RX5 79 yX5_stands wsX5_stands) := goodIn_app (goodIn_of _ (by decide +kernel)) ggX5_allPeaks_X5_stands
set_option maxRecDepth 20000 in
theorem ggX5_allPeaks_J0_substring_b52d3 : GoodIn wsX5_allPeaks wsJ0_substring_b52d3 := goodIn_r _ [177, 65, 50, 51, 52, 53, 54, 55, 56, 57, 58, 59, 60, 178, 62, 63, 64, 66, 67, 68, 69, 70, 71, 43, 72, 73, 74, 75, 76, 77, 78, 79, 80, 81, 82, 83, 84, 85, 86, 87, 88, 89, 90, 91, 92, 93, 94, 95, 96, 97, 98, 99, 100, 101, 102, 103, 104, 105, 106, 107, 108, 8, 9, 109, 110, 111, 112, 26, 27, 113, 114, 115, 116, 117, 118, 119, 120, 121, 122, 123, 124, 125, 126, 127, 128, 129, 130, 131, 132, 133, 134, 135, 136, 137, 138, 139, 140, 141, 142, 143, 144, 145, 146, 147, 148, 149, 150, 151, 357, 358, 359, 360, 353, 354, 355, 356] (by decide +kernel) (by decide +kernel)
set_option maxRecDepth 20000 in
theorem gX5_allPeaks_J0_substring_b52d3 : GoodIn wsX5_allPeaks (wsV RX5 60 RJ0 yJ0_substring_b52d3 wsJ0_substring_b52d3) := goodIn_app (goodIn_of _ (by decide +kernel)) ggX5_allPeaks_J0_substring_b52d3
set_option maxRecDepth 20000 in
theorem ggX5_allPeaks_J4_init_da8c8 : GoodIn wsX5_allPeaks wsJ4_init_da8c8 := goodIn_r _ [181, 182, 183, 184, 185, 186, 26, 27, 187, 96, 188, 189, 190, 191, 115, 192, 143, 144, 145, 146, 353, 354, 355, 356] (by decide +kernel) (by decide +kernel)
set_option maxRecDepth 20000 in
theorem gX5_allPeaks_J4_init_da8c8 : GoodIn wsX5_allPeaks (wsJ4_init_da8c8) := ggX5_allPeaks_J4_init_da8c8
set_option maxRecDepth 20000 in
theorem ggX5_allPeaks_J4_append_15ec4 : GoodIn wsX5_allPeaks wsJ4_append_15ec4 := goodIn_r _ [196, 197, 198, 199, 200, 184, 201, 202, 203, 204, 205, 206, 207, 188, 208, 209, 210, 211, 212, 189, 213, 214, 215, 216, 217, 218, 219, 220, 221, 222, 223, 224, 99, 225, 226, 227, 228, 229, 230, 231, 85, 232, 87, 88, 89, 90, 91, 92, 96, 97, 98, 100, 101, 102, 103, 104, 233, 234, 235, 236, 237, 187, 238, 239, 115, 240, 140, 241, 242, 243, 128, 129, 130, 244, 67, 52, 68, 69, 70, 71, 43, 72, 245, 246, 247, 141, 142, 248, 50, 51, 53, 54, 55, 56, 57, 58, 59, 60, 249, 250, 251, 252, 253, 254, 255, 256, 257, 258, 259, 260, 261, 262, 263, 264, 190, 191, 192, 143, 144, 145, 146, 265, 266, 79, 267, 268, 269, 270, 125, 126, 127, 131, 132, 133, 134, 135, 136, 271, 272, 273, 274, 275, 276, 353, 354, 355, 356, 357, 358, 359, 360] (by decide +kernel) (by decide +kernel)
set_option maxRecDepth 20000 in
theorem gX5_allPeaks_J4_append_15ec4 : GoodIn wsX5_allPeaks (wsV RX5 56 RJ4 yJ4_append_15ec4 wsJ4_append_15ec4) := goodIn_app (goodIn_of _ (by decide +kernel)) ggX5_allPeaks_J4_append_15ec4
set_option maxRecDepth 20000 in
theorem ggX5_allPeaks_J4_toString_0e30d : GoodIn wsX5_allPeaks wsJ4_toString_0e30d := goodIn_r _ [280, 281, 82, 52, 282, 283, 284, 285, 286, 287, 112, 26, 27, 60, 54, 59, 288, 289, 290, 291, 292, 184, 293, 188, 294, 295, 296, 297, 298, 9, 299, 300, 199, 301, 302, 202, 303, 234, 235, 236, 237, 187, 189, 304, 84, 85, 86, 87, 88, 89, 90, 91, 92, 93, 94, 95, 96, 97, 98, 99, 100, 101, 102, 103, 104, 105, 106, 107, 108, 8, 305, 120, 115, 121, 122, 123, 124, 125, 126, 127, 128, 129, 130, 131, 132, 133, 69, 134, 135, 43, 136, 137, 138, 139, 140, 141, 142, 143, 144, 145, 146, 147, 306, 149, 150, 357, 358, 359, 360, 353, 354, 355, 356] (by decide +kernel) (by decide +kernel)
set_option maxRecDepth 20000 in
theorem gX5_allPeaks_J4_toString_0e30d : GoodIn wsX5_allPeaks (wsV RX5 63 RJ4 yJ4_toString_0e30d wsJ4_toString_0e30d) := goodIn_app (goodIn_of _ (by decide +kernel)) ggX5_allPeaks_J4_toString_0e30d
set_option maxRecDepth 20000 in
theorem ggX5_allPeaks_Jx4a65c_add_9ea2d : GoodIn wsX5_allPeaks wsJx4a65c_add_9ea2d := goodIn_r _ [310, 311, 312, 15, 32, 313, 314, 315, 3, 316, 317, 318, 319, 320, 321, 322, 323, 324, 14, 325, 224, 99, 225, 326, 327, 220, 221, 222, 223, 226, 227, 228, 229, 328, 329, 85, 330, 331, 332, 333, 334, 335, 336, 337, 338, 339, 97, 98, 100, 101, 102, 103, 104, 343, 344, 345] (by decide +kernel) (by decide +kernel)
set_option maxRecDepth 20000 in
theorem gX5_allPeaks_Jx4a65c_add_9ea2d : GoodIn wsX5_allPeaks (wsV RX5 83 RJx4a65c yJx4a65c_add_9ea2d wsJx4a65c_add_9ea2d) := goodIn_app (goodIn_of _ (by decide +kernel)) ggX5_allPeaks_Jx4a65c_add_9ea2d
set_option maxRecDepth 20000 in
theorem ggX5_allPeaks_X5_changed : GoodIn wsX5_allPeaks wsX5_changed := goodIn_r _ [342, 7, 8, 9, 179, 180, 181, 182, 183, 184, 185, 186, 26, 27, 187, 96, 188, 189, 190, 191, 115, 192, 143, 144, 145, 146, 61, 62, 63, 52, 64, 54, 65, 50, 51, 53, 55, 56, 57, 58, 59, 60, 66, 67, 68, 69, 70, 71, 43, 72, 73, 74, 75, 76, 77, 78, 79, 80, 81, 82, 83, 84, 85, 86, 87, 88, 89, 90, 91, 92, 93, 94, 95, 97, 98, 99, 100, 101, 102, 103, 104, 105, 106, 107, 108, 109, 110, 111, 112, 113, 114, 116, 117, 118, 119, 120, 121, 122, 123, 124, 125, 126, 127, 128, 129, 130, 131, 132, 133, 134, 135, 136, 137, 138, 139, 140, 141, 142, 147, 148, 149, 150, 151, 193, 194, 195, 196, 197, 198, 199, 200, 201, 202, 203, 204, 205, 206, 207, 208, 209, 210, 211, 212, 213, 214, 215, 216, 217, 218, 219, 220, 221, 222, 223, 224, 225, 226, 227, 228, 229, 230, 231, 232, 233, 234, 235, 236, 237, 238, 239, 240, 241, 242, 243, 244, 245, 246, 247, 248, 249, 250, 251, 252, 253, 254, 255, 256, 257, 258, 259, 260, 261, 262, 263, 264, 265, 266, 267, 268, 269, 270, 271, 272, 273, 274, 275, 276, 174, 175, 176, 177, 178, 277, 278, 279, 280, 281, 282, 283, 284, 285, 286, 287, 288, 289, 290, 291, 292, 293, 294, 295, 296, 297, 298, 299, 300, 301, 302, 303, 304, 305, 306, 353, 354, 355, 356, 357, 358, 359, 360] (by decide +kernel) (by decide +kernel)
set_option maxRecDepth 20000 in
theorem gX5_allPeaks_X5_changed : GoodIn wsX5_allPeaks (va_wsS RX5 87 yX5_changed wsX5_changed) := goodIn_app (goodIn_of _ (by decide +kernel)) ggX5_allPeaks_X5_changed
theorem dX5_allPeaks_0 : decode cX5_allPeaks 0 = .ok (.new 17, 3) := by decide +kernel
theorem dX5_allPeaks_3 : decode cX5_allPeaks 3 = .ok (.dup, 1) := by decide +kernel
theorem dX5_allPeaks_4 : decode cX5_allPeaks 4 = .ok (.invokespecial 19, 3) := by decide +kernel
theorem dX5_allPeaks_7 : decode cX5_allPeaks 7 = .ok (.astore_n 1, 1) := by decide +kernel
theorem dX5_allPeaks_8 : decode cX5_allPeaks 8 = .ok (.iconst 0, 1) := by decide +kernel
theorem dX5_allPeaks_9 : decode cX5_allPeaks 9 = .ok (.istore_n 2, 1) := by decide +kernel
theorem dX5_allPeaks_10 : decode cX5_allPeaks 10 = .ok (.iload_n 2, 1) := by decide +kernel
theorem dX5_allPeaks_11 : decode cX5_allPeaks 11 = .ok (.aload_n 0, 1) := by decide +kernel
theorem dX5_allPeaks_12 : decode cX5_allPeaks 12 = .ok (.getfield 20, 3) := by decide +kernel
theorem dX5_allPeaks_15 : decode cX5_allPeaks 15 = .ok (.invokevirtual 35, 3) := by decide +kernel
theorem dX5_allPeaks_18 : decode cX5_allPeaks 18 = .ok (.if_icmp .ge 317, 3) := by decide +kernel
theorem dX5_allPeaks_21 : decode cX5_allPeaks 21 = .ok (.iconst 0, 1) := by decide +kernel
theorem dX5_allPeaks_22 : decode cX5_allPeaks 22 = .ok (.istore_n 3, 1) := by decide +kernel
theorem dX5_allPeaks_23 : decode cX5_allPeaks 23 = .ok (.iload_n 3, 1) := by decide +kernel
theorem dX5_allPeaks_24 : decode cX5_allPeaks 24 = .ok (.aload_n 0, 1) := by decide +kernel
theorem dX5_allPeaks_25 : decode cX5_allPeaks 25 = .ok (.getfield 20, 3) := by decide +kernel
theorem dX5_allPeaks_28 : decode cX5_allPeaks 28 = .ok (.invokevirtual 35, 3) := by decide +kernel
theorem dX5_allPeaks_31 : decode cX5_allPeaks 31 = .ok (.if_icmp .ge 298, 3) := by decide +kernel
theorem dX5_allPeaks_34 : decode cX5_allPeaks 34 = .ok (.aload_n 0, 1) := by decide +kernel
theorem dX5_allPeaks_35 : decode cX5_allPeaks 35 = .ok (.getfield 20, 3) := by decide +kernel
theorem dX5_allPeaks_38 : decode cX5_allPeaks 38 = .ok (.iload_n 2, 1) := by decide +kernel
theorem dX5_allPeaks_39 : decode cX5_allPeaks 39 = .ok (.invokevirtual 67, 3) := by decide +kernel
theorem dX5_allPeaks_42 : decode cX5_allPeaks 42 = .ok (.checkcast 7, 3) := by decide +kernel
theorem dX5_allPeaks_45 : decode cX5_allPeaks 45 = .ok (.astore 4, 2) := by decide +kernel
theorem dX5_allPeaks_47 : decode cX5_allPeaks 47 = .ok (.aload_n 0, 1) := by decide +kernel
theorem dX5_allPeaks_48 : decode cX5_allPeaks 48 = .ok (.getfield 20, 3) := by decide +kernel
theorem dX5_allPeaks_51 : decode cX5_allPeaks 51 = .ok (.iload_n 3, 1) := by decide +kernel
theorem dX5_allPeaks_52 : decode cX5_allPeaks 52 = .ok (.invokevirtual 67, 3) := by decide +kernel
theorem dX5_allPeaks_55 : decode cX5_allPeaks 55 = .ok (.checkcast 7, 3) := by decide +kernel
theorem dX5_allPeaks_58 : decode cX5_allPeaks 58 = .ok (.astore 5, 2) := by decide +kernel
theorem dX5_allPeaks_60 : decode cX5_allPeaks 60 = .ok (.iconst 1, 1) := by decide +kernel
theorem dX5_allPeaks_61 : decode cX5_allPeaks 61 = .ok (.istore 6, 2) := by decide +kernel
theorem dX5_allPeaks_63 : decode cX5_allPeaks 63 = .ok (.iload 6, 2) := by decide +kernel
theorem dX5_allPeaks_65 : decode cX5_allPeaks 65 = .ok (.aload 4, 2) := by decide +kernel
theorem dX5_allPeaks_67 : decode cX5_allPeaks 67 = .ok (.invokevirtual 42, 3) := by decide +kernel
theorem dX5_allPeaks_70 : decode cX5_allPeaks 70 = .ok (.if_icmp .ge 163, 3) := by decide +kernel
theorem dX5_allPeaks_73 : decode cX5_allPeaks 73 = .ok (.iload 6, 2) := by decide +kernel
theorem dX5_allPeaks_75 : decode cX5_allPeaks 75 = .ok (.aload 5, 2) := by decide +kernel
theorem dX5_allPeaks_77 : decode cX5_allPeaks 77 = .ok (.invokevirtual 42, 3) := by decide +kernel
theorem dX5_allPeaks_80 : decode cX5_allPeaks 80 = .ok (.if_icmp .ge 153, 3) := by decide +kernel
theorem dX5_allPeaks_83 : decode cX5_allPeaks 83 = .ok (.aload 5, 2) := by decide +kernel
theorem dX5_allPeaks_85 : decode cX5_allPeaks 85 = .ok (.iconst 0, 1) := by decide +kernel
theorem dX5_allPeaks_86 : decode cX5_allPeaks 86 = .ok (.iload 6, 2) := by decide +kernel
theorem dX5_allPeaks_88 : decode cX5_allPeaks 88 = .ok (.invokevirtual 52, 3) := by decide +kernel
theorem dX5_allPeaks_91 : decode cX5_allPeaks 91 = .ok (.aload 4, 2) := by decide +kernel
theorem dX5_allPeaks_93 : decode cX5_allPeaks 93 = .ok (.aload 4, 2) := by decide +kernel
theorem dX5_allPeaks_95 : decode cX5_allPeaks 95 = .ok (.invokevirtual 42, 3) := by decide +kernel
theorem dX5_allPeaks_98 : decode cX5_allPeaks 98 = .ok (.iload 6, 2) := by decide +kernel
theorem dX5_allPeaks_100 : decode cX5_allPeaks 100 = .ok (.isub, 1) := by decide +kernel
theorem dX5_allPeaks_101 : decode cX5_allPeaks 101 = .ok (.invokestatic 79, 3) := by decide +kernel
theorem dX5_allPeaks_104 : decode cX5_allPeaks 104 = .ok (.ifCond .ne 6, 3) := by decide +kernel
theorem dX5_allPeaks_107 : decode cX5_allPeaks 107 = .ok (.goto 120, 3) := by decide +kernel
theorem dX5_allPeaks_110 : decode cX5_allPeaks 110 = .ok (.aload 5, 2) := by decide +kernel
theorem dX5_allPeaks_112 : decode cX5_allPeaks 112 = .ok (.iload 6, 2) := by decide +kernel
theorem dX5_allPeaks_114 : decode cX5_allPeaks 114 = .ok (.invokevirtual 60, 3) := by decide +kernel
theorem dX5_allPeaks_117 : decode cX5_allPeaks 117 = .ok (.astore 7, 2) := by decide +kernel
theorem dX5_allPeaks_119 : decode cX5_allPeaks 119 = .ok (.aload_n 1, 1) := by decide +kernel
theorem dX5_allPeaks_120 : decode cX5_allPeaks 120 = .ok (.iconst 3, 1) := by decide +kernel
theorem dX5_allPeaks_121 : decode cX5_allPeaks 121 = .ok (.anewarray 7, 3) := by decide +kernel
theorem dX5_allPeaks_124 : decode cX5_allPeaks 124 = .ok (.dup, 1) := by decide +kernel
theorem dX5_allPeaks_125 : decode cX5_allPeaks 125 = .ok (.iconst 0, 1) := by decide +kernel
theorem dX5_allPeaks_126 : decode cX5_allPeaks 126 = .ok (.new 49, 3) := by decide +kernel
theorem dX5_allPeaks_129 : decode cX5_allPeaks 129 = .ok (.dup, 1) := by decide +kernel
theorem dX5_allPeaks_130 : decode cX5_allPeaks 130 = .ok (.invokespecial 51, 3) := by decide +kernel
theorem dX5_allPeaks_133 : decode cX5_allPeaks 133 = .ok (.aload 4, 2) := by decide +kernel
theorem dX5_allPeaks_135 : decode cX5_allPeaks 135 = .ok (.invokevirtual 56, 3) := by decide +kernel
theorem dX5_allPeaks_138 : decode cX5_allPeaks 138 = .ok (.aload 7, 2) := by decide +kernel
theorem dX5_allPeaks_140 : decode cX5_allPeaks 140 = .ok (.invokevirtual 56, 3) := by decide +kernel
theorem dX5_allPeaks_143 : decode cX5_allPeaks 143 = .ok (.invokevirtual 63, 3) := by decide +kernel
theorem dX5_allPeaks_146 : decode cX5_allPeaks 146 = .ok (.aastore, 1) := by decide +kernel
theorem dX5_allPeaks_147 : decode cX5_allPeaks 147 = .ok (.dup, 1) := by decide +kernel
theorem dX5_allPeaks_148 : decode cX5_allPeaks 148 = .ok (.iconst 1, 1) := by decide +kernel
theorem dX5_allPeaks_149 : decode cX5_allPeaks 149 = .ok (.new 49, 3) := by decide +kernel
theorem dX5_allPeaks_152 : decode cX5_allPeaks 152 = .ok (.dup, 1) := by decide +kernel
theorem dX5_allPeaks_153 : decode cX5_allPeaks 153 = .ok (.invokespecial 51, 3) := by decide +kernel
theorem dX5_allPeaks_156 : decode cX5_allPeaks 156 = .ok (.aload_n 0, 1) := by decide +kernel
theorem dX5_allPeaks_157 : decode cX5_allPeaks 157 = .ok (.getfield 24, 3) := by decide +kernel
theorem dX5_allPeaks_160 : decode cX5_allPeaks 160 = .ok (.iload_n 2, 1) := by decide +kernel
theorem dX5_allPeaks_161 : decode cX5_allPeaks 161 = .ok (.invokevirtual 67, 3) := by decide +kernel
theorem dX5_allPeaks_164 : decode cX5_allPeaks 164 = .ok (.checkcast 7, 3) := by decide +kernel
theorem dX5_allPeaks_167 : decode cX5_allPeaks 167 = .ok (.invokevirtual 56, 3) := by decide +kernel
theorem dX5_allPeaks_170 : decode cX5_allPeaks 170 = .ok (.aload 7, 2) := by decide +kernel
theorem dX5_allPeaks_172 : decode cX5_allPeaks 172 = .ok (.invokevirtual 56, 3) := by decide +kernel
theorem dX5_allPeaks_175 : decode cX5_allPeaks 175 = .ok (.invokevirtual 63, 3) := by decide +kernel
theorem dX5_allPeaks_178 : decode cX5_allPeaks 178 = .ok (.aastore, 1) := by decide +kernel
theorem dX5_allPeaks_179 : decode cX5_allPeaks 179 = .ok (.dup, 1) := by decide +kernel
theorem dX5_allPeaks_180 : decode cX5_allPeaks 180 = .ok (.iconst 2, 1) := by decide +kernel
theorem dX5_allPeaks_181 : decode cX5_allPeaks 181 = .ok (.new 49, 3) := by decide +kernel
theorem dX5_allPeaks_184 : decode cX5_allPeaks 184 = .ok (.dup, 1) := by decide +kernel
theorem dX5_allPeaks_185 : decode cX5_allPeaks 185 = .ok (.invokespecial 51, 3) := by decide +kernel
theorem dX5_allPeaks_188 : decode cX5_allPeaks 188 = .ok (.aload 4, 2) := by decide +kernel
theorem dX5_allPeaks_190 : decode cX5_allPeaks 190 = .ok (.iconst 0, 1) := by decide +kernel
theorem dX5_allPeaks_191 : decode cX5_allPeaks 191 = .ok (.aload 4, 2) := by decide +kernel
theorem dX5_allPeaks_193 : decode cX5_allPeaks 193 = .ok (.invokevirtual 42, 3) := by decide +kernel
theorem dX5_allPeaks_196 : decode cX5_allPeaks 196 = .ok (.iload 6, 2) := by decide +kernel
theorem dX5_allPeaks_198 : decode cX5_allPeaks 198 = .ok (.isub, 1) := by decide +kernel
theorem dX5_allPeaks_199 : decode cX5_allPeaks 199 = .ok (.invokevirtual 52, 3) := by decide +kernel
theorem dX5_allPeaks_202 : decode cX5_allPeaks 202 = .ok (.invokevirtual 56, 3) := by decide +kernel
theorem dX5_allPeaks_205 : decode cX5_allPeaks 205 = .ok (.aload_n 0, 1) := by decide +kernel
theorem dX5_allPeaks_206 : decode cX5_allPeaks 206 = .ok (.getfield 24, 3) := by decide +kernel
theorem dX5_allPeaks_209 : decode cX5_allPeaks 209 = .ok (.iload_n 3, 1) := by decide +kernel
theorem dX5_allPeaks_210 : decode cX5_allPeaks 210 = .ok (.invokevirtual 67, 3) := by decide +kernel
theorem dX5_allPeaks_213 : decode cX5_allPeaks 213 = .ok (.checkcast 7, 3) := by decide +kernel
theorem dX5_allPeaks_216 : decode cX5_allPeaks 216 = .ok (.invokevirtual 56, 3) := by decide +kernel
theorem dX5_allPeaks_219 : decode cX5_allPeaks 219 = .ok (.invokevirtual 63, 3) := by decide +kernel
theorem dX5_allPeaks_222 : decode cX5_allPeaks 222 = .ok (.aastore, 1) := by decide +kernel
theorem dX5_allPeaks_223 : decode cX5_allPeaks 223 = .ok (.invokevirtual 83, 3) := by decide +kernel
theorem dX5_allPeaks_226 : decode cX5_allPeaks 226 = .ok (.pop, 1) := by decide +kernel
theorem dX5_allPeaks_227 : decode cX5_allPeaks 227 = .ok (.iinc 6 1, 3) := by decide +kernel
theorem dX5_allPeaks_230 : decode cX5_allPeaks 230 = .ok (.goto (-167), 3) := by decide +kernel
theorem dX5_allPeaks_233 : decode cX5_allPeaks 233 = .ok (.iconst 0, 1) := by decide +kernel
theorem dX5_allPeaks_234 : decode cX5_allPeaks 234 = .ok (.istore 6, 2) := by decide +kernel
theorem dX5_allPeaks_236 : decode cX5_allPeaks 236 = .ok (.iload_n 2, 1) := by decide +kernel
theorem dX5_allPeaks_237 : decode cX5_allPeaks 237 = .ok (.iload_n 3, 1) := by decide +kernel
theorem dX5_allPeaks_238 : decode cX5_allPeaks 238 = .ok (.if_icmp .eq 85, 3) := by decide +kernel
theorem dX5_allPeaks_241 : decode cX5_allPeaks 241 = .ok (.iload 6, 2) := by decide +kernel
theorem dX5_allPeaks_243 : decode cX5_allPeaks 243 = .ok (.aload 4, 2) := by decide +kernel
theorem dX5_allPeaks_245 : decode cX5_allPeaks 245 = .ok (.invokevirtual 42, 3) := by decide +kernel
theorem dX5_allPeaks_248 : decode cX5_allPeaks 248 = .ok (.if_icmp .ge 75, 3) := by decide +kernel
theorem dX5_allPeaks_251 : decode cX5_allPeaks 251 = .ok (.aload 5, 2) := by decide +kernel
theorem dX5_allPeaks_253 : decode cX5_allPeaks 253 = .ok (.aload 4, 2) := by decide +kernel
theorem dX5_allPeaks_255 : decode cX5_allPeaks 255 = .ok (.iload 6, 2) := by decide +kernel
theorem dX5_allPeaks_257 : decode cX5_allPeaks 257 = .ok (.invokestatic 79, 3) := by decide +kernel
theorem dX5_allPeaks_260 : decode cX5_allPeaks 260 = .ok (.ifCond .eq 57, 3) := by decide +kernel
theorem dX5_allPeaks_263 : decode cX5_allPeaks 263 = .ok (.aload_n 1, 1) := by decide +kernel
theorem dX5_allPeaks_264 : decode cX5_allPeaks 264 = .ok (.iconst 3, 1) := by decide +kernel
theorem dX5_allPeaks_265 : decode cX5_allPeaks 265 = .ok (.anewarray 7, 3) := by decide +kernel
theorem dX5_allPeaks_268 : decode cX5_allPeaks 268 = .ok (.dup, 1) := by decide +kernel
theorem dX5_allPeaks_269 : decode cX5_allPeaks 269 = .ok (.iconst 0, 1) := by decide +kernel
theorem dX5_allPeaks_270 : decode cX5_allPeaks 270 = .ok (.aload 4, 2) := by decide +kernel
theorem dX5_allPeaks_272 : decode cX5_allPeaks 272 = .ok (.aastore, 1) := by decide +kernel
theorem dX5_allPeaks_273 : decode cX5_allPeaks 273 = .ok (.dup, 1) := by decide +kernel
theorem dX5_allPeaks_274 : decode cX5_allPeaks 274 = .ok (.iconst 1, 1) := by decide +kernel
theorem dX5_allPeaks_275 : decode cX5_allPeaks 275 = .ok (.aload_n 0, 1) := by decide +kernel
theorem dX5_allPeaks_276 : decode cX5_allPeaks 276 = .ok (.getfield 24, 3) := by decide +kernel
theorem dX5_allPeaks_279 : decode cX5_allPeaks 279 = .ok (.iload_n 2, 1) := by decide +kernel
theorem dX5_allPeaks_280 : decode cX5_allPeaks 280 = .ok (.invokevirtual 67, 3) := by decide +kernel
theorem dX5_allPeaks_283 : decode cX5_allPeaks 283 = .ok (.checkcast 7, 3) := by decide +kernel
theorem dX5_allPeaks_286 : decode cX5_allPeaks 286 = .ok (.aastore, 1) := by decide +kernel
theorem dX5_allPeaks_287 : decode cX5_allPeaks 287 = .ok (.dup, 1) := by decide +kernel
theorem dX5_allPeaks_288 : decode cX5_allPeaks 288 = .ok (.iconst 2, 1) := by decide +kernel
theorem dX5_allPeaks_289 : decode cX5_allPeaks 289 = .ok (.aload 4, 2) := by decide +kernel
theorem dX5_allPeaks_291 : decode cX5_allPeaks 291 = .ok (.iload 6, 2) := by decide +kernel
theorem dX5_allPeaks_293 : decode cX5_allPeaks 293 = .ok (.aload 5, 2) := by decide +kernel
theorem dX5_allPeaks_295 : decode cX5_allPeaks 295 = .ok (.invokevirtual 42, 3) := by decide +kernel
theorem dX5_allPeaks_298 : decode cX5_allPeaks 298 = .ok (.aload_n 0, 1) := by decide +kernel
theorem dX5_allPeaks_299 : decode cX5_allPeaks 299 = .ok (.getfield 24, 3) := by decide +kernel
theorem dX5_allPeaks_302 : decode cX5_allPeaks 302 = .ok (.iload_n 3, 1) := by decide +kernel
theorem dX5_allPeaks_303 : decode cX5_allPeaks 303 = .ok (.invokevirtual 67, 3) := by decide +kernel
theorem dX5_allPeaks_306 : decode cX5_allPeaks 306 = .ok (.checkcast 7, 3) := by decide +kernel
theorem dX5_allPeaks_309 : decode cX5_allPeaks 309 = .ok (.invokestatic 87, 3) := by decide +kernel
theorem dX5_allPeaks_312 : decode cX5_allPeaks 312 = .ok (.aastore, 1) := by decide +kernel
theorem dX5_allPeaks_313 : decode cX5_allPeaks 313 = .ok (.invokevirtual 83, 3) := by decide +kernel
theorem dX5_allPeaks_316 : decode cX5_allPeaks 316 = .ok (.pop, 1) := by decide +kernel
theorem dX5_allPeaks_317 : decode cX5_allPeaks 317 = .ok (.iinc 6 1, 3) := by decide +kernel
theorem dX5_allPeaks_320 : decode cX5_allPeaks 320 = .ok (.goto (-84), 3) := by decide +kernel
theorem dX5_allPeaks_323 : decode cX5_allPeaks 323 = .ok (.iinc 3 1, 3) := by decide +kernel
theorem dX5_allPeaks_326 : decode cX5_allPeaks 326 = .ok (.goto (-303), 3) := by decide +kernel
theorem dX5_allPeaks_329 : decode cX5_allPeaks 329 = .ok (.iinc 2 1, 3) := by decide +kernel
theorem dX5_allPeaks_332 : decode cX5_allPeaks 332 = .ok (.goto (-322), 3) := by decide +kernel
theorem dX5_allPeaks_335 : decode cX5_allPeaks 335 = .ok (.aload_n 1, 1) := by decide +kernel
theorem dX5_allPeaks_336 : decode cX5_allPeaks 336 = .ok (.areturn, 1) := by decide +kernel
set_option maxRecDepth 20000 in
theorem ggX5_unmetNow_X5_allPeaks : GoodIn wsX5_unmetNow wsX5_allPeaks := goodIn_r _ [6, 7, 8, 9, 10, 11, 12, 13, 14, 15, 16, 17, 18, 19, 20, 21, 22, 23, 24, 25, 26, 27, 28, 29, 30, 31, 32, 33, 34, 35, 36, 37, 38, 39, 40, 41, 42, 43, 44, 45, 46, 47, 48, 49, 50, 51, 52, 53, 54, 55, 56, 57, 58, 59, 60, 61, 62, 63, 64, 65, 66, 67, 68, 69, 70, 71, 72, 73, 74, 75, 76, 77, 78, 79, 80, 81, 82, 83, 84, 85, 86, 87, 88, 89, 90, 91, 92, 93, 94, 95, 96, 97, 98, 99, 100, 101, 102, 103, 104, 105, 106, 107, 108, 109, 110, 111, 112, 113, 114, 115, 116, 117, 118, 119, 120, 121, 122, 123, 124, 125, 126, 127, 128, 129, 130, 131, 132, 133, 134, 135, 136, 137, 138, 139, 140, 141, 142, 143, 144, 145, 146, 147, 148, 149, 150, 151, 152, 153, 154, 155, 156, 157, 158, 159, 5, 160, 161, 162, 163, 164, 165, 166, 167, 168, 169, 170, 171, 172, 173, 174, 175, 176, 177, 178, 179, 180, 181, 182, 183, 184, 185, 186, 187, 188, 189, 190, 191, 192, 193, 194, 195, 196, 197, 198, 199, 200, 201, 202, 203, 204, 205, 206, 207, 208, 209, 210, 211, 212, 213, 214, 215, 216, 217, 218, 219, 220, 221, 222, 223, 224, 225, 226, 227, 228, 229, 230, 231, 232, 233, 234, 235, 236, 237, 238, 239, 240, 241, 242, 243, 244, 245, 246, 247, 248, 249, 250, 251, 252, 253, 254, 255, 256, 257, 258, 259, 260, 261, 262, 263, 264, 265, 266, 267, 268, 269, 270, 271, 272, 273, 274, 275, 276, 277, 278, 279, 280, 281, 282, 283, 284, 285, 286, 287, 288, 289, 290, 291, 292, 293, 294, 295, 296, 297, 298, 299, 300, 301, 302, 303, 304, 305, 306, 307, 308, 309, 310, 311, 312, 313, 314, 315, 316, 317, 318, 319, 320, 321, 322, 323, 324, 325, 326, 327, 328, 329, 330, 331, 332, 333, 334, 335, 336, 337, 338, 339, 340, 341, 342, 343, 344, 345, 346, 347, 377, 378, 379, 380, 381, 382, 383, 384, 385, 386, 387, 388, 389, 390, 391, 392, 393, 394] (by decide +kernel) (by decide +kernel)
set_option maxRecDepth 20000 in
theorem gX5_unmetNow_X5_allPeaks : GoodIn wsX5_unmetNow (wsV RX5 110 RX5 yX5_allPeaks wsX5_allPeaks) := goodIn_app (goodIn_of _ (by decide +kernel)) ggX5_unmetNow_X5_allPeaks
set_option maxRecDepth 20000 in
theorem ggX5_unmetNow_Jx4a65c_size_8abf5 : GoodIn wsX5_unmetNow wsJx4a65c_size_8abf5 := goodIn_r _ [37, 38, 377, 378, 379] (by decide +kernel) (by decide +kernel)
set_option maxRecDepth 20000 in
theorem gX5_unmetNow_Jx4a65c_size_8abf5 : GoodIn wsX5_unmetNow (wsV RX5 35 RJx4a65c yJx4a65c_size_8abf5 wsJx4a65c_size_8abf5) := goodIn_app (goodIn_of _ (by decide +kernel)) ggX5_unmetNow_Jx4a65c_size_8abf5
set_option maxRecDepth 20000 in
theorem ggX5_unmetNow_Jx4a65c_get_915e3 : GoodIn wsX5_unmetNow wsJx4a65c_get_915e3 := goodIn_r _ [42, 38, 43, 44, 45, 46, 47, 48, 49, 50, 51, 52, 53, 9, 54, 21, 377, 378, 379] (by decide +kernel) (by decide +kernel)
set_option maxRecDepth 20000 in
theorem gX5_unmetNow_Jx4a65c_get_915e3 : GoodIn wsX5_unmetNow (wsV RX5 67 RJx4a65c yJx4a65c_get_915e3 wsJx4a65c_get_915e3) := goodIn_app (goodIn_of _ (by decide +kernel)) ggX5_unmetNow_Jx4a65c_get_915e3
theorem dX5_unmetNow_0 : decode cX5_unmetNow 0 = .ok (.aload_n 0, 1) := by decide +kernel
theorem dX5_unmetNow_1 : decode cX5_unmetNow 1 = .ok (.invokevirtual 110, 3) := by decide +kernel
theorem dX5_unmetNow_4 : decode cX5_unmetNow 4 = .ok (.astore_n 1, 1) := by decide +kernel
theorem dX5_unmetNow_5 : decode cX5_unmetNow 5 = .ok (.iconst 0, 1) := by decide +kernel
theorem dX5_unmetNow_6 : decode cX5_unmetNow 6 = .ok (.istore_n 2, 1) := by decide +kernel
theorem dX5_unmetNow_7 : decode cX5_unmetNow 7 = .ok (.iload_n 2, 1) := by decide +kernel
theorem dX5_unmetNow_8 : decode cX5_unmetNow 8 = .ok (.aload_n 1, 1) := by decide +kernel
theorem dX5_unmetNow_9 : decode cX5_unmetNow 9 = .ok (.invokevirtual 35, 3) := by decide +kernel
theorem dX5_unmetNow_12 : decode cX5_unmetNow 12 = .ok (.if_icmp .ge 26, 3) := by decide +kernel
theorem dX5_unmetNow_15 : decode cX5_unmetNow 15 = .ok (.aload_n 0, 1) := by decide +kernel
theorem dX5_unmetNow_16 : decode cX5_unmetNow 16 = .ok (.aload_n 1, 1) := by decide +kernel
theorem dX5_unmetNow_17 : decode cX5_unmetNow 17 = .ok (.iload_n 2, 1) := by decide +kernel
theorem dX5_unmetNow_18 : decode cX5_unmetNow 18 = .ok (.invokevirtual 67, 3) := by decide +kernel
theorem dX5_unmetNow_21 : decode cX5_unmetNow 21 = .ok (.checkcast 114, 3) := by decide +kernel
theorem dX5_unmetNow_24 : decode cX5_unmetNow 24 = .ok (.invokevirtual 115, 3) := by decide +kernel
theorem dX5_unmetNow_27 : decode cX5_unmetNow 27 = .ok (.ifCond .ne 5, 3) := by decide +kernel
theorem dX5_unmetNow_30 : decode cX5_unmetNow 30 = .ok (.iload_n 2, 1) := by decide +kernel
theorem dX5_unmetNow_31 : decode cX5_unmetNow 31 = .ok (.ireturn, 1) := by decide +kernel
theorem dX5_unmetNow_32 : decode cX5_unmetNow 32 = .ok (.iinc 2 1, 3) := by decide +kernel
theorem dX5_unmetNow_35 : decode cX5_unmetNow 35 = .ok (.goto (-28), 3) := by decide +kernel
theorem dX5_unmetNow_38 : decode cX5_unmetNow 38 = .ok (.iconst (-1), 1) := by decide +kernel
theorem dX5_unmetNow_39 : decode cX5_unmetNow 39 = .ok (.ireturn, 1) := by decide +kernel
set_option maxRecDepth 20000 in
theorem ggX5_clear_X5_isNo : GoodIn wsX5_clear wsX5_isNo := goodIn_r _ [5, 6, 7, 4, 8] (by decide +kernel) (by decide +kernel)
set_option maxRecDepth 20000 in
theorem gX5_clear_X5_isNo : GoodIn wsX5_clear (va_wsS RX5 124 yX5_isNo wsX5_isNo) := goodIn_app (goodIn_of _ (by decide +kernel)) ggX5_clear_X5_isNo
set_option maxRecDepth 20000 in
theorem ggX5_clear_X5_fails : GoodIn wsX5_clear wsX5_fails := goodIn_r _ [12, 13, 26, 27, 28, 29, 30, 31, 32] (by decide +kernel) (by decide +kernel)
set_option maxRecDepth 20000 in
theorem gX5_clear_X5_fails : GoodIn wsX5_clear (wsV RX5 127 RX5 yX5_fails wsX5_fails) := goodIn_app (goodIn_of _ (by decide +kernel)) ggX5_clear_X5_fails
set_option maxRecDepth 20000 in
theorem ggX5_clear_J0_length_8abf5 : GoodIn wsX5_clear wsJ0_length_8abf5 := goodIn_r _ [18, 19, 20, 21, 22, 17, 23, 24, 25, 33, 34, 35, 36] (by decide +kernel) (by decide +kernel)
set_option maxRecDepth 20000 in
theorem gX5_clear_J0_length_8abf5 : GoodIn wsX5_clear (wsV RX5 42 RJ0 yJ0_length_8abf5 wsJ0_length_8abf5) := goodIn_app (goodIn_of _ (by decide +kernel)) ggX5_clear_J0_length_8abf5
theorem dX5_clear_0 : decode cX5_clear 0 = .ok (.aload_n 0, 1) := by decide +kernel
theorem dX5_clear_1 : decode cX5_clear 1 = .ok (.iload_n 1, 1) := by decide +kernel
theorem dX5_clear_2 : decode cX5_clear 2 = .ok (.invokestatic 124, 3) := by decide +kernel
theorem dX5_clear_5 : decode cX5_clear 5 = .ok (.iconst 0, 1) := by decide +kernel
theorem dX5_clear_6 : decode cX5_clear 6 = .ok (.iconst 0, 1) := by decide +kernel
theorem dX5_clear_7 : decode cX5_clear 7 = .ok (.invokevirtual 127, 3) := by decide +kernel
theorem dX5_clear_10 : decode cX5_clear 10 = .ok (.ifCond .eq 5, 3) := by decide +kernel
theorem dX5_clear_13 : decode cX5_clear 13 = .ok (.iconst 0, 1) := by decide +kernel
theorem dX5_clear_14 : decode cX5_clear 14 = .ok (.ireturn, 1) := by decide +kernel
theorem dX5_clear_15 : decode cX5_clear 15 = .ok (.aload_n 0, 1) := by decide +kernel
theorem dX5_clear_16 : decode cX5_clear 16 = .ok (.getfield 11, 3) := by decide +kernel
theorem dX5_clear_19 : decode cX5_clear 19 = .ok (.iload_n 1, 1) := by decide +kernel
theorem dX5_clear_20 : decode cX5_clear 20 = .ok (.aaload, 1) := by decide +kernel
theorem dX5_clear_21 : decode cX5_clear 21 = .ok (.invokevirtual 42, 3) := by decide +kernel
theorem dX5_clear_24 : decode cX5_clear 24 = .ok (.istore_n 2, 1) := by decide +kernel
theorem dX5_clear_25 : decode cX5_clear 25 = .ok (.aload_n 0, 1) := by decide +kernel
theorem dX5_clear_26 : decode cX5_clear 26 = .ok (.getfield 11, 3) := by decide +kernel
theorem dX5_clear_29 : decode cX5_clear 29 = .ok (.iload_n 1, 1) := by decide +kernel
theorem dX5_clear_30 : decode cX5_clear 30 = .ok (.ldc 9, 2) := by decide +kernel
theorem dX5_clear_32 : decode cX5_clear 32 = .ok (.aastore, 1) := by decide +kernel
theorem dX5_clear_33 : decode cX5_clear 33 = .ok (.iload_n 2, 1) := by decide +kernel
theorem dX5_clear_34 : decode cX5_clear 34 = .ok (.ireturn, 1) := by decide +kernel
set_option maxRecDepth 20000 in
theorem ggX5_copy_X5_isNo : GoodIn wsX5_copy wsX5_isNo := goodIn_r _ [5, 6, 7, 4, 8] (by decide +kernel) (by decide +kernel)
set_option maxRecDepth 20000 in
theorem gX5_copy_X5_isNo : GoodIn wsX5_copy (va_wsS RX5 124 yX5_isNo wsX5_isNo) := goodIn_app (goodIn_of _ (by decide +kernel)) ggX5_copy_X5_isNo
set_option maxRecDepth 20000 in
theorem ggX5_copy_X5_fails : GoodIn wsX5_copy wsX5_fails := goodIn_r _ [12, 13, 26, 27, 28, 29, 30, 31, 32] (by decide +kernel) (by decide +kernel)
set_option maxRecDepth 20000 in
theorem gX5_copy_X5_fails : GoodIn wsX5_copy (wsV RX5 127 RX5 yX5_fails wsX5_fails) := goodIn_app (goodIn_of _ (by decide +kernel)) ggX5_copy_X5_fails
set_option maxRecDepth 20000 in
theorem ggX5_copy_J0_length_8abf5 : GoodIn wsX5_copy wsJ0_length_8abf5 := goodIn_r _ [18, 19, 20, 21, 22, 17, 23, 24, 25, 33, 34, 35, 36] (by decide +kernel) (by decide +kernel)
set_option maxRecDepth 20000 in
theorem gX5_copy_J0_length_8abf5 : GoodIn wsX5_copy (wsV RX5 42 RJ0 yJ0_length_8abf5 wsJ0_length_8abf5) := goodIn_app (goodIn_of _ (by decide +kernel)) ggX5_copy_J0_length_8abf5
theorem dX5_copy_0 : decode cX5_copy 0 = .ok (.aload_n 0, 1) := by decide +kernel
theorem dX5_copy_1 : decode cX5_copy 1 = .ok (.iload_n 1, 1) := by decide +kernel
theorem dX5_copy_2 : decode cX5_copy 2 = .ok (.invokestatic 124, 3) := by decide +kernel
theorem dX5_copy_5 : decode cX5_copy 5 = .ok (.ifCond .ne 10, 3) := by decide +kernel
theorem dX5_copy_8 : decode cX5_copy 8 = .ok (.iload_n 2, 1) := by decide +kernel
theorem dX5_copy_9 : decode cX5_copy 9 = .ok (.invokestatic 124, 3) := by decide +kernel
theorem dX5_copy_12 : decode cX5_copy 12 = .ok (.ifCond .eq 7, 3) := by decide +kernel
theorem dX5_copy_15 : decode cX5_copy 15 = .ok (.iconst 1, 1) := by decide +kernel
theorem dX5_copy_16 : decode cX5_copy 16 = .ok (.goto 4, 3) := by decide +kernel
theorem dX5_copy_19 : decode cX5_copy 19 = .ok (.iconst 0, 1) := by decide +kernel
theorem dX5_copy_20 : decode cX5_copy 20 = .ok (.iconst 0, 1) := by decide +kernel
theorem dX5_copy_21 : decode cX5_copy 21 = .ok (.iconst 0, 1) := by decide +kernel
theorem dX5_copy_22 : decode cX5_copy 22 = .ok (.invokevirtual 127, 3) := by decide +kernel
theorem dX5_copy_25 : decode cX5_copy 25 = .ok (.ifCond .eq 5, 3) := by decide +kernel
theorem dX5_copy_28 : decode cX5_copy 28 = .ok (.iconst 0, 1) := by decide +kernel
theorem dX5_copy_29 : decode cX5_copy 29 = .ok (.ireturn, 1) := by decide +kernel
theorem dX5_copy_30 : decode cX5_copy 30 = .ok (.aload_n 0, 1) := by decide +kernel
theorem dX5_copy_31 : decode cX5_copy 31 = .ok (.getfield 11, 3) := by decide +kernel
theorem dX5_copy_34 : decode cX5_copy 34 = .ok (.iload_n 1, 1) := by decide +kernel
theorem dX5_copy_35 : decode cX5_copy 35 = .ok (.aload_n 0, 1) := by decide +kernel
theorem dX5_copy_36 : decode cX5_copy 36 = .ok (.getfield 11, 3) := by decide +kernel
theorem dX5_copy_39 : decode cX5_copy 39 = .ok (.iload_n 2, 1) := by decide +kernel
theorem dX5_copy_40 : decode cX5_copy 40 = .ok (.aaload, 1) := by decide +kernel
theorem dX5_copy_41 : decode cX5_copy 41 = .ok (.aastore, 1) := by decide +kernel
theorem dX5_copy_42 : decode cX5_copy 42 = .ok (.aload_n 0, 1) := by decide +kernel
theorem dX5_copy_43 : decode cX5_copy 43 = .ok (.getfield 11, 3) := by decide +kernel
theorem dX5_copy_46 : decode cX5_copy 46 = .ok (.iload_n 1, 1) := by decide +kernel
theorem dX5_copy_47 : decode cX5_copy 47 = .ok (.aaload, 1) := by decide +kernel
theorem dX5_copy_48 : decode cX5_copy 48 = .ok (.invokevirtual 42, 3) := by decide +kernel
theorem dX5_copy_51 : decode cX5_copy 51 = .ok (.ireturn, 1) := by decide +kernel
set_option maxRecDepth 20000 in
theorem ggX5_lay_X5_isNo : GoodIn wsX5_lay wsX5_isNo := goodIn_r _ [5, 6, 7, 4, 8] (by decide +kernel) (by decide +kernel)
set_option maxRecDepth 20000 in
theorem gX5_lay_X5_isNo : GoodIn wsX5_lay (va_wsS RX5 124 yX5_isNo wsX5_isNo) := goodIn_app (goodIn_of _ (by decide +kernel)) ggX5_lay_X5_isNo
set_option maxRecDepth 20000 in
theorem ggX5_lay_J0_length_8abf5 : GoodIn wsX5_lay wsJ0_length_8abf5 := goodIn_r _ [13, 14, 15, 16, 17, 12, 18, 19, 20, 271, 272, 273, 274] (by decide +kernel) (by decide +kernel)
set_option maxRecDepth 20000 in
theorem gX5_lay_J0_length_8abf5 : GoodIn wsX5_lay (wsV RX5 42 RJ0 yJ0_length_8abf5 wsJ0_length_8abf5) := goodIn_app (goodIn_of _ (by decide +kernel)) ggX5_lay_J0_length_8abf5
set_option maxRecDepth 20000 in
theorem ggX5_lay_X5_isIn : GoodIn wsX5_lay wsX5_isIn := goodIn_r _ [8] (by decide +kernel) (by decide +kernel)
set_option maxRecDepth 20000 in
theorem gX5_lay_X5_isIn : GoodIn wsX5_lay (va_wsS RX5 31 yX5_isIn wsX5_isIn) := goodIn_app (goodIn_of _ (by decide +kernel)) ggX5_lay_X5_isIn
set_option maxRecDepth 20000 in
theorem ggX5_lay_X5_fails : GoodIn wsX5_lay wsX5_fails := goodIn_r _ [24, 25, 264, 265, 266, 267, 268, 269, 270] (by decide +kernel) (by decide +kernel)
set_option maxRecDepth 20000 in
theorem gX5_lay_X5_fails : GoodIn wsX5_lay (wsV RX5 127 RX5 yX5_fails wsX5_fails) := goodIn_app (goodIn_of _ (by decide +kernel)) ggX5_lay_X5_fails
set_option maxRecDepth 20000 in
theorem ggX5_lay_X5_changed : GoodIn wsX5_lay wsX5_changed := goodIn_r _ [28, 29, 30, 31, 32, 33, 34, 35, 36, 37, 38, 39, 40, 41, 42, 43, 44, 45, 46, 47, 48, 49, 50, 51, 52, 53, 54, 55, 56, 12, 57, 14, 58, 10, 11, 13, 15, 16, 17, 18, 19, 20, 59, 60, 61, 62, 63, 64, 65, 66, 67, 68, 69, 70, 71, 72, 73, 74, 75, 76, 77, 78, 79, 80, 81, 82, 83, 84, 85, 86, 87, 88, 89, 90, 91, 92, 93, 94, 95, 96, 97, 98, 99, 100, 101, 102, 103, 104, 105, 106, 107, 108, 109, 110, 111, 112, 113, 114, 115, 116, 117, 118, 119, 120, 121, 122, 123, 124, 125, 126, 127, 128, 129, 130, 131, 132, 133, 134, 135, 136, 137, 138, 139, 140, 141, 142, 143, 144, 145, 146, 147, 148, 149, 150, 151, 152, 153, 154, 155, 156, 157, 158, 159, 160, 161, 162, 163, 164, 165, 166, 167, 168, 169, 170, 171, 172, 173, 174, 175, 176, 177, 178, 179, 180, 181, 182, 183, 184, 185, 186, 187, 188, 189, 190, 191, 192, 193, 194, 195, 196, 197, 198, 199, 200, 201, 202, 203, 204, 205, 206, 207, 208, 209, 210, 211, 212, 213, 214, 215, 216, 217, 218, 219, 220, 221, 222, 223, 224, 225, 226, 227, 228, 229, 230, 231, 232, 233, 234, 235, 236, 237, 238, 239, 240, 241, 242, 243, 244, 245, 246, 247, 248, 249, 250, 251, 252, 253, 254, 255, 256, 257, 258, 275, 276, 277, 278, 271, 272, 273, 274] (by decide +kernel) (by decide +kernel)
set_option maxRecDepth 20000 in
theorem gX5_lay_X5_changed : GoodIn wsX5_lay (va_wsS RX5 87 yX5_changed wsX5_changed) := goodIn_app (goodIn_of _ (by decide +kernel)) ggX5_lay_X5_changed
set_option maxRecDepth 20000 in
theorem ggX5_lay_X5_refuse : GoodIn wsX5_lay wsX5_refuse := goodIn_r _ [262, 263, 264, 265, 266, 267, 268, 269, 270] (by decide +kernel) (by decide +kernel)
set_option maxRecDepth 20000 in
theorem gX5_lay_X5_refuse : GoodIn wsX5_lay (wsV RX5 131 RX5 yX5_refuse wsX5_refuse) := goodIn_app (goodIn_of _ (by decide +kernel)) ggX5_lay_X5_refuse
theorem dX5_lay_0 : decode cX5_lay 0 = .ok (.aload_n 0, 1) := by decide +kernel
theorem dX5_lay_1 : decode cX5_lay 1 = .ok (.iload_n 1, 1) := by decide +kernel
theorem dX5_lay_2 : decode cX5_lay 2 = .ok (.invokestatic 124, 3) := by decide +kernel
theorem dX5_lay_5 : decode cX5_lay 5 = .ok (.ifCond .ne 27, 3) := by decide +kernel
theorem dX5_lay_8 : decode cX5_lay 8 = .ok (.iload_n 3, 1) := by decide +kernel
theorem dX5_lay_9 : decode cX5_lay 9 = .ok (.invokestatic 124, 3) := by decide +kernel
theorem dX5_lay_12 : decode cX5_lay 12 = .ok (.ifCond .ne 20, 3) := by decide +kernel
theorem dX5_lay_15 : decode cX5_lay 15 = .ok (.iload_n 2, 1) := by decide +kernel
theorem dX5_lay_16 : decode cX5_lay 16 = .ok (.iconst 0, 1) := by decide +kernel
theorem dX5_lay_17 : decode cX5_lay 17 = .ok (.aload_n 0, 1) := by decide +kernel
theorem dX5_lay_18 : decode cX5_lay 18 = .ok (.getfield 11, 3) := by decide +kernel
theorem dX5_lay_21 : decode cX5_lay 21 = .ok (.iload_n 1, 1) := by decide +kernel
theorem dX5_lay_22 : decode cX5_lay 22 = .ok (.aaload, 1) := by decide +kernel
theorem dX5_lay_23 : decode cX5_lay 23 = .ok (.invokevirtual 42, 3) := by decide +kernel
theorem dX5_lay_26 : decode cX5_lay 26 = .ok (.invokestatic 31, 3) := by decide +kernel
theorem dX5_lay_29 : decode cX5_lay 29 = .ok (.ifCond .ne 7, 3) := by decide +kernel
theorem dX5_lay_32 : decode cX5_lay 32 = .ok (.iconst 1, 1) := by decide +kernel
theorem dX5_lay_33 : decode cX5_lay 33 = .ok (.goto 4, 3) := by decide +kernel
theorem dX5_lay_36 : decode cX5_lay 36 = .ok (.iconst 0, 1) := by decide +kernel
theorem dX5_lay_37 : decode cX5_lay 37 = .ok (.iconst 0, 1) := by decide +kernel
theorem dX5_lay_38 : decode cX5_lay 38 = .ok (.iconst 0, 1) := by decide +kernel
theorem dX5_lay_39 : decode cX5_lay 39 = .ok (.invokevirtual 127, 3) := by decide +kernel
theorem dX5_lay_42 : decode cX5_lay 42 = .ok (.ifCond .eq 5, 3) := by decide +kernel
theorem dX5_lay_45 : decode cX5_lay 45 = .ok (.iconst 0, 1) := by decide +kernel
theorem dX5_lay_46 : decode cX5_lay 46 = .ok (.ireturn, 1) := by decide +kernel
theorem dX5_lay_47 : decode cX5_lay 47 = .ok (.aload_n 0, 1) := by decide +kernel
theorem dX5_lay_48 : decode cX5_lay 48 = .ok (.getfield 11, 3) := by decide +kernel
theorem dX5_lay_51 : decode cX5_lay 51 = .ok (.iload_n 1, 1) := by decide +kernel
theorem dX5_lay_52 : decode cX5_lay 52 = .ok (.aaload, 1) := by decide +kernel
theorem dX5_lay_53 : decode cX5_lay 53 = .ok (.iload_n 2, 1) := by decide +kernel
theorem dX5_lay_54 : decode cX5_lay 54 = .ok (.iconst 0, 1) := by decide +kernel
theorem dX5_lay_55 : decode cX5_lay 55 = .ok (.aload_n 0, 1) := by decide +kernel
theorem dX5_lay_56 : decode cX5_lay 56 = .ok (.getfield 11, 3) := by decide +kernel
theorem dX5_lay_59 : decode cX5_lay 59 = .ok (.iload_n 3, 1) := by decide +kernel
theorem dX5_lay_60 : decode cX5_lay 60 = .ok (.aaload, 1) := by decide +kernel
theorem dX5_lay_61 : decode cX5_lay 61 = .ok (.invokestatic 87, 3) := by decide +kernel
theorem dX5_lay_64 : decode cX5_lay 64 = .ok (.astore 4, 2) := by decide +kernel
theorem dX5_lay_66 : decode cX5_lay 66 = .ok (.aload 4, 2) := by decide +kernel
theorem dX5_lay_68 : decode cX5_lay 68 = .ok (.invokevirtual 42, 3) := by decide +kernel
theorem dX5_lay_71 : decode cX5_lay 71 = .ok (.bipush 32, 2) := by decide +kernel
theorem dX5_lay_73 : decode cX5_lay 73 = .ok (.if_icmp .le 8, 3) := by decide +kernel
theorem dX5_lay_76 : decode cX5_lay 76 = .ok (.aload_n 0, 1) := by decide +kernel
theorem dX5_lay_77 : decode cX5_lay 77 = .ok (.invokevirtual 131, 3) := by decide +kernel
theorem dX5_lay_80 : decode cX5_lay 80 = .ok (.ireturn, 1) := by decide +kernel
theorem dX5_lay_81 : decode cX5_lay 81 = .ok (.aload_n 0, 1) := by decide +kernel
theorem dX5_lay_82 : decode cX5_lay 82 = .ok (.getfield 11, 3) := by decide +kernel
theorem dX5_lay_85 : decode cX5_lay 85 = .ok (.iload_n 1, 1) := by decide +kernel
theorem dX5_lay_86 : decode cX5_lay 86 = .ok (.aload 4, 2) := by decide +kernel
theorem dX5_lay_88 : decode cX5_lay 88 = .ok (.aastore, 1) := by decide +kernel
theorem dX5_lay_89 : decode cX5_lay 89 = .ok (.aload 4, 2) := by decide +kernel
theorem dX5_lay_91 : decode cX5_lay 91 = .ok (.invokevirtual 42, 3) := by decide +kernel
theorem dX5_lay_94 : decode cX5_lay 94 = .ok (.ireturn, 1) := by decide +kernel
set_option maxRecDepth 20000 in
theorem ggX5_cut_X5_isNo : GoodIn wsX5_cut wsX5_isNo := goodIn_r _ [5, 6, 7, 4, 8] (by decide +kernel) (by decide +kernel)
set_option maxRecDepth 20000 in
theorem gX5_cut_X5_isNo : GoodIn wsX5_cut (va_wsS RX5 124 yX5_isNo wsX5_isNo) := goodIn_app (goodIn_of _ (by decide +kernel)) ggX5_cut_X5_isNo
set_option maxRecDepth 20000 in
theorem ggX5_cut_J0_length_8abf5 : GoodIn wsX5_cut wsJ0_length_8abf5 := goodIn_r _ [13, 14, 15, 16, 17, 12, 18, 19, 20, 266, 267, 268, 269] (by decide +kernel) (by decide +kernel)
set_option maxRecDepth 20000 in
theorem gX5_cut_J0_length_8abf5 : GoodIn wsX5_cut (wsV RX5 42 RJ0 yJ0_length_8abf5 wsJ0_length_8abf5) := goodIn_app (goodIn_of _ (by decide +kernel)) ggX5_cut_J0_length_8abf5
set_option maxRecDepth 20000 in
theorem ggX5_cut_X5_isIn : GoodIn wsX5_cut wsX5_isIn := goodIn_r _ [8] (by decide +kernel) (by decide +kernel)
set_option maxRecDepth 20000 in
theorem gX5_cut_X5_isIn : GoodIn wsX5_cut (va_wsS RX5 31 yX5_isIn wsX5_isIn) := goodIn_app (goodIn_of _ (by decide +kernel)) ggX5_cut_X5_isIn
set_option maxRecDepth 20000 in
theorem ggX5_cut_X5_fails : GoodIn wsX5_cut wsX5_fails := goodIn_r _ [24, 25, 259, 260, 261, 262, 263, 264, 265] (by decide +kernel) (by decide +kernel)
set_option maxRecDepth 20000 in
theorem gX5_cut_X5_fails : GoodIn wsX5_cut (wsV RX5 127 RX5 yX5_fails wsX5_fails) := goodIn_app (goodIn_of _ (by decide +kernel)) ggX5_cut_X5_fails
set_option maxRecDepth 20000 in
theorem ggX5_cut_X5_changed : GoodIn wsX5_cut wsX5_changed := goodIn_r _ [28, 29, 30, 31, 32, 33, 34, 35, 36, 37, 38, 39, 40, 41, 42, 43, 44, 45, 46, 47, 48, 49, 50, 51, 52, 53, 54, 55, 56, 12, 57, 14, 58, 10, 11, 13, 15, 16, 17, 18, 19, 20, 59, 60, 61, 62, 63, 64, 65, 66, 67, 68, 69, 70, 71, 72, 73, 74, 75, 76, 77, 78, 79, 80, 81, 82, 83, 84, 85, 86, 87, 88, 89, 90, 91, 92, 93, 94, 95, 96, 97, 98, 99, 100, 101, 102, 103, 104, 105, 106, 107, 108, 109, 110, 111, 112, 113, 114, 115, 116, 117, 118, 119, 120, 121, 122, 123, 124, 125, 126, 127, 128, 129, 130, 131, 132, 133, 134, 135, 136, 137, 138, 139, 140, 141, 142, 143, 144, 145, 146, 147, 148, 149, 150, 151, 152, 153, 154, 155, 156, 157, 158, 159, 160, 161, 162, 163, 164, 165, 166, 167, 168, 169, 170, 171, 172, 173, 174, 175, 176, 177, 178, 179, 180, 181, 182, 183, 184, 185, 186, 187, 188, 189, 190, 191, 192, 193, 194, 195, 196, 197, 198, 199, 200, 201, 202, 203, 204, 205, 206, 207, 208, 209, 210, 211, 212, 213, 214, 215, 216, 217, 218, 219, 220, 221, 222, 223, 224, 225, 226, 227, 228, 229, 230, 231, 232, 233, 234, 235, 236, 237, 238, 239, 240, 241, 242, 243, 244, 245, 246, 247, 248, 249, 250, 251, 252, 253, 254, 255, 256, 257, 258, 270, 271, 272, 273, 266, 267, 268, 269] (by decide +kernel) (by decide +kernel)
set_option maxRecDepth 20000 in
theorem gX5_cut_X5_changed : GoodIn wsX5_cut (va_wsS RX5 87 yX5_changed wsX5_changed) := goodIn_app (goodIn_of _ (by decide +kernel)) ggX5_cut_X5_changed
theorem dX5_cut_0 : decode cX5_cut 0 = .ok (.aload_n 0, 1) := by decide +kernel
theorem dX5_cut_1 : decode cX5_cut 1 = .ok (.iload_n 1, 1) := by decide +kernel
theorem dX5_cut_2 : decode cX5_cut 2 = .ok (.invokestatic 124, 3) := by decide +kernel
theorem dX5_cut_5 : decode cX5_cut 5 = .ok (.ifCond .ne 37, 3) := by decide +kernel
theorem dX5_cut_8 : decode cX5_cut 8 = .ok (.iload_n 2, 1) := by decide +kernel
theorem dX5_cut_9 : decode cX5_cut 9 = .ok (.iconst 0, 1) := by decide +kernel
theorem dX5_cut_10 : decode cX5_cut 10 = .ok (.aload_n 0, 1) := by decide +kernel
theorem dX5_cut_11 : decode cX5_cut 11 = .ok (.getfield 11, 3) := by decide +kernel
theorem dX5_cut_14 : decode cX5_cut 14 = .ok (.iload_n 1, 1) := by decide +kernel
theorem dX5_cut_15 : decode cX5_cut 15 = .ok (.aaload, 1) := by decide +kernel
theorem dX5_cut_16 : decode cX5_cut 16 = .ok (.invokevirtual 42, 3) := by decide +kernel
theorem dX5_cut_19 : decode cX5_cut 19 = .ok (.invokestatic 31, 3) := by decide +kernel
theorem dX5_cut_22 : decode cX5_cut 22 = .ok (.ifCond .eq 20, 3) := by decide +kernel
theorem dX5_cut_25 : decode cX5_cut 25 = .ok (.iload_n 3, 1) := by decide +kernel
theorem dX5_cut_26 : decode cX5_cut 26 = .ok (.iconst 0, 1) := by decide +kernel
theorem dX5_cut_27 : decode cX5_cut 27 = .ok (.aload_n 0, 1) := by decide +kernel
theorem dX5_cut_28 : decode cX5_cut 28 = .ok (.getfield 11, 3) := by decide +kernel
theorem dX5_cut_31 : decode cX5_cut 31 = .ok (.iload_n 1, 1) := by decide +kernel
theorem dX5_cut_32 : decode cX5_cut 32 = .ok (.aaload, 1) := by decide +kernel
theorem dX5_cut_33 : decode cX5_cut 33 = .ok (.invokevirtual 42, 3) := by decide +kernel
theorem dX5_cut_36 : decode cX5_cut 36 = .ok (.invokestatic 31, 3) := by decide +kernel
theorem dX5_cut_39 : decode cX5_cut 39 = .ok (.ifCond .ne 7, 3) := by decide +kernel
theorem dX5_cut_42 : decode cX5_cut 42 = .ok (.iconst 1, 1) := by decide +kernel
theorem dX5_cut_43 : decode cX5_cut 43 = .ok (.goto 4, 3) := by decide +kernel
theorem dX5_cut_46 : decode cX5_cut 46 = .ok (.iconst 0, 1) := by decide +kernel
theorem dX5_cut_47 : decode cX5_cut 47 = .ok (.iload_n 2, 1) := by decide +kernel
theorem dX5_cut_48 : decode cX5_cut 48 = .ok (.iload_n 3, 1) := by decide +kernel
theorem dX5_cut_49 : decode cX5_cut 49 = .ok (.if_icmp .le 7, 3) := by decide +kernel
theorem dX5_cut_52 : decode cX5_cut 52 = .ok (.iconst 1, 1) := by decide +kernel
theorem dX5_cut_53 : decode cX5_cut 53 = .ok (.goto 4, 3) := by decide +kernel
theorem dX5_cut_56 : decode cX5_cut 56 = .ok (.iconst 0, 1) := by decide +kernel
theorem dX5_cut_57 : decode cX5_cut 57 = .ok (.iconst 0, 1) := by decide +kernel
theorem dX5_cut_58 : decode cX5_cut 58 = .ok (.invokevirtual 127, 3) := by decide +kernel
theorem dX5_cut_61 : decode cX5_cut 61 = .ok (.ifCond .eq 5, 3) := by decide +kernel
theorem dX5_cut_64 : decode cX5_cut 64 = .ok (.iconst 0, 1) := by decide +kernel
theorem dX5_cut_65 : decode cX5_cut 65 = .ok (.ireturn, 1) := by decide +kernel
theorem dX5_cut_66 : decode cX5_cut 66 = .ok (.aload_n 0, 1) := by decide +kernel
theorem dX5_cut_67 : decode cX5_cut 67 = .ok (.getfield 11, 3) := by decide +kernel
theorem dX5_cut_70 : decode cX5_cut 70 = .ok (.iload_n 1, 1) := by decide +kernel
theorem dX5_cut_71 : decode cX5_cut 71 = .ok (.aload_n 0, 1) := by decide +kernel
theorem dX5_cut_72 : decode cX5_cut 72 = .ok (.getfield 11, 3) := by decide +kernel
theorem dX5_cut_75 : decode cX5_cut 75 = .ok (.iload_n 1, 1) := by decide +kernel
theorem dX5_cut_76 : decode cX5_cut 76 = .ok (.aaload, 1) := by decide +kernel
theorem dX5_cut_77 : decode cX5_cut 77 = .ok (.iload_n 2, 1) := by decide +kernel
theorem dX5_cut_78 : decode cX5_cut 78 = .ok (.iload_n 3, 1) := by decide +kernel
theorem dX5_cut_79 : decode cX5_cut 79 = .ok (.iload_n 2, 1) := by decide +kernel
theorem dX5_cut_80 : decode cX5_cut 80 = .ok (.isub, 1) := by decide +kernel
theorem dX5_cut_81 : decode cX5_cut 81 = .ok (.ldc 9, 2) := by decide +kernel
theorem dX5_cut_83 : decode cX5_cut 83 = .ok (.invokestatic 87, 3) := by decide +kernel
theorem dX5_cut_86 : decode cX5_cut 86 = .ok (.aastore, 1) := by decide +kernel
theorem dX5_cut_87 : decode cX5_cut 87 = .ok (.aload_n 0, 1) := by decide +kernel
theorem dX5_cut_88 : decode cX5_cut 88 = .ok (.getfield 11, 3) := by decide +kernel
theorem dX5_cut_91 : decode cX5_cut 91 = .ok (.iload_n 1, 1) := by decide +kernel
theorem dX5_cut_92 : decode cX5_cut 92 = .ok (.aaload, 1) := by decide +kernel
theorem dX5_cut_93 : decode cX5_cut 93 = .ok (.invokevirtual 42, 3) := by decide +kernel
theorem dX5_cut_96 : decode cX5_cut 96 = .ok (.ireturn, 1) := by decide +kernel
set_option maxRecDepth 20000 in
theorem ggX5_turn_X5_isNo : GoodIn wsX5_turn wsX5_isNo := goodIn_r _ [8, 9, 10, 7, 11] (by decide +kernel) (by decide +kernel)
set_option maxRecDepth 20000 in
theorem gX5_turn_X5_isNo : GoodIn wsX5_turn (va_wsS RX5 124 yX5_isNo wsX5_isNo) := goodIn_app (goodIn_of _ (by decide +kernel)) ggX5_turn_X5_isNo
set_option maxRecDepth 20000 in
theorem ggX5_turn_X5_fails : GoodIn wsX5_turn wsX5_fails := goodIn_r _ [15, 16, 263, 264, 265, 266, 267, 268, 269] (by decide +kernel) (by decide +kernel)
set_option maxRecDepth 20000 in
theorem gX5_turn_X5_fails : GoodIn wsX5_turn (wsV RX5 127 RX5 yX5_fails wsX5_fails) := goodIn_app (goodIn_of _ (by decide +kernel)) ggX5_turn_X5_fails
set_option maxRecDepth 20000 in
theorem ggX5_turn_J0_length_8abf5 : GoodIn wsX5_turn wsJ0_length_8abf5 := goodIn_r _ [21, 22, 23, 24, 25, 20, 26, 27, 28, 274, 275, 276, 277] (by decide +kernel) (by decide +kernel)
set_option maxRecDepth 20000 in
theorem gX5_turn_J0_length_8abf5 : GoodIn wsX5_turn (wsV RX5 42 RJ0 yJ0_length_8abf5 wsJ0_length_8abf5) := goodIn_app (goodIn_of _ (by decide +kernel)) ggX5_turn_J0_length_8abf5
set_option maxRecDepth 20000 in
theorem ggX5_turn_J4_init_da8c8 : GoodIn wsX5_turn wsJ4_init_da8c8 := goodIn_r _ [31, 32, 33, 34, 35, 36, 37, 38, 39, 40, 41, 42, 43, 44, 45, 46, 47, 48, 49, 50, 270, 271, 272, 273] (by decide +kernel) (by decide +kernel)
set_option maxRecDepth 20000 in
theorem gX5_turn_J4_init_da8c8 : GoodIn wsX5_turn (wsJ4_init_da8c8) := ggX5_turn_J4_init_da8c8
set_option maxRecDepth 20000 in
theorem ggX5_turn_J4_append_15ec4 : GoodIn wsX5_turn wsJ4_append_15ec4 := goodIn_r _ [174, 175, 176, 93, 177, 34, 178, 96, 179, 180, 181, 182, 183, 41, 97, 98, 99, 100, 101, 42, 102, 103, 104, 105, 106, 107, 108, 109, 110, 111, 112, 113, 114, 115, 116, 117, 118, 119, 120, 121, 122, 123, 124, 125, 126, 127, 128, 129, 40, 130, 131, 132, 133, 134, 135, 136, 137, 138, 139, 140, 141, 39, 184, 185, 45, 186, 84, 187, 188, 189, 77, 78, 79, 190, 191, 20, 192, 66, 193, 194, 69, 195, 165, 166, 167, 85, 86, 196, 18, 19, 21, 22, 23, 24, 25, 26, 27, 28, 197, 198, 199, 200, 201, 202, 203, 204, 205, 206, 207, 145, 146, 147, 148, 149, 43, 44, 46, 47, 48, 49, 50, 150, 151, 61, 152, 153, 154, 155, 156, 157, 158, 159, 160, 161, 162, 163, 164, 208, 209, 210, 211, 212, 213, 270, 271, 272, 273, 274, 275, 276, 277] (by decide +kernel) (by decide +kernel)
set_option maxRecDepth 20000 in
theorem gX5_turn_J4_append_15ec4 : GoodIn wsX5_turn (wsV RX5 56 RJ4 yJ4_append_15ec4 wsJ4_append_15ec4) := goodIn_app (goodIn_of _ (by decide +kernel)) ggX5_turn_J4_append_15ec4
set_option maxRecDepth 20000 in
theorem ggX5_turn_J4_toString_0e30d : GoodIn wsX5_turn wsJ4_toString_0e30d := goodIn_r _ [217, 218, 219, 20, 220, 221, 222, 223, 224, 225, 226, 37, 38, 28, 22, 27, 227, 228, 229, 230, 231, 34, 232, 41, 233, 234, 235, 236, 237, 4, 238, 239, 93, 240, 241, 96, 242, 138, 139, 140, 141, 39, 42, 243, 244, 122, 245, 124, 125, 126, 127, 128, 129, 246, 247, 248, 40, 130, 131, 114, 132, 133, 134, 135, 136, 249, 250, 251, 252, 3, 253, 254, 45, 255, 256, 257, 258, 156, 157, 158, 77, 78, 79, 159, 160, 161, 66, 162, 163, 69, 164, 81, 82, 83, 84, 85, 86, 47, 48, 49, 50, 259, 260, 261, 262, 274, 275, 276, 277, 270, 271, 272, 273] (by decide +kernel) (by decide +kernel)
set_option maxRecDepth 20000 in
theorem gX5_turn_J4_toString_0e30d : GoodIn wsX5_turn (wsV RX5 63 RJ4 yJ4_toString_0e30d wsJ4_toString_0e30d) := goodIn_app (goodIn_of _ (by decide +kernel)) ggX5_turn_J4_toString_0e30d
theorem dX5_turn_0 : decode cX5_turn 0 = .ok (.aload_n 0, 1) := by decide +kernel
theorem dX5_turn_1 : decode cX5_turn 1 = .ok (.iload_n 1, 1) := by decide +kernel
theorem dX5_turn_2 : decode cX5_turn 2 = .ok (.invokestatic 124, 3) := by decide +kernel
theorem dX5_turn_5 : decode cX5_turn 5 = .ok (.iconst 0, 1) := by decide +kernel
theorem dX5_turn_6 : decode cX5_turn 6 = .ok (.iconst 0, 1) := by decide +kernel
theorem dX5_turn_7 : decode cX5_turn 7 = .ok (.invokevirtual 127, 3) := by decide +kernel
theorem dX5_turn_10 : decode cX5_turn 10 = .ok (.ifCond .eq 5, 3) := by decide +kernel
theorem dX5_turn_13 : decode cX5_turn 13 = .ok (.iconst 0, 1) := by decide +kernel
theorem dX5_turn_14 : decode cX5_turn 14 = .ok (.ireturn, 1) := by decide +kernel
theorem dX5_turn_15 : decode cX5_turn 15 = .ok (.ldc 9, 2) := by decide +kernel
theorem dX5_turn_17 : decode cX5_turn 17 = .ok (.astore_n 2, 1) := by decide +kernel
theorem dX5_turn_18 : decode cX5_turn 18 = .ok (.iconst 0, 1) := by decide +kernel
theorem dX5_turn_19 : decode cX5_turn 19 = .ok (.istore_n 3, 1) := by decide +kernel
theorem dX5_turn_20 : decode cX5_turn 20 = .ok (.iload_n 3, 1) := by decide +kernel
theorem dX5_turn_21 : decode cX5_turn 21 = .ok (.aload_n 0, 1) := by decide +kernel
theorem dX5_turn_22 : decode cX5_turn 22 = .ok (.getfield 11, 3) := by decide +kernel
theorem dX5_turn_25 : decode cX5_turn 25 = .ok (.iload_n 1, 1) := by decide +kernel
theorem dX5_turn_26 : decode cX5_turn 26 = .ok (.aaload, 1) := by decide +kernel
theorem dX5_turn_27 : decode cX5_turn 27 = .ok (.invokevirtual 42, 3) := by decide +kernel
theorem dX5_turn_30 : decode cX5_turn 30 = .ok (.if_icmp .ge 37, 3) := by decide +kernel
theorem dX5_turn_33 : decode cX5_turn 33 = .ok (.new 49, 3) := by decide +kernel
theorem dX5_turn_36 : decode cX5_turn 36 = .ok (.dup, 1) := by decide +kernel
theorem dX5_turn_37 : decode cX5_turn 37 = .ok (.invokespecial 51, 3) := by decide +kernel
theorem dX5_turn_40 : decode cX5_turn 40 = .ok (.aload_n 0, 1) := by decide +kernel
theorem dX5_turn_41 : decode cX5_turn 41 = .ok (.getfield 11, 3) := by decide +kernel
theorem dX5_turn_44 : decode cX5_turn 44 = .ok (.iload_n 1, 1) := by decide +kernel
theorem dX5_turn_45 : decode cX5_turn 45 = .ok (.aaload, 1) := by decide +kernel
theorem dX5_turn_46 : decode cX5_turn 46 = .ok (.iload_n 3, 1) := by decide +kernel
theorem dX5_turn_47 : decode cX5_turn 47 = .ok (.invokevirtual 45, 3) := by decide +kernel
theorem dX5_turn_50 : decode cX5_turn 50 = .ok (.invokevirtual 121, 3) := by decide +kernel
theorem dX5_turn_53 : decode cX5_turn 53 = .ok (.aload_n 2, 1) := by decide +kernel
theorem dX5_turn_54 : decode cX5_turn 54 = .ok (.invokevirtual 56, 3) := by decide +kernel
theorem dX5_turn_57 : decode cX5_turn 57 = .ok (.invokevirtual 63, 3) := by decide +kernel
theorem dX5_turn_60 : decode cX5_turn 60 = .ok (.astore_n 2, 1) := by decide +kernel
theorem dX5_turn_61 : decode cX5_turn 61 = .ok (.iinc 3 1, 3) := by decide +kernel
theorem dX5_turn_64 : decode cX5_turn 64 = .ok (.goto (-44), 3) := by decide +kernel
theorem dX5_turn_67 : decode cX5_turn 67 = .ok (.aload_n 0, 1) := by decide +kernel
theorem dX5_turn_68 : decode cX5_turn 68 = .ok (.getfield 11, 3) := by decide +kernel
theorem dX5_turn_71 : decode cX5_turn 71 = .ok (.iload_n 1, 1) := by decide +kernel
theorem dX5_turn_72 : decode cX5_turn 72 = .ok (.aload_n 2, 1) := by decide +kernel
theorem dX5_turn_73 : decode cX5_turn 73 = .ok (.aastore, 1) := by decide +kernel
theorem dX5_turn_74 : decode cX5_turn 74 = .ok (.aload_n 2, 1) := by decide +kernel
theorem dX5_turn_75 : decode cX5_turn 75 = .ok (.invokevirtual 42, 3) := by decide +kernel
theorem dX5_turn_78 : decode cX5_turn 78 = .ok (.ireturn, 1) := by decide +kernel
set_option maxRecDepth 20000 in
theorem ggX5_text_X5_isNo : GoodIn wsX5_text wsX5_isNo := goodIn_r _ [5, 6, 7, 4, 8] (by decide +kernel) (by decide +kernel)
set_option maxRecDepth 20000 in
theorem gX5_text_X5_isNo : GoodIn wsX5_text (va_wsS RX5 124 yX5_isNo wsX5_isNo) := goodIn_app (goodIn_of _ (by decide +kernel)) ggX5_text_X5_isNo
set_option maxRecDepth 20000 in
theorem ggX5_text_X5_fails : GoodIn wsX5_text wsX5_fails := goodIn_r _ [12, 13, 14, 15, 16, 17, 18, 19, 20] (by decide +kernel) (by decide +kernel)
set_option maxRecDepth 20000 in
theorem gX5_text_X5_fails : GoodIn wsX5_text (wsV RX5 127 RX5 yX5_fails wsX5_fails) := goodIn_app (goodIn_of _ (by decide +kernel)) ggX5_text_X5_fails
theorem dX5_text_0 : decode cX5_text 0 = .ok (.aload_n 0, 1) := by decide +kernel
theorem dX5_text_1 : decode cX5_text 1 = .ok (.iload_n 1, 1) := by decide +kernel
theorem dX5_text_2 : decode cX5_text 2 = .ok (.invokestatic 124, 3) := by decide +kernel
theorem dX5_text_5 : decode cX5_text 5 = .ok (.iconst 0, 1) := by decide +kernel
theorem dX5_text_6 : decode cX5_text 6 = .ok (.iconst 0, 1) := by decide +kernel
theorem dX5_text_7 : decode cX5_text 7 = .ok (.invokevirtual 127, 3) := by decide +kernel
theorem dX5_text_10 : decode cX5_text 10 = .ok (.ifCond .eq 8, 3) := by decide +kernel
theorem dX5_text_13 : decode cX5_text 13 = .ok (.ldc 9, 2) := by decide +kernel
theorem dX5_text_15 : decode cX5_text 15 = .ok (.goto 9, 3) := by decide +kernel
theorem dX5_text_18 : decode cX5_text 18 = .ok (.aload_n 0, 1) := by decide +kernel
theorem dX5_text_19 : decode cX5_text 19 = .ok (.getfield 11, 3) := by decide +kernel
theorem dX5_text_22 : decode cX5_text 22 = .ok (.iload_n 1, 1) := by decide +kernel
theorem dX5_text_23 : decode cX5_text 23 = .ok (.aaload, 1) := by decide +kernel
theorem dX5_text_24 : decode cX5_text 24 = .ok (.areturn, 1) := by decide +kernel
set_option maxRecDepth 20000 in
theorem ggX5_order_X5_isNo : GoodIn wsX5_order wsX5_isNo := goodIn_r _ [5, 6, 7, 4, 8] (by decide +kernel) (by decide +kernel)
set_option maxRecDepth 20000 in
theorem gX5_order_X5_isNo : GoodIn wsX5_order (va_wsS RX5 124 yX5_isNo wsX5_isNo) := goodIn_app (goodIn_of _ (by decide +kernel)) ggX5_order_X5_isNo
set_option maxRecDepth 20000 in
theorem ggX5_order_X5_fails : GoodIn wsX5_order wsX5_fails := goodIn_r _ [12, 13, 66, 67, 68, 69, 70, 71, 72] (by decide +kernel) (by decide +kernel)
set_option maxRecDepth 20000 in
theorem gX5_order_X5_fails : GoodIn wsX5_order (wsV RX5 127 RX5 yX5_fails wsX5_fails) := goodIn_app (goodIn_of _ (by decide +kernel)) ggX5_order_X5_fails
set_option maxRecDepth 20000 in
theorem ggX5_order_X5_compare : GoodIn wsX5_order wsX5_compare := goodIn_r _ [16, 17, 18, 19, 20, 21, 22, 23, 24, 25, 26, 27, 28, 29, 30, 31, 32, 33, 34, 35, 36, 37, 38, 39, 40, 41, 42, 43, 44, 45, 46, 47, 48, 49, 50, 51, 52, 53, 54, 55, 56, 57, 58, 59, 60, 61, 62, 63, 64, 65, 73, 74, 75, 76] (by decide +kernel) (by decide +kernel)
set_option maxRecDepth 20000 in
theorem gX5_order_X5_compare : GoodIn wsX5_order (va_wsS RX5 71 yX5_compare wsX5_compare) := goodIn_app (goodIn_of _ (by decide +kernel)) ggX5_order_X5_compare
theorem dX5_order_0 : decode cX5_order 0 = .ok (.aload_n 0, 1) := by decide +kernel
theorem dX5_order_1 : decode cX5_order 1 = .ok (.iload_n 1, 1) := by decide +kernel
theorem dX5_order_2 : decode cX5_order 2 = .ok (.invokestatic 124, 3) := by decide +kernel
theorem dX5_order_5 : decode cX5_order 5 = .ok (.ifCond .ne 10, 3) := by decide +kernel
theorem dX5_order_8 : decode cX5_order 8 = .ok (.iload_n 2, 1) := by decide +kernel
theorem dX5_order_9 : decode cX5_order 9 = .ok (.invokestatic 124, 3) := by decide +kernel
theorem dX5_order_12 : decode cX5_order 12 = .ok (.ifCond .eq 7, 3) := by decide +kernel
theorem dX5_order_15 : decode cX5_order 15 = .ok (.iconst 1, 1) := by decide +kernel
theorem dX5_order_16 : decode cX5_order 16 = .ok (.goto 4, 3) := by decide +kernel
theorem dX5_order_19 : decode cX5_order 19 = .ok (.iconst 0, 1) := by decide +kernel
theorem dX5_order_20 : decode cX5_order 20 = .ok (.iconst 0, 1) := by decide +kernel
theorem dX5_order_21 : decode cX5_order 21 = .ok (.iconst 0, 1) := by decide +kernel
theorem dX5_order_22 : decode cX5_order 22 = .ok (.invokevirtual 127, 3) := by decide +kernel
theorem dX5_order_25 : decode cX5_order 25 = .ok (.ifCond .eq 7, 3) := by decide +kernel
theorem dX5_order_28 : decode cX5_order 28 = .ok (.iconst 0, 1) := by decide +kernel
theorem dX5_order_29 : decode cX5_order 29 = .ok (.goto 18, 3) := by decide +kernel
theorem dX5_order_32 : decode cX5_order 32 = .ok (.aload_n 0, 1) := by decide +kernel
theorem dX5_order_33 : decode cX5_order 33 = .ok (.getfield 11, 3) := by decide +kernel
theorem dX5_order_36 : decode cX5_order 36 = .ok (.iload_n 1, 1) := by decide +kernel
theorem dX5_order_37 : decode cX5_order 37 = .ok (.aaload, 1) := by decide +kernel
theorem dX5_order_38 : decode cX5_order 38 = .ok (.aload_n 0, 1) := by decide +kernel
theorem dX5_order_39 : decode cX5_order 39 = .ok (.getfield 11, 3) := by decide +kernel
theorem dX5_order_42 : decode cX5_order 42 = .ok (.iload_n 2, 1) := by decide +kernel
theorem dX5_order_43 : decode cX5_order 43 = .ok (.aaload, 1) := by decide +kernel
theorem dX5_order_44 : decode cX5_order 44 = .ok (.invokestatic 71, 3) := by decide +kernel
theorem dX5_order_47 : decode cX5_order 47 = .ok (.ireturn, 1) := by decide +kernel
set_option maxRecDepth 20000 in
theorem ggX5_places_Jx4a65c_init_da8c8 : GoodIn wsX5_places wsJx4a65c_init_da8c8 := goodIn_r _ [6, 7, 8, 9, 10, 11, 12, 13, 14, 15, 16, 17, 18, 19, 20, 144, 145, 146] (by decide +kernel) (by decide +kernel)
set_option maxRecDepth 20000 in
theorem gX5_places_Jx4a65c_init_da8c8 : GoodIn wsX5_places (wsJx4a65c_init_da8c8) := ggX5_places_Jx4a65c_init_da8c8
set_option maxRecDepth 20000 in
theorem ggX5_places_J0_length_8abf5 : GoodIn wsX5_places wsJ0_length_8abf5 := goodIn_r _ [25, 26, 27, 28, 29, 24, 30, 31, 32, 147, 148, 149, 150] (by decide +kernel) (by decide +kernel)
set_option maxRecDepth 20000 in
theorem gX5_places_J0_length_8abf5 : GoodIn wsX5_places (wsV RX5 42 RJ0 yJ0_length_8abf5 wsJ0_length_8abf5) := goodIn_app (goodIn_of _ (by decide +kernel)) ggX5_places_J0_length_8abf5
set_option maxRecDepth 20000 in
theorem ggX5_places_X5_stands : GoodIn wsX5_places wsX5_stands := goodIn_r _ [36, 21, 22, 23, 24, 25, 26, 27, 28, 29, 30, 31, 32, 37, 38, 39, 40, 41, 42, 43, 44, 45, 46, 47, 48, 49, 50, 51, 52, 53, 54, 55, 56, 57, 58, 59, 60, 61, 62, 63, 64, 65, 66, 67, 68, 69, 70, 71, 72, 73, 147, 148, 149, 150] (by decide +kernel) (by decide +kernel)
set_option maxRecDepth 20000 in
theorem gX5_places_X5_stands : GoodIn wsX5_places (va_wsS RX5 79 yX5_stands wsX5_stands) := goodIn_app (goodIn_of _ (by decide +kernel)) ggX5_places_X5_stands
set_option maxRecDepth 20000 in
theorem ggX5_places_J6_valueOf_2dffe : GoodIn wsX5_places wsJ6_valueOf_2dffe := goodIn_r _ [77, 78, 79, 80, 81, 76, 82, 83, 84, 85, 86, 87, 88, 89, 90, 19, 20, 151] (by decide +kernel) (by decide +kernel)
set_option maxRecDepth 20000 in
theorem gX5_places_J6_valueOf_2dffe : GoodIn wsX5_places (va_wsS RX5 134 yJ6_valueOf_2dffe wsJ6_valueOf_2dffe) := goodIn_app (goodIn_of _ (by decide +kernel)) ggX5_places_J6_valueOf_2dffe
set_option maxRecDepth 20000 in
theorem ggX5_places_Jx4a65c_add_9ea2d : GoodIn wsX5_places wsJx4a65c_add_9ea2d := goodIn_r _ [94, 95, 96, 8, 97, 98, 99, 100, 3, 101, 102, 103, 104, 105, 106, 107, 108, 109, 7, 110, 111, 112, 113, 114, 115, 116, 117, 118, 119, 120, 121, 122, 123, 124, 125, 126, 127, 128, 129, 130, 131, 132, 133, 134, 135, 136, 137, 138, 139, 140, 141, 142, 143, 144, 145, 146] (by decide +kernel) (by decide +kernel)
set_option maxRecDepth 20000 in
theorem gX5_places_Jx4a65c_add_9ea2d : GoodIn wsX5_places (wsV RX5 83 RJx4a65c yJx4a65c_add_9ea2d wsJx4a65c_add_9ea2d) := goodIn_app (goodIn_of _ (by decide +kernel)) ggX5_places_Jx4a65c_add_9ea2d
theorem dX5_places_0 : decode cX5_places 0 = .ok (.new 17, 3) := by decide +kernel
theorem dX5_places_3 : decode cX5_places 3 = .ok (.dup, 1) := by decide +kernel
theorem dX5_places_4 : decode cX5_places 4 = .ok (.invokespecial 19, 3) := by decide +kernel
theorem dX5_places_7 : decode cX5_places 7 = .ok (.astore_n 2, 1) := by decide +kernel
theorem dX5_places_8 : decode cX5_places 8 = .ok (.iconst 0, 1) := by decide +kernel
theorem dX5_places_9 : decode cX5_places 9 = .ok (.istore_n 3, 1) := by decide +kernel
theorem dX5_places_10 : decode cX5_places 10 = .ok (.iload_n 3, 1) := by decide +kernel
theorem dX5_places_11 : decode cX5_places 11 = .ok (.aload_n 0, 1) := by decide +kernel
theorem dX5_places_12 : decode cX5_places 12 = .ok (.invokevirtual 42, 3) := by decide +kernel
theorem dX5_places_15 : decode cX5_places 15 = .ok (.if_icmp .gt 27, 3) := by decide +kernel
theorem dX5_places_18 : decode cX5_places 18 = .ok (.aload_n 1, 1) := by decide +kernel
theorem dX5_places_19 : decode cX5_places 19 = .ok (.aload_n 0, 1) := by decide +kernel
theorem dX5_places_20 : decode cX5_places 20 = .ok (.iload_n 3, 1) := by decide +kernel
theorem dX5_places_21 : decode cX5_places 21 = .ok (.invokestatic 79, 3) := by decide +kernel
theorem dX5_places_24 : decode cX5_places 24 = .ok (.ifCond .eq 12, 3) := by decide +kernel
theorem dX5_places_27 : decode cX5_places 27 = .ok (.aload_n 2, 1) := by decide +kernel
theorem dX5_places_28 : decode cX5_places 28 = .ok (.iload_n 3, 1) := by decide +kernel
theorem dX5_places_29 : decode cX5_places 29 = .ok (.invokestatic 134, 3) := by decide +kernel
theorem dX5_places_32 : decode cX5_places 32 = .ok (.invokevirtual 83, 3) := by decide +kernel
theorem dX5_places_35 : decode cX5_places 35 = .ok (.pop, 1) := by decide +kernel
theorem dX5_places_36 : decode cX5_places 36 = .ok (.iinc 3 1, 3) := by decide +kernel
theorem dX5_places_39 : decode cX5_places 39 = .ok (.goto (-29), 3) := by decide +kernel
theorem dX5_places_42 : decode cX5_places 42 = .ok (.aload_n 2, 1) := by decide +kernel
theorem dX5_places_43 : decode cX5_places 43 = .ok (.areturn, 1) := by decide +kernel
set_option maxRecDepth 20000 in
theorem ggX5_count_X5_isNo : GoodIn wsX5_count wsX5_isNo := goodIn_r _ [5, 6, 7, 4, 8] (by decide +kernel) (by decide +kernel)
set_option maxRecDepth 20000 in
theorem gX5_count_X5_isNo : GoodIn wsX5_count (va_wsS RX5 124 yX5_isNo wsX5_isNo) := goodIn_app (goodIn_of _ (by decide +kernel)) ggX5_count_X5_isNo
set_option maxRecDepth 20000 in
theorem ggX5_count_X5_fails : GoodIn wsX5_count wsX5_fails := goodIn_r _ [12, 13, 163, 164, 165, 166, 167, 168, 169] (by decide +kernel) (by decide +kernel)
set_option maxRecDepth 20000 in
theorem gX5_count_X5_fails : GoodIn wsX5_count (wsV RX5 127 RX5 yX5_fails wsX5_fails) := goodIn_app (goodIn_of _ (by decide +kernel)) ggX5_count_X5_fails
set_option maxRecDepth 20000 in
theorem ggX5_count_X5_places : GoodIn wsX5_count wsX5_places := goodIn_r _ [16, 17, 18, 19, 20, 21, 22, 23, 24, 25, 26, 27, 28, 29, 30, 31, 32, 33, 34, 35, 36, 37, 38, 39, 40, 41, 42, 43, 44, 45, 46, 47, 48, 49, 50, 4, 51, 52, 53, 54, 55, 56, 57, 58, 59, 60, 61, 62, 63, 64, 65, 66, 67, 68, 69, 70, 71, 72, 73, 74, 75, 76, 77, 78, 79, 80, 81, 82, 83, 84, 85, 86, 87, 88, 89, 90, 91, 92, 93, 94, 95, 96, 97, 98, 99, 100, 101, 102, 103, 104, 105, 106, 107, 108, 109, 110, 111, 112, 113, 114, 115, 116, 117, 118, 119, 120, 121, 122, 123, 124, 125, 126, 127, 128, 129, 130, 131, 132, 133, 134, 135, 136, 137, 138, 139, 140, 141, 142, 143, 144, 145, 146, 147, 148, 149, 150, 151, 152, 153, 154, 155, 156, 157, 158, 170, 171, 172, 173, 174, 175, 176, 177] (by decide +kernel) (by decide +kernel)
set_option maxRecDepth 20000 in
theorem gX5_count_X5_places : GoodIn wsX5_count (va_wsS RX5 140 yX5_places wsX5_places) := goodIn_app (goodIn_of _ (by decide +kernel)) ggX5_count_X5_places
set_option maxRecDepth 20000 in
theorem ggX5_count_Jx4a65c_size_8abf5 : GoodIn wsX5_count wsJx4a65c_size_8abf5 := goodIn_r _ [162, 112, 170, 171, 172] (by decide +kernel) (by decide +kernel)
set_option maxRecDepth 20000 in
theorem gX5_count_Jx4a65c_size_8abf5 : GoodIn wsX5_count (wsV RX5 35 RJx4a65c yJx4a65c_size_8abf5 wsJx4a65c_size_8abf5) := goodIn_app (goodIn_of _ (by decide +kernel)) ggX5_count_Jx4a65c_size_8abf5
theorem dX5_count_0 : decode cX5_count 0 = .ok (.aload_n 0, 1) := by decide +kernel
theorem dX5_count_1 : decode cX5_count 1 = .ok (.iload_n 1, 1) := by decide +kernel
theorem dX5_count_2 : decode cX5_count 2 = .ok (.invokestatic 124, 3) := by decide +kernel
theorem dX5_count_5 : decode cX5_count 5 = .ok (.ifCond .ne 10, 3) := by decide +kernel
theorem dX5_count_8 : decode cX5_count 8 = .ok (.iload_n 2, 1) := by decide +kernel
theorem dX5_count_9 : decode cX5_count 9 = .ok (.invokestatic 124, 3) := by decide +kernel
theorem dX5_count_12 : decode cX5_count 12 = .ok (.ifCond .eq 7, 3) := by decide +kernel
theorem dX5_count_15 : decode cX5_count 15 = .ok (.iconst 1, 1) := by decide +kernel
theorem dX5_count_16 : decode cX5_count 16 = .ok (.goto 4, 3) := by decide +kernel
theorem dX5_count_19 : decode cX5_count 19 = .ok (.iconst 0, 1) := by decide +kernel
theorem dX5_count_20 : decode cX5_count 20 = .ok (.iconst 0, 1) := by decide +kernel
theorem dX5_count_21 : decode cX5_count 21 = .ok (.iconst 0, 1) := by decide +kernel
theorem dX5_count_22 : decode cX5_count 22 = .ok (.invokevirtual 127, 3) := by decide +kernel
theorem dX5_count_25 : decode cX5_count 25 = .ok (.ifCond .eq 7, 3) := by decide +kernel
theorem dX5_count_28 : decode cX5_count 28 = .ok (.iconst 0, 1) := by decide +kernel
theorem dX5_count_29 : decode cX5_count 29 = .ok (.goto 21, 3) := by decide +kernel
theorem dX5_count_32 : decode cX5_count 32 = .ok (.aload_n 0, 1) := by decide +kernel
theorem dX5_count_33 : decode cX5_count 33 = .ok (.getfield 11, 3) := by decide +kernel
theorem dX5_count_36 : decode cX5_count 36 = .ok (.iload_n 1, 1) := by decide +kernel
theorem dX5_count_37 : decode cX5_count 37 = .ok (.aaload, 1) := by decide +kernel
theorem dX5_count_38 : decode cX5_count 38 = .ok (.aload_n 0, 1) := by decide +kernel
theorem dX5_count_39 : decode cX5_count 39 = .ok (.getfield 11, 3) := by decide +kernel
theorem dX5_count_42 : decode cX5_count 42 = .ok (.iload_n 2, 1) := by decide +kernel
theorem dX5_count_43 : decode cX5_count 43 = .ok (.aaload, 1) := by decide +kernel
theorem dX5_count_44 : decode cX5_count 44 = .ok (.invokestatic 140, 3) := by decide +kernel
theorem dX5_count_47 : decode cX5_count 47 = .ok (.invokevirtual 35, 3) := by decide +kernel
theorem dX5_count_50 : decode cX5_count 50 = .ok (.ireturn, 1) := by decide +kernel
set_option maxRecDepth 20000 in
theorem ggX5_find_X5_isNo : GoodIn wsX5_find wsX5_isNo := goodIn_r _ [6, 7, 8, 5, 9] (by decide +kernel) (by decide +kernel)
set_option maxRecDepth 20000 in
theorem gX5_find_X5_isNo : GoodIn wsX5_find (va_wsS RX5 124 yX5_isNo wsX5_isNo) := goodIn_app (goodIn_of _ (by decide +kernel)) ggX5_find_X5_isNo
set_option maxRecDepth 20000 in
theorem ggX5_find_X5_fails : GoodIn wsX5_find wsX5_fails := goodIn_r _ [13, 14, 185, 186, 187, 188, 189, 190, 191] (by decide +kernel) (by decide +kernel)
set_option maxRecDepth 20000 in
theorem gX5_find_X5_fails : GoodIn wsX5_find (wsV RX5 127 RX5 yX5_fails wsX5_fails) := goodIn_app (goodIn_of _ (by decide +kernel)) ggX5_find_X5_fails
set_option maxRecDepth 20000 in
theorem ggX5_find_X5_places : GoodIn wsX5_find wsX5_places := goodIn_r _ [17, 18, 19, 20, 21, 22, 23, 24, 25, 26, 27, 28, 29, 30, 31, 32, 33, 34, 35, 36, 37, 38, 39, 40, 41, 42, 43, 44, 45, 46, 47, 48, 49, 50, 51, 5, 52, 53, 54, 55, 56, 57, 58, 59, 60, 61, 62, 63, 64, 65, 66, 67, 68, 69, 70, 71, 72, 73, 74, 75, 76, 77, 78, 79, 80, 81, 82, 83, 84, 85, 86, 87, 88, 89, 90, 91, 92, 93, 94, 95, 96, 97, 98, 99, 100, 101, 102, 103, 104, 105, 106, 107, 108, 109, 110, 111, 112, 113, 114, 115, 116, 117, 118, 119, 120, 121, 122, 123, 124, 125, 126, 127, 128, 129, 130, 131, 132, 133, 134, 135, 136, 137, 138, 139, 140, 141, 142, 143, 144, 145, 146, 147, 148, 149, 150, 151, 152, 153, 154, 155, 156, 157, 158, 159, 192, 193, 194, 195, 196, 197, 198, 199] (by decide +kernel) (by decide +kernel)
set_option maxRecDepth 20000 in
theorem gX5_find_X5_places : GoodIn wsX5_find (va_wsS RX5 140 yX5_places wsX5_places) := goodIn_app (goodIn_of _ (by decide +kernel)) ggX5_find_X5_places
set_option maxRecDepth 20000 in
theorem ggX5_find_Jx4a65c_isEmpty_aae02 : GoodIn wsX5_find wsJx4a65c_isEmpty_aae02 := goodIn_r _ [163, 113, 192, 193, 194] (by decide +kernel) (by decide +kernel)
set_option maxRecDepth 20000 in
theorem gX5_find_Jx4a65c_isEmpty_aae02 : GoodIn wsX5_find (wsV RX5 144 RJx4a65c yJx4a65c_isEmpty_aae02 wsJx4a65c_isEmpty_aae02) := goodIn_app (goodIn_of _ (by decide +kernel)) ggX5_find_Jx4a65c_isEmpty_aae02
set_option maxRecDepth 20000 in
theorem ggX5_find_Jx4a65c_size_8abf5 : GoodIn wsX5_find wsJx4a65c_size_8abf5 := goodIn_r _ [167, 113, 192, 193, 194] (by decide +kernel) (by decide +kernel)
set_option maxRecDepth 20000 in
theorem gX5_find_Jx4a65c_size_8abf5 : GoodIn wsX5_find (wsV RX5 35 RJx4a65c yJx4a65c_size_8abf5 wsJx4a65c_size_8abf5) := goodIn_app (goodIn_of _ (by decide +kernel)) ggX5_find_Jx4a65c_size_8abf5
set_option maxRecDepth 20000 in
theorem ggX5_find_Jx4a65c_get_915e3 : GoodIn wsX5_find wsJx4a65c_get_915e3 := goodIn_r _ [171, 113, 172, 173, 174, 175, 176, 70, 71, 72, 177, 178, 179, 20, 180, 25, 192, 193, 194] (by decide +kernel) (by decide +kernel)
set_option maxRecDepth 20000 in
theorem gX5_find_Jx4a65c_get_915e3 : GoodIn wsX5_find (wsV RX5 67 RJx4a65c yJx4a65c_get_915e3 wsJx4a65c_get_915e3) := goodIn_app (goodIn_of _ (by decide +kernel)) ggX5_find_Jx4a65c_get_915e3
set_option maxRecDepth 20000 in
theorem ggX5_find_J6_intValue_8abf5 : GoodIn wsX5_find wsJ6_intValue_8abf5 := goodIn_r _ [184, 101, 199] (by decide +kernel) (by decide +kernel)
set_option maxRecDepth 20000 in
theorem gX5_find_J6_intValue_8abf5 : GoodIn wsX5_find (wsV RX5 148 RJ6 yJ6_intValue_8abf5 wsJ6_intValue_8abf5) := goodIn_app (goodIn_of _ (by decide +kernel)) ggX5_find_J6_intValue_8abf5
theorem dX5_find_0 : decode cX5_find 0 = .ok (.aload_n 0, 1) := by decide +kernel
theorem dX5_find_1 : decode cX5_find 1 = .ok (.iload_n 1, 1) := by decide +kernel
theorem dX5_find_2 : decode cX5_find 2 = .ok (.invokestatic 124, 3) := by decide +kernel
theorem dX5_find_5 : decode cX5_find 5 = .ok (.ifCond .ne 10, 3) := by decide +kernel
theorem dX5_find_8 : decode cX5_find 8 = .ok (.iload_n 2, 1) := by decide +kernel
theorem dX5_find_9 : decode cX5_find 9 = .ok (.invokestatic 124, 3) := by decide +kernel
theorem dX5_find_12 : decode cX5_find 12 = .ok (.ifCond .eq 7, 3) := by decide +kernel
theorem dX5_find_15 : decode cX5_find 15 = .ok (.iconst 1, 1) := by decide +kernel
theorem dX5_find_16 : decode cX5_find 16 = .ok (.goto 4, 3) := by decide +kernel
theorem dX5_find_19 : decode cX5_find 19 = .ok (.iconst 0, 1) := by decide +kernel
theorem dX5_find_20 : decode cX5_find 20 = .ok (.iconst 0, 1) := by decide +kernel
theorem dX5_find_21 : decode cX5_find 21 = .ok (.iconst 0, 1) := by decide +kernel
theorem dX5_find_22 : decode cX5_find 22 = .ok (.invokevirtual 127, 3) := by decide +kernel
theorem dX5_find_25 : decode cX5_find 25 = .ok (.ifCond .eq 5, 3) := by decide +kernel
theorem dX5_find_28 : decode cX5_find 28 = .ok (.iconst 0, 1) := by decide +kernel
theorem dX5_find_29 : decode cX5_find 29 = .ok (.ireturn, 1) := by decide +kernel
theorem dX5_find_30 : decode cX5_find 30 = .ok (.aload_n 0, 1) := by decide +kernel
theorem dX5_find_31 : decode cX5_find 31 = .ok (.getfield 11, 3) := by decide +kernel
theorem dX5_find_34 : decode cX5_find 34 = .ok (.iload_n 1, 1) := by decide +kernel
theorem dX5_find_35 : decode cX5_find 35 = .ok (.aaload, 1) := by decide +kernel
theorem dX5_find_36 : decode cX5_find 36 = .ok (.aload_n 0, 1) := by decide +kernel
theorem dX5_find_37 : decode cX5_find 37 = .ok (.getfield 11, 3) := by decide +kernel
theorem dX5_find_40 : decode cX5_find 40 = .ok (.iload_n 2, 1) := by decide +kernel
theorem dX5_find_41 : decode cX5_find 41 = .ok (.aaload, 1) := by decide +kernel
theorem dX5_find_42 : decode cX5_find 42 = .ok (.invokestatic 140, 3) := by decide +kernel
theorem dX5_find_45 : decode cX5_find 45 = .ok (.astore 4, 2) := by decide +kernel
theorem dX5_find_47 : decode cX5_find 47 = .ok (.aload 4, 2) := by decide +kernel
theorem dX5_find_49 : decode cX5_find 49 = .ok (.invokevirtual 144, 3) := by decide +kernel
theorem dX5_find_52 : decode cX5_find 52 = .ok (.ifCond .eq 7, 3) := by decide +kernel
theorem dX5_find_55 : decode cX5_find 55 = .ok (.iconst (-1), 1) := by decide +kernel
theorem dX5_find_56 : decode cX5_find 56 = .ok (.goto 29, 3) := by decide +kernel
theorem dX5_find_59 : decode cX5_find 59 = .ok (.aload 4, 2) := by decide +kernel
theorem dX5_find_61 : decode cX5_find 61 = .ok (.iload_n 3, 1) := by decide +kernel
theorem dX5_find_62 : decode cX5_find 62 = .ok (.ifCond .eq 13, 3) := by decide +kernel
theorem dX5_find_65 : decode cX5_find 65 = .ok (.aload 4, 2) := by decide +kernel
theorem dX5_find_67 : decode cX5_find 67 = .ok (.invokevirtual 35, 3) := by decide +kernel
theorem dX5_find_70 : decode cX5_find 70 = .ok (.iconst 1, 1) := by decide +kernel
theorem dX5_find_71 : decode cX5_find 71 = .ok (.isub, 1) := by decide +kernel
theorem dX5_find_72 : decode cX5_find 72 = .ok (.goto 4, 3) := by decide +kernel
theorem dX5_find_75 : decode cX5_find 75 = .ok (.iconst 0, 1) := by decide +kernel
theorem dX5_find_76 : decode cX5_find 76 = .ok (.invokevirtual 67, 3) := by decide +kernel
theorem dX5_find_79 : decode cX5_find 79 = .ok (.checkcast 135, 3) := by decide +kernel
theorem dX5_find_82 : decode cX5_find 82 = .ok (.invokevirtual 148, 3) := by decide +kernel
theorem dX5_find_85 : decode cX5_find 85 = .ok (.ireturn, 1) := by decide +kernel
set_option maxRecDepth 20000 in
theorem ggX5_added_Jx4a65c_size_8abf5 : GoodIn wsX5_added wsJx4a65c_size_8abf5 := goodIn_r _ [7, 8, 92, 93, 94] (by decide +kernel) (by decide +kernel)
set_option maxRecDepth 20000 in
theorem gX5_added_Jx4a65c_size_8abf5 : GoodIn wsX5_added (wsV RX5 35 RJx4a65c yJx4a65c_size_8abf5 wsJx4a65c_size_8abf5) := goodIn_app (goodIn_of _ (by decide +kernel)) ggX5_added_Jx4a65c_size_8abf5
set_option maxRecDepth 20000 in
theorem ggX5_added_J0_isEmpty_aae02 : GoodIn wsX5_added wsJ0_isEmpty_aae02 := goodIn_r _ [13, 14, 95, 96, 97, 98] (by decide +kernel) (by decide +kernel)
set_option maxRecDepth 20000 in
theorem gX5_added_J0_isEmpty_aae02 : GoodIn wsX5_added (wsV RX5 151 RJ0 yJ0_isEmpty_aae02 wsJ0_isEmpty_aae02) := goodIn_app (goodIn_of _ (by decide +kernel)) ggX5_added_J0_isEmpty_aae02
set_option maxRecDepth 20000 in
theorem ggX5_added_J0_length_8abf5 : GoodIn wsX5_added wsJ0_length_8abf5 := goodIn_r _ [18, 14, 19, 20, 21, 12, 22, 23, 24, 95, 96, 97, 98] (by decide +kernel) (by decide +kernel)
set_option maxRecDepth 20000 in
theorem gX5_added_J0_length_8abf5 : GoodIn wsX5_added (wsV RX5 42 RJ0 yJ0_length_8abf5 wsJ0_length_8abf5) := goodIn_app (goodIn_of _ (by decide +kernel)) ggX5_added_J0_length_8abf5
set_option maxRecDepth 20000 in
theorem ggX5_added_X5_refuse : GoodIn wsX5_added wsX5_refuse := goodIn_r _ [29, 30, 85, 86, 87, 88, 89, 90, 91] (by decide +kernel) (by decide +kernel)
set_option maxRecDepth 20000 in
theorem gX5_added_X5_refuse : GoodIn wsX5_added (wsV RX5 131 RX5 yX5_refuse wsX5_refuse) := goodIn_app (goodIn_of _ (by decide +kernel)) ggX5_added_X5_refuse
set_option maxRecDepth 20000 in
theorem ggX5_added_Jx4a65c_add_9ea2d : GoodIn wsX5_added wsJx4a65c_add_9ea2d := goodIn_r _ [34, 35, 36, 37, 8, 38, 39, 40, 6, 41, 42, 43, 44, 45, 46, 47, 48, 49, 50, 51, 52, 53, 54, 55, 56, 57, 58, 59, 60, 61, 62, 63, 64, 65, 66, 67, 68, 69, 70, 71, 72, 73, 74, 75, 76, 77, 78, 79, 80, 81, 82, 83, 84, 92, 93, 94] (by decide +kernel) (by decide +kernel)
set_option maxRecDepth 20000 in
theorem gX5_added_Jx4a65c_add_9ea2d : GoodIn wsX5_added (wsV RX5 83 RJx4a65c yJx4a65c_add_9ea2d wsJx4a65c_add_9ea2d) := goodIn_app (goodIn_of _ (by decide +kernel)) ggX5_added_Jx4a65c_add_9ea2d
theorem dX5_added_0 : decode cX5_added 0 = .ok (.aload_n 0, 1) := by decide +kernel
theorem dX5_added_1 : decode cX5_added 1 = .ok (.getfield 20, 3) := by decide +kernel
theorem dX5_added_4 : decode cX5_added 4 = .ok (.invokevirtual 35, 3) := by decide +kernel
theorem dX5_added_7 : decode cX5_added 7 = .ok (.bipush 8, 2) := by decide +kernel
theorem dX5_added_9 : decode cX5_added 9 = .ok (.if_icmp .eq 28, 3) := by decide +kernel
theorem dX5_added_12 : decode cX5_added 12 = .ok (.aload_n 1, 1) := by decide +kernel
theorem dX5_added_13 : decode cX5_added 13 = .ok (.invokevirtual 151, 3) := by decide +kernel
theorem dX5_added_16 : decode cX5_added 16 = .ok (.ifCond .ne 21, 3) := by decide +kernel
theorem dX5_added_19 : decode cX5_added 19 = .ok (.aload_n 1, 1) := by decide +kernel
theorem dX5_added_20 : decode cX5_added 20 = .ok (.invokevirtual 42, 3) := by decide +kernel
theorem dX5_added_23 : decode cX5_added 23 = .ok (.bipush 6, 2) := by decide +kernel
theorem dX5_added_25 : decode cX5_added 25 = .ok (.if_icmp .gt 12, 3) := by decide +kernel
theorem dX5_added_28 : decode cX5_added 28 = .ok (.aload_n 2, 1) := by decide +kernel
theorem dX5_added_29 : decode cX5_added 29 = .ok (.invokevirtual 42, 3) := by decide +kernel
theorem dX5_added_32 : decode cX5_added 32 = .ok (.bipush 6, 2) := by decide +kernel
theorem dX5_added_34 : decode cX5_added 34 = .ok (.if_icmp .le 8, 3) := by decide +kernel
theorem dX5_added_37 : decode cX5_added 37 = .ok (.aload_n 0, 1) := by decide +kernel
theorem dX5_added_38 : decode cX5_added 38 = .ok (.invokevirtual 131, 3) := by decide +kernel
theorem dX5_added_41 : decode cX5_added 41 = .ok (.ireturn, 1) := by decide +kernel
theorem dX5_added_42 : decode cX5_added 42 = .ok (.aload_n 0, 1) := by decide +kernel
theorem dX5_added_43 : decode cX5_added 43 = .ok (.getfield 20, 3) := by decide +kernel
theorem dX5_added_46 : decode cX5_added 46 = .ok (.aload_n 1, 1) := by decide +kernel
theorem dX5_added_47 : decode cX5_added 47 = .ok (.invokevirtual 83, 3) := by decide +kernel
theorem dX5_added_50 : decode cX5_added 50 = .ok (.pop, 1) := by decide +kernel
theorem dX5_added_51 : decode cX5_added 51 = .ok (.aload_n 0, 1) := by decide +kernel
theorem dX5_added_52 : decode cX5_added 52 = .ok (.getfield 24, 3) := by decide +kernel
theorem dX5_added_55 : decode cX5_added 55 = .ok (.aload_n 2, 1) := by decide +kernel
theorem dX5_added_56 : decode cX5_added 56 = .ok (.invokevirtual 83, 3) := by decide +kernel
theorem dX5_added_59 : decode cX5_added 59 = .ok (.pop, 1) := by decide +kernel
theorem dX5_added_60 : decode cX5_added 60 = .ok (.aload_n 0, 1) := by decide +kernel
theorem dX5_added_61 : decode cX5_added 61 = .ok (.getfield 20, 3) := by decide +kernel
theorem dX5_added_64 : decode cX5_added 64 = .ok (.invokevirtual 35, 3) := by decide +kernel
theorem dX5_added_67 : decode cX5_added 67 = .ok (.iconst 1, 1) := by decide +kernel
theorem dX5_added_68 : decode cX5_added 68 = .ok (.isub, 1) := by decide +kernel
theorem dX5_added_69 : decode cX5_added 69 = .ok (.ireturn, 1) := by decide +kernel
set_option maxRecDepth 20000 in
theorem ggX5_rule_X5_isNo : GoodIn wsX5_rule wsX5_isNo := goodIn_r _ [5, 6, 7, 4, 8] (by decide +kernel) (by decide +kernel)
set_option maxRecDepth 20000 in
theorem gX5_rule_X5_isNo : GoodIn wsX5_rule (va_wsS RX5 124 yX5_isNo wsX5_isNo) := goodIn_app (goodIn_of _ (by decide +kernel)) ggX5_rule_X5_isNo
set_option maxRecDepth 20000 in
theorem ggX5_rule_X5_fails : GoodIn wsX5_rule wsX5_fails := goodIn_r _ [12, 13, 101, 102, 103, 104, 105, 106, 107] (by decide +kernel) (by decide +kernel)
set_option maxRecDepth 20000 in
theorem gX5_rule_X5_fails : GoodIn wsX5_rule (wsV RX5 127 RX5 yX5_fails wsX5_fails) := goodIn_app (goodIn_of _ (by decide +kernel)) ggX5_rule_X5_fails
set_option maxRecDepth 20000 in
theorem ggX5_rule_X5_added : GoodIn wsX5_rule wsX5_added := goodIn_r _ [17, 18, 19, 20, 21, 22, 23, 24, 25, 26, 27, 28, 29, 30, 31, 32, 33, 34, 35, 36, 37, 38, 39, 40, 41, 42, 43, 44, 4, 45, 46, 47, 48, 49, 50, 51, 52, 53, 54, 55, 56, 57, 58, 59, 60, 61, 62, 63, 64, 65, 66, 67, 68, 69, 70, 71, 72, 73, 74, 75, 76, 77, 78, 79, 80, 81, 82, 83, 84, 85, 86, 87, 88, 89, 90, 91, 92, 93, 94, 95, 96, 97, 98, 99, 100, 101, 102, 103, 104, 105, 106, 107, 108, 109, 110, 111, 112, 113, 114] (by decide +kernel) (by decide +kernel)
set_option maxRecDepth 20000 in
theorem gX5_rule_X5_added : GoodIn wsX5_rule (wsV RX5 152 RX5 yX5_added wsX5_added) := goodIn_app (goodIn_of _ (by decide +kernel)) ggX5_rule_X5_added
theorem dX5_rule_0 : decode cX5_rule 0 = .ok (.aload_n 0, 1) := by decide +kernel
theorem dX5_rule_1 : decode cX5_rule 1 = .ok (.iload_n 1, 1) := by decide +kernel
theorem dX5_rule_2 : decode cX5_rule 2 = .ok (.invokestatic 124, 3) := by decide +kernel
theorem dX5_rule_5 : decode cX5_rule 5 = .ok (.ifCond .ne 10, 3) := by decide +kernel
theorem dX5_rule_8 : decode cX5_rule 8 = .ok (.iload_n 2, 1) := by decide +kernel
theorem dX5_rule_9 : decode cX5_rule 9 = .ok (.invokestatic 124, 3) := by decide +kernel
theorem dX5_rule_12 : decode cX5_rule 12 = .ok (.ifCond .eq 7, 3) := by decide +kernel
theorem dX5_rule_15 : decode cX5_rule 15 = .ok (.iconst 1, 1) := by decide +kernel
theorem dX5_rule_16 : decode cX5_rule 16 = .ok (.goto 4, 3) := by decide +kernel
theorem dX5_rule_19 : decode cX5_rule 19 = .ok (.iconst 0, 1) := by decide +kernel
theorem dX5_rule_20 : decode cX5_rule 20 = .ok (.iconst 0, 1) := by decide +kernel
theorem dX5_rule_21 : decode cX5_rule 21 = .ok (.iconst 0, 1) := by decide +kernel
theorem dX5_rule_22 : decode cX5_rule 22 = .ok (.invokevirtual 127, 3) := by decide +kernel
theorem dX5_rule_25 : decode cX5_rule 25 = .ok (.ifCond .eq 7, 3) := by decide +kernel
theorem dX5_rule_28 : decode cX5_rule 28 = .ok (.iconst 0, 1) := by decide +kernel
theorem dX5_rule_29 : decode cX5_rule 29 = .ok (.goto 19, 3) := by decide +kernel
theorem dX5_rule_32 : decode cX5_rule 32 = .ok (.aload_n 0, 1) := by decide +kernel
theorem dX5_rule_33 : decode cX5_rule 33 = .ok (.aload_n 0, 1) := by decide +kernel
theorem dX5_rule_34 : decode cX5_rule 34 = .ok (.getfield 11, 3) := by decide +kernel
theorem dX5_rule_37 : decode cX5_rule 37 = .ok (.iload_n 1, 1) := by decide +kernel
theorem dX5_rule_38 : decode cX5_rule 38 = .ok (.aaload, 1) := by decide +kernel
theorem dX5_rule_39 : decode cX5_rule 39 = .ok (.aload_n 0, 1) := by decide +kernel
theorem dX5_rule_40 : decode cX5_rule 40 = .ok (.getfield 11, 3) := by decide +kernel
theorem dX5_rule_43 : decode cX5_rule 43 = .ok (.iload_n 2, 1) := by decide +kernel
theorem dX5_rule_44 : decode cX5_rule 44 = .ok (.aaload, 1) := by decide +kernel
theorem dX5_rule_45 : decode cX5_rule 45 = .ok (.invokevirtual 152, 3) := by decide +kernel
theorem dX5_rule_48 : decode cX5_rule 48 = .ok (.ireturn, 1) := by decide +kernel
set_option maxRecDepth 20000 in
theorem ggX5_falling_X5_isNo : GoodIn wsX5_falling wsX5_isNo := goodIn_r _ [5, 6, 7, 4, 8] (by decide +kernel) (by decide +kernel)
set_option maxRecDepth 20000 in
theorem gX5_falling_X5_isNo : GoodIn wsX5_falling (va_wsS RX5 124 yX5_isNo wsX5_isNo) := goodIn_app (goodIn_of _ (by decide +kernel)) ggX5_falling_X5_isNo
set_option maxRecDepth 20000 in
theorem ggX5_falling_X5_fails : GoodIn wsX5_falling wsX5_fails := goodIn_r _ [12, 13, 141, 142, 143, 144, 145, 146, 147] (by decide +kernel) (by decide +kernel)
set_option maxRecDepth 20000 in
theorem gX5_falling_X5_fails : GoodIn wsX5_falling (wsV RX5 127 RX5 yX5_fails wsX5_fails) := goodIn_app (goodIn_of _ (by decide +kernel)) ggX5_falling_X5_fails
set_option maxRecDepth 20000 in
theorem ggX5_falling_X5_compare : GoodIn wsX5_falling wsX5_compare := goodIn_r _ [16, 17, 18, 19, 20, 21, 22, 23, 24, 25, 26, 27, 28, 29, 30, 31, 32, 33, 34, 35, 36, 37, 38, 39, 40, 41, 42, 43, 44, 45, 46, 47, 48, 49, 50, 51, 52, 53, 54, 55, 56, 57, 58, 59, 60, 61, 62, 63, 64, 65, 148, 149, 150, 151] (by decide +kernel) (by decide +kernel)
set_option maxRecDepth 20000 in
theorem gX5_falling_X5_compare : GoodIn wsX5_falling (va_wsS RX5 71 yX5_compare wsX5_compare) := goodIn_app (goodIn_of _ (by decide +kernel)) ggX5_falling_X5_compare
set_option maxRecDepth 20000 in
theorem ggX5_falling_X5_refuse : GoodIn wsX5_falling wsX5_refuse := goodIn_r _ [69, 70, 141, 142, 143, 144, 145, 146, 147] (by decide +kernel) (by decide +kernel)
set_option maxRecDepth 20000 in
theorem gX5_falling_X5_refuse : GoodIn wsX5_falling (wsV RX5 131 RX5 yX5_refuse wsX5_refuse) := goodIn_app (goodIn_of _ (by decide +kernel)) ggX5_falling_X5_refuse
set_option maxRecDepth 20000 in
theorem ggX5_falling_X5_added : GoodIn wsX5_falling wsX5_added := goodIn_r _ [74, 75, 76, 77, 78, 79, 80, 81, 82, 83, 84, 85, 20, 86, 22, 17, 18, 19, 21, 23, 24, 25, 26, 27, 28, 66, 67, 68, 4, 69, 70, 87, 88, 89, 90, 91, 92, 93, 94, 95, 96, 97, 98, 99, 100, 101, 102, 103, 104, 105, 106, 107, 108, 109, 110, 111, 112, 113, 114, 115, 116, 117, 118, 119, 120, 121, 122, 123, 124, 125, 126, 127, 128, 129, 130, 131, 132, 133, 134, 135, 136, 137, 138, 139, 140, 141, 142, 143, 144, 145, 146, 147, 152, 153, 154, 148, 149, 150, 151] (by decide +kernel) (by decide +kernel)
set_option maxRecDepth 20000 in
theorem gX5_falling_X5_added : GoodIn wsX5_falling (wsV RX5 152 RX5 yX5_added wsX5_added) := goodIn_app (goodIn_of _ (by decide +kernel)) ggX5_falling_X5_added
theorem dX5_falling_0 : decode cX5_falling 0 = .ok (.aload_n 0, 1) := by decide +kernel
theorem dX5_falling_1 : decode cX5_falling 1 = .ok (.iload_n 1, 1) := by decide +kernel
theorem dX5_falling_2 : decode cX5_falling 2 = .ok (.invokestatic 124, 3) := by decide +kernel
theorem dX5_falling_5 : decode cX5_falling 5 = .ok (.ifCond .ne 10, 3) := by decide +kernel
theorem dX5_falling_8 : decode cX5_falling 8 = .ok (.iload_n 2, 1) := by decide +kernel
theorem dX5_falling_9 : decode cX5_falling 9 = .ok (.invokestatic 124, 3) := by decide +kernel
theorem dX5_falling_12 : decode cX5_falling 12 = .ok (.ifCond .eq 7, 3) := by decide +kernel
theorem dX5_falling_15 : decode cX5_falling 15 = .ok (.iconst 1, 1) := by decide +kernel
theorem dX5_falling_16 : decode cX5_falling 16 = .ok (.goto 4, 3) := by decide +kernel
theorem dX5_falling_19 : decode cX5_falling 19 = .ok (.iconst 0, 1) := by decide +kernel
theorem dX5_falling_20 : decode cX5_falling 20 = .ok (.iconst 0, 1) := by decide +kernel
theorem dX5_falling_21 : decode cX5_falling 21 = .ok (.iconst 0, 1) := by decide +kernel
theorem dX5_falling_22 : decode cX5_falling 22 = .ok (.invokevirtual 127, 3) := by decide +kernel
theorem dX5_falling_25 : decode cX5_falling 25 = .ok (.ifCond .eq 5, 3) := by decide +kernel
theorem dX5_falling_28 : decode cX5_falling 28 = .ok (.iconst 0, 1) := by decide +kernel
theorem dX5_falling_29 : decode cX5_falling 29 = .ok (.ireturn, 1) := by decide +kernel
theorem dX5_falling_30 : decode cX5_falling 30 = .ok (.aload_n 0, 1) := by decide +kernel
theorem dX5_falling_31 : decode cX5_falling 31 = .ok (.getfield 11, 3) := by decide +kernel
theorem dX5_falling_34 : decode cX5_falling 34 = .ok (.iload_n 1, 1) := by decide +kernel
theorem dX5_falling_35 : decode cX5_falling 35 = .ok (.aaload, 1) := by decide +kernel
theorem dX5_falling_36 : decode cX5_falling 36 = .ok (.aload_n 0, 1) := by decide +kernel
theorem dX5_falling_37 : decode cX5_falling 37 = .ok (.getfield 11, 3) := by decide +kernel
theorem dX5_falling_40 : decode cX5_falling 40 = .ok (.iload_n 2, 1) := by decide +kernel
theorem dX5_falling_41 : decode cX5_falling 41 = .ok (.aaload, 1) := by decide +kernel
theorem dX5_falling_42 : decode cX5_falling 42 = .ok (.invokestatic 71, 3) := by decide +kernel
theorem dX5_falling_45 : decode cX5_falling 45 = .ok (.istore_n 3, 1) := by decide +kernel
theorem dX5_falling_46 : decode cX5_falling 46 = .ok (.iload_n 3, 1) := by decide +kernel
theorem dX5_falling_47 : decode cX5_falling 47 = .ok (.ifCond .ne 8, 3) := by decide +kernel
theorem dX5_falling_50 : decode cX5_falling 50 = .ok (.aload_n 0, 1) := by decide +kernel
theorem dX5_falling_51 : decode cX5_falling 51 = .ok (.invokevirtual 131, 3) := by decide +kernel
theorem dX5_falling_54 : decode cX5_falling 54 = .ok (.ireturn, 1) := by decide +kernel
theorem dX5_falling_55 : decode cX5_falling 55 = .ok (.iload_n 3, 1) := by decide +kernel
theorem dX5_falling_56 : decode cX5_falling 56 = .ok (.ifCond .le 22, 3) := by decide +kernel
theorem dX5_falling_59 : decode cX5_falling 59 = .ok (.aload_n 0, 1) := by decide +kernel
theorem dX5_falling_60 : decode cX5_falling 60 = .ok (.aload_n 0, 1) := by decide +kernel
theorem dX5_falling_61 : decode cX5_falling 61 = .ok (.getfield 11, 3) := by decide +kernel
theorem dX5_falling_64 : decode cX5_falling 64 = .ok (.iload_n 1, 1) := by decide +kernel
theorem dX5_falling_65 : decode cX5_falling 65 = .ok (.aaload, 1) := by decide +kernel
theorem dX5_falling_66 : decode cX5_falling 66 = .ok (.aload_n 0, 1) := by decide +kernel
theorem dX5_falling_67 : decode cX5_falling 67 = .ok (.getfield 11, 3) := by decide +kernel
theorem dX5_falling_70 : decode cX5_falling 70 = .ok (.iload_n 2, 1) := by decide +kernel
theorem dX5_falling_71 : decode cX5_falling 71 = .ok (.aaload, 1) := by decide +kernel
theorem dX5_falling_72 : decode cX5_falling 72 = .ok (.invokevirtual 152, 3) := by decide +kernel
theorem dX5_falling_75 : decode cX5_falling 75 = .ok (.goto 19, 3) := by decide +kernel
theorem dX5_falling_78 : decode cX5_falling 78 = .ok (.aload_n 0, 1) := by decide +kernel
theorem dX5_falling_79 : decode cX5_falling 79 = .ok (.aload_n 0, 1) := by decide +kernel
theorem dX5_falling_80 : decode cX5_falling 80 = .ok (.getfield 11, 3) := by decide +kernel
theorem dX5_falling_83 : decode cX5_falling 83 = .ok (.iload_n 2, 1) := by decide +kernel
theorem dX5_falling_84 : decode cX5_falling 84 = .ok (.aaload, 1) := by decide +kernel
theorem dX5_falling_85 : decode cX5_falling 85 = .ok (.aload_n 0, 1) := by decide +kernel
theorem dX5_falling_86 : decode cX5_falling 86 = .ok (.getfield 11, 3) := by decide +kernel
theorem dX5_falling_89 : decode cX5_falling 89 = .ok (.iload_n 1, 1) := by decide +kernel
theorem dX5_falling_90 : decode cX5_falling 90 = .ok (.aaload, 1) := by decide +kernel
theorem dX5_falling_91 : decode cX5_falling 91 = .ok (.invokevirtual 152, 3) := by decide +kernel
theorem dX5_falling_94 : decode cX5_falling 94 = .ok (.ireturn, 1) := by decide +kernel
set_option maxRecDepth 20000 in
theorem ggX5_drop_X5_isNoRule : GoodIn wsX5_drop wsX5_isNoRule := goodIn_r _ [7, 1, 8, 9, 10, 11, 12, 13, 14, 15, 6, 16, 45, 46, 47, 48, 49, 50, 51, 52, 53, 54] (by decide +kernel) (by decide +kernel)
set_option maxRecDepth 20000 in
theorem gX5_drop_X5_isNoRule : GoodIn wsX5_drop (wsV RX5 155 RX5 yX5_isNoRule wsX5_isNoRule) := goodIn_app (goodIn_of _ (by decide +kernel)) ggX5_drop_X5_isNoRule
set_option maxRecDepth 20000 in
theorem ggX5_drop_X5_fails : GoodIn wsX5_drop wsX5_fails := goodIn_r _ [20, 21, 45, 46, 47, 48, 49, 50, 51] (by decide +kernel) (by decide +kernel)
set_option maxRecDepth 20000 in
theorem gX5_drop_X5_fails : GoodIn wsX5_drop (wsV RX5 127 RX5 yX5_fails wsX5_fails) := goodIn_app (goodIn_of _ (by decide +kernel)) ggX5_drop_X5_fails
set_option maxRecDepth 20000 in
theorem ggX5_drop_Jx4a65c_size_8abf5 : GoodIn wsX5_drop wsJx4a65c_size_8abf5 := goodIn_r _ [12, 13, 52, 53, 54] (by decide +kernel) (by decide +kernel)
set_option maxRecDepth 20000 in
theorem gX5_drop_Jx4a65c_size_8abf5 : GoodIn wsX5_drop (wsV RX5 35 RJx4a65c yJx4a65c_size_8abf5 wsJx4a65c_size_8abf5) := goodIn_app (goodIn_of _ (by decide +kernel)) ggX5_drop_Jx4a65c_size_8abf5
theorem dX5_drop_0 : decode cX5_drop 0 = .ok (.aload_n 0, 1) := by decide +kernel
theorem dX5_drop_1 : decode cX5_drop 1 = .ok (.aload_n 0, 1) := by decide +kernel
theorem dX5_drop_2 : decode cX5_drop 2 = .ok (.iload_n 1, 1) := by decide +kernel
theorem dX5_drop_3 : decode cX5_drop 3 = .ok (.invokevirtual 155, 3) := by decide +kernel
theorem dX5_drop_6 : decode cX5_drop 6 = .ok (.iconst 0, 1) := by decide +kernel
theorem dX5_drop_7 : decode cX5_drop 7 = .ok (.iconst 0, 1) := by decide +kernel
theorem dX5_drop_8 : decode cX5_drop 8 = .ok (.invokevirtual 127, 3) := by decide +kernel
theorem dX5_drop_11 : decode cX5_drop 11 = .ok (.ifCond .eq 5, 3) := by decide +kernel
theorem dX5_drop_14 : decode cX5_drop 14 = .ok (.iconst 0, 1) := by decide +kernel
theorem dX5_drop_15 : decode cX5_drop 15 = .ok (.ireturn, 1) := by decide +kernel
theorem dX5_drop_16 : decode cX5_drop 16 = .ok (.aload_n 0, 1) := by decide +kernel
theorem dX5_drop_17 : decode cX5_drop 17 = .ok (.getfield 20, 3) := by decide +kernel
theorem dX5_drop_20 : decode cX5_drop 20 = .ok (.iload_n 1, 1) := by decide +kernel
theorem dX5_drop_21 : decode cX5_drop 21 = .ok (.invokevirtual 158, 3) := by decide +kernel
theorem dX5_drop_24 : decode cX5_drop 24 = .ok (.pop, 1) := by decide +kernel
theorem dX5_drop_25 : decode cX5_drop 25 = .ok (.aload_n 0, 1) := by decide +kernel
theorem dX5_drop_26 : decode cX5_drop 26 = .ok (.getfield 24, 3) := by decide +kernel
theorem dX5_drop_29 : decode cX5_drop 29 = .ok (.iload_n 1, 1) := by decide +kernel
theorem dX5_drop_30 : decode cX5_drop 30 = .ok (.invokevirtual 158, 3) := by decide +kernel
theorem dX5_drop_33 : decode cX5_drop 33 = .ok (.pop, 1) := by decide +kernel
theorem dX5_drop_34 : decode cX5_drop 34 = .ok (.aload_n 0, 1) := by decide +kernel
theorem dX5_drop_35 : decode cX5_drop 35 = .ok (.getfield 20, 3) := by decide +kernel
theorem dX5_drop_38 : decode cX5_drop 38 = .ok (.invokevirtual 35, 3) := by decide +kernel
theorem dX5_drop_41 : decode cX5_drop 41 = .ok (.ireturn, 1) := by decide +kernel
set_option maxRecDepth 20000 in
theorem ggX5_noRules_Jx4a65c_size_8abf5 : GoodIn wsX5_noRules wsJx4a65c_size_8abf5 := goodIn_r _ [10, 11, 36, 37, 38] (by decide +kernel) (by decide +kernel)
set_option maxRecDepth 20000 in
theorem gX5_noRules_Jx4a65c_size_8abf5 : GoodIn wsX5_noRules (wsV RX5 35 RJx4a65c yJx4a65c_size_8abf5 wsJx4a65c_size_8abf5) := goodIn_app (goodIn_of _ (by decide +kernel)) ggX5_noRules_Jx4a65c_size_8abf5
set_option maxRecDepth 20000 in
theorem ggX5_noRules_Jx4a65c_init_da8c8 : GoodIn wsX5_noRules wsJx4a65c_init_da8c8 := goodIn_r _ [14, 15, 16, 17, 18, 19, 20, 21, 22, 23, 24, 25, 26, 27, 28, 36, 37, 38] (by decide +kernel) (by decide +kernel)
set_option maxRecDepth 20000 in
theorem gX5_noRules_Jx4a65c_init_da8c8 : GoodIn wsX5_noRules (wsJx4a65c_init_da8c8) := ggX5_noRules_Jx4a65c_init_da8c8
theorem dX5_noRules_0 : decode cX5_noRules 0 = .ok (.aload_n 0, 1) := by decide +kernel
theorem dX5_noRules_1 : decode cX5_noRules 1 = .ok (.iconst 0, 1) := by decide +kernel
theorem dX5_noRules_2 : decode cX5_noRules 2 = .ok (.putfield 27, 3) := by decide +kernel
theorem dX5_noRules_5 : decode cX5_noRules 5 = .ok (.aload_n 0, 1) := by decide +kernel
theorem dX5_noRules_6 : decode cX5_noRules 6 = .ok (.getfield 20, 3) := by decide +kernel
theorem dX5_noRules_9 : decode cX5_noRules 9 = .ok (.invokevirtual 35, 3) := by decide +kernel
theorem dX5_noRules_12 : decode cX5_noRules 12 = .ok (.istore_n 1, 1) := by decide +kernel
theorem dX5_noRules_13 : decode cX5_noRules 13 = .ok (.aload_n 0, 1) := by decide +kernel
theorem dX5_noRules_14 : decode cX5_noRules 14 = .ok (.new 17, 3) := by decide +kernel
theorem dX5_noRules_17 : decode cX5_noRules 17 = .ok (.dup, 1) := by decide +kernel
theorem dX5_noRules_18 : decode cX5_noRules 18 = .ok (.invokespecial 19, 3) := by decide +kernel
theorem dX5_noRules_21 : decode cX5_noRules 21 = .ok (.putfield 20, 3) := by decide +kernel
theorem dX5_noRules_24 : decode cX5_noRules 24 = .ok (.aload_n 0, 1) := by decide +kernel
theorem dX5_noRules_25 : decode cX5_noRules 25 = .ok (.new 17, 3) := by decide +kernel
theorem dX5_noRules_28 : decode cX5_noRules 28 = .ok (.dup, 1) := by decide +kernel
theorem dX5_noRules_29 : decode cX5_noRules 29 = .ok (.invokespecial 19, 3) := by decide +kernel
theorem dX5_noRules_32 : decode cX5_noRules 32 = .ok (.putfield 24, 3) := by decide +kernel
theorem dX5_noRules_35 : decode cX5_noRules 35 = .ok (.iload_n 1, 1) := by decide +kernel
theorem dX5_noRules_36 : decode cX5_noRules 36 = .ok (.ireturn, 1) := by decide +kernel
set_option maxRecDepth 20000 in
theorem ggX5_flip_X5_isNoRule : GoodIn wsX5_flip wsX5_isNoRule := goodIn_r _ [8, 3, 9, 10, 11, 12, 13, 14, 15, 16, 7, 17, 109, 110, 111, 112, 113, 114, 115, 116, 117, 118] (by decide +kernel) (by decide +kernel)
set_option maxRecDepth 20000 in
theorem gX5_flip_X5_isNoRule : GoodIn wsX5_flip (wsV RX5 155 RX5 yX5_isNoRule wsX5_isNoRule) := goodIn_app (goodIn_of _ (by decide +kernel)) ggX5_flip_X5_isNoRule
set_option maxRecDepth 20000 in
theorem ggX5_flip_X5_fails : GoodIn wsX5_flip wsX5_fails := goodIn_r _ [21, 22, 109, 110, 111, 112, 113, 114, 115] (by decide +kernel) (by decide +kernel)
set_option maxRecDepth 20000 in
theorem gX5_flip_X5_fails : GoodIn wsX5_flip (wsV RX5 127 RX5 yX5_fails wsX5_fails) := goodIn_app (goodIn_of _ (by decide +kernel)) ggX5_flip_X5_fails
set_option maxRecDepth 20000 in
theorem ggX5_flip_Jx4a65c_get_915e3 : GoodIn wsX5_flip wsJx4a65c_get_915e3 := goodIn_r _ [26, 14, 27, 28, 29, 30, 31, 32, 33, 34, 35, 36, 37, 12, 38, 39, 116, 117, 118] (by decide +kernel) (by decide +kernel)
set_option maxRecDepth 20000 in
theorem gX5_flip_Jx4a65c_get_915e3 : GoodIn wsX5_flip (wsV RX5 67 RJx4a65c yJx4a65c_get_915e3 wsJx4a65c_get_915e3) := goodIn_app (goodIn_of _ (by decide +kernel)) ggX5_flip_Jx4a65c_get_915e3
set_option maxRecDepth 20000 in
theorem ggX5_flip_J0_isEmpty_aae02 : GoodIn wsX5_flip wsJ0_isEmpty_aae02 := goodIn_r _ [44, 45, 119, 120, 121, 122] (by decide +kernel) (by decide +kernel)
set_option maxRecDepth 20000 in
theorem gX5_flip_J0_isEmpty_aae02 : GoodIn wsX5_flip (wsV RX5 151 RJ0 yJ0_isEmpty_aae02 wsJ0_isEmpty_aae02) := goodIn_app (goodIn_of _ (by decide +kernel)) ggX5_flip_J0_isEmpty_aae02
set_option maxRecDepth 20000 in
theorem ggX5_flip_X5_refuse : GoodIn wsX5_flip wsX5_refuse := goodIn_r _ [49, 50, 109, 110, 111, 112, 113, 114, 115] (by decide +kernel) (by decide +kernel)
set_option maxRecDepth 20000 in
theorem gX5_flip_X5_refuse : GoodIn wsX5_flip (wsV RX5 131 RX5 yX5_refuse wsX5_refuse) := goodIn_app (goodIn_of _ (by decide +kernel)) ggX5_flip_X5_refuse
set_option maxRecDepth 20000 in
theorem ggX5_flip_X5_one : GoodIn wsX5_flip wsX5_one := goodIn_r _ [108] (by decide +kernel) (by decide +kernel)
set_option maxRecDepth 20000 in
theorem gX5_flip_X5_one : GoodIn wsX5_flip (va_wsS RX5 165 yX5_one wsX5_one) := goodIn_app (goodIn_of _ (by decide +kernel)) ggX5_flip_X5_one
theorem dX5_flip_0 : decode cX5_flip 0 = .ok (.aload_n 0, 1) := by decide +kernel
theorem dX5_flip_1 : decode cX5_flip 1 = .ok (.aload_n 0, 1) := by decide +kernel
theorem dX5_flip_2 : decode cX5_flip 2 = .ok (.iload_n 1, 1) := by decide +kernel
theorem dX5_flip_3 : decode cX5_flip 3 = .ok (.invokevirtual 155, 3) := by decide +kernel
theorem dX5_flip_6 : decode cX5_flip 6 = .ok (.iconst 0, 1) := by decide +kernel
theorem dX5_flip_7 : decode cX5_flip 7 = .ok (.iconst 0, 1) := by decide +kernel
theorem dX5_flip_8 : decode cX5_flip 8 = .ok (.invokevirtual 127, 3) := by decide +kernel
theorem dX5_flip_11 : decode cX5_flip 11 = .ok (.ifCond .eq 5, 3) := by decide +kernel
theorem dX5_flip_14 : decode cX5_flip 14 = .ok (.iconst 0, 1) := by decide +kernel
theorem dX5_flip_15 : decode cX5_flip 15 = .ok (.ireturn, 1) := by decide +kernel
theorem dX5_flip_16 : decode cX5_flip 16 = .ok (.aload_n 0, 1) := by decide +kernel
theorem dX5_flip_17 : decode cX5_flip 17 = .ok (.getfield 24, 3) := by decide +kernel
theorem dX5_flip_20 : decode cX5_flip 20 = .ok (.iload_n 1, 1) := by decide +kernel
theorem dX5_flip_21 : decode cX5_flip 21 = .ok (.invokevirtual 67, 3) := by decide +kernel
theorem dX5_flip_24 : decode cX5_flip 24 = .ok (.checkcast 7, 3) := by decide +kernel
theorem dX5_flip_27 : decode cX5_flip 27 = .ok (.invokevirtual 151, 3) := by decide +kernel
theorem dX5_flip_30 : decode cX5_flip 30 = .ok (.ifCond .eq 8, 3) := by decide +kernel
theorem dX5_flip_33 : decode cX5_flip 33 = .ok (.aload_n 0, 1) := by decide +kernel
theorem dX5_flip_34 : decode cX5_flip 34 = .ok (.invokevirtual 131, 3) := by decide +kernel
theorem dX5_flip_37 : decode cX5_flip 37 = .ok (.ireturn, 1) := by decide +kernel
theorem dX5_flip_38 : decode cX5_flip 38 = .ok (.aload_n 0, 1) := by decide +kernel
theorem dX5_flip_39 : decode cX5_flip 39 = .ok (.getfield 20, 3) := by decide +kernel
theorem dX5_flip_42 : decode cX5_flip 42 = .ok (.iload_n 1, 1) := by decide +kernel
theorem dX5_flip_43 : decode cX5_flip 43 = .ok (.invokevirtual 67, 3) := by decide +kernel
theorem dX5_flip_46 : decode cX5_flip 46 = .ok (.checkcast 7, 3) := by decide +kernel
theorem dX5_flip_49 : decode cX5_flip 49 = .ok (.astore_n 2, 1) := by decide +kernel
theorem dX5_flip_50 : decode cX5_flip 50 = .ok (.aload_n 0, 1) := by decide +kernel
theorem dX5_flip_51 : decode cX5_flip 51 = .ok (.getfield 20, 3) := by decide +kernel
theorem dX5_flip_54 : decode cX5_flip 54 = .ok (.iload_n 1, 1) := by decide +kernel
theorem dX5_flip_55 : decode cX5_flip 55 = .ok (.aload_n 0, 1) := by decide +kernel
theorem dX5_flip_56 : decode cX5_flip 56 = .ok (.getfield 24, 3) := by decide +kernel
theorem dX5_flip_59 : decode cX5_flip 59 = .ok (.iload_n 1, 1) := by decide +kernel
theorem dX5_flip_60 : decode cX5_flip 60 = .ok (.invokevirtual 67, 3) := by decide +kernel
theorem dX5_flip_63 : decode cX5_flip 63 = .ok (.checkcast 7, 3) := by decide +kernel
theorem dX5_flip_66 : decode cX5_flip 66 = .ok (.invokevirtual 161, 3) := by decide +kernel
theorem dX5_flip_69 : decode cX5_flip 69 = .ok (.pop, 1) := by decide +kernel
theorem dX5_flip_70 : decode cX5_flip 70 = .ok (.aload_n 0, 1) := by decide +kernel
theorem dX5_flip_71 : decode cX5_flip 71 = .ok (.getfield 24, 3) := by decide +kernel
theorem dX5_flip_74 : decode cX5_flip 74 = .ok (.iload_n 1, 1) := by decide +kernel
theorem dX5_flip_75 : decode cX5_flip 75 = .ok (.aload_n 2, 1) := by decide +kernel
theorem dX5_flip_76 : decode cX5_flip 76 = .ok (.invokevirtual 161, 3) := by decide +kernel
theorem dX5_flip_79 : decode cX5_flip 79 = .ok (.pop, 1) := by decide +kernel
theorem dX5_flip_80 : decode cX5_flip 80 = .ok (.aload_n 0, 1) := by decide +kernel
theorem dX5_flip_81 : decode cX5_flip 81 = .ok (.iload_n 1, 1) := by decide +kernel
theorem dX5_flip_82 : decode cX5_flip 82 = .ok (.invokevirtual 75, 3) := by decide +kernel
theorem dX5_flip_85 : decode cX5_flip 85 = .ok (.invokestatic 165, 3) := by decide +kernel
theorem dX5_flip_88 : decode cX5_flip 88 = .ok (.ireturn, 1) := by decide +kernel
set_option maxRecDepth 20000 in
theorem ggX5_side_X5_isNo : GoodIn wsX5_side wsX5_isNo := goodIn_r _ [8, 9, 10, 7, 11] (by decide +kernel) (by decide +kernel)
set_option maxRecDepth 20000 in
theorem gX5_side_X5_isNo : GoodIn wsX5_side (va_wsS RX5 124 yX5_isNo wsX5_isNo) := goodIn_app (goodIn_of _ (by decide +kernel)) ggX5_side_X5_isNo
set_option maxRecDepth 20000 in
theorem ggX5_side_X5_isNoRule : GoodIn wsX5_side wsX5_isNoRule := goodIn_r _ [15, 4, 16, 17, 18, 19, 20, 21, 9, 10, 7, 11, 56, 57, 58, 59, 60, 61, 62, 63, 64, 65] (by decide +kernel) (by decide +kernel)
set_option maxRecDepth 20000 in
theorem gX5_side_X5_isNoRule : GoodIn wsX5_side (wsV RX5 155 RX5 yX5_isNoRule wsX5_isNoRule) := goodIn_app (goodIn_of _ (by decide +kernel)) ggX5_side_X5_isNoRule
set_option maxRecDepth 20000 in
theorem ggX5_side_X5_fails : GoodIn wsX5_side wsX5_fails := goodIn_r _ [25, 26, 56, 57, 58, 59, 60, 61, 62] (by decide +kernel) (by decide +kernel)
set_option maxRecDepth 20000 in
theorem gX5_side_X5_fails : GoodIn wsX5_side (wsV RX5 127 RX5 yX5_fails wsX5_fails) := goodIn_app (goodIn_of _ (by decide +kernel)) ggX5_side_X5_fails
set_option maxRecDepth 20000 in
theorem ggX5_side_Jx4a65c_get_915e3 : GoodIn wsX5_side wsJx4a65c_get_915e3 := goodIn_r _ [30, 21, 31, 32, 33, 34, 35, 36, 37, 38, 39, 40, 41, 19, 42, 43, 63, 64, 65] (by decide +kernel) (by decide +kernel)
set_option maxRecDepth 20000 in
theorem gX5_side_Jx4a65c_get_915e3 : GoodIn wsX5_side (wsV RX5 67 RJx4a65c yJx4a65c_get_915e3 wsJx4a65c_get_915e3) := goodIn_app (goodIn_of _ (by decide +kernel)) ggX5_side_Jx4a65c_get_915e3
set_option maxRecDepth 20000 in
theorem ggX5_side_J0_length_8abf5 : GoodIn wsX5_side wsJ0_length_8abf5 := goodIn_r _ [48, 49, 50, 51, 52, 47, 53, 54, 55, 66, 67, 68, 69] (by decide +kernel) (by decide +kernel)
set_option maxRecDepth 20000 in
theorem gX5_side_J0_length_8abf5 : GoodIn wsX5_side (wsV RX5 42 RJ0 yJ0_length_8abf5 wsJ0_length_8abf5) := goodIn_app (goodIn_of _ (by decide +kernel)) ggX5_side_J0_length_8abf5
theorem dX5_side_0 : decode cX5_side 0 = .ok (.aload_n 0, 1) := by decide +kernel
theorem dX5_side_1 : decode cX5_side 1 = .ok (.iload_n 1, 1) := by decide +kernel
theorem dX5_side_2 : decode cX5_side 2 = .ok (.invokestatic 124, 3) := by decide +kernel
theorem dX5_side_5 : decode cX5_side 5 = .ok (.ifCond .ne 11, 3) := by decide +kernel
theorem dX5_side_8 : decode cX5_side 8 = .ok (.aload_n 0, 1) := by decide +kernel
theorem dX5_side_9 : decode cX5_side 9 = .ok (.iload_n 2, 1) := by decide +kernel
theorem dX5_side_10 : decode cX5_side 10 = .ok (.invokevirtual 155, 3) := by decide +kernel
theorem dX5_side_13 : decode cX5_side 13 = .ok (.ifCond .eq 7, 3) := by decide +kernel
theorem dX5_side_16 : decode cX5_side 16 = .ok (.iconst 1, 1) := by decide +kernel
theorem dX5_side_17 : decode cX5_side 17 = .ok (.goto 4, 3) := by decide +kernel
theorem dX5_side_20 : decode cX5_side 20 = .ok (.iconst 0, 1) := by decide +kernel
theorem dX5_side_21 : decode cX5_side 21 = .ok (.iconst 0, 1) := by decide +kernel
theorem dX5_side_22 : decode cX5_side 22 = .ok (.iconst 0, 1) := by decide +kernel
theorem dX5_side_23 : decode cX5_side 23 = .ok (.invokevirtual 127, 3) := by decide +kernel
theorem dX5_side_26 : decode cX5_side 26 = .ok (.ifCond .eq 5, 3) := by decide +kernel
theorem dX5_side_29 : decode cX5_side 29 = .ok (.iconst 0, 1) := by decide +kernel
theorem dX5_side_30 : decode cX5_side 30 = .ok (.ireturn, 1) := by decide +kernel
theorem dX5_side_31 : decode cX5_side 31 = .ok (.aload_n 0, 1) := by decide +kernel
theorem dX5_side_32 : decode cX5_side 32 = .ok (.getfield 11, 3) := by decide +kernel
theorem dX5_side_35 : decode cX5_side 35 = .ok (.iload_n 1, 1) := by decide +kernel
theorem dX5_side_36 : decode cX5_side 36 = .ok (.iload_n 3, 1) := by decide +kernel
theorem dX5_side_37 : decode cX5_side 37 = .ok (.ifCond .eq 17, 3) := by decide +kernel
theorem dX5_side_40 : decode cX5_side 40 = .ok (.aload_n 0, 1) := by decide +kernel
theorem dX5_side_41 : decode cX5_side 41 = .ok (.getfield 24, 3) := by decide +kernel
theorem dX5_side_44 : decode cX5_side 44 = .ok (.iload_n 2, 1) := by decide +kernel
theorem dX5_side_45 : decode cX5_side 45 = .ok (.invokevirtual 67, 3) := by decide +kernel
theorem dX5_side_48 : decode cX5_side 48 = .ok (.checkcast 7, 3) := by decide +kernel
theorem dX5_side_51 : decode cX5_side 51 = .ok (.goto 14, 3) := by decide +kernel
theorem dX5_side_54 : decode cX5_side 54 = .ok (.aload_n 0, 1) := by decide +kernel
theorem dX5_side_55 : decode cX5_side 55 = .ok (.getfield 20, 3) := by decide +kernel
theorem dX5_side_58 : decode cX5_side 58 = .ok (.iload_n 2, 1) := by decide +kernel
theorem dX5_side_59 : decode cX5_side 59 = .ok (.invokevirtual 67, 3) := by decide +kernel
theorem dX5_side_62 : decode cX5_side 62 = .ok (.checkcast 7, 3) := by decide +kernel
theorem dX5_side_65 : decode cX5_side 65 = .ok (.aastore, 1) := by decide +kernel
theorem dX5_side_66 : decode cX5_side 66 = .ok (.aload_n 0, 1) := by decide +kernel
theorem dX5_side_67 : decode cX5_side 67 = .ok (.getfield 11, 3) := by decide +kernel
theorem dX5_side_70 : decode cX5_side 70 = .ok (.iload_n 1, 1) := by decide +kernel
theorem dX5_side_71 : decode cX5_side 71 = .ok (.aaload, 1) := by decide +kernel
theorem dX5_side_72 : decode cX5_side 72 = .ok (.invokevirtual 42, 3) := by decide +kernel
theorem dX5_side_75 : decode cX5_side 75 = .ok (.ireturn, 1) := by decide +kernel
set_option maxRecDepth 20000 in
theorem ggX5_rules_Jx4a65c_size_8abf5 : GoodIn wsX5_rules wsJx4a65c_size_8abf5 := goodIn_r _ [7, 8, 16, 17, 18] (by decide +kernel) (by decide +kernel)
set_option maxRecDepth 20000 in
theorem gX5_rules_Jx4a65c_size_8abf5 : GoodIn wsX5_rules (wsV RX5 35 RJx4a65c yJx4a65c_size_8abf5 wsJx4a65c_size_8abf5) := goodIn_app (goodIn_of _ (by decide +kernel)) ggX5_rules_Jx4a65c_size_8abf5
theorem dX5_rules_0 : decode cX5_rules 0 = .ok (.aload_n 0, 1) := by decide +kernel
theorem dX5_rules_1 : decode cX5_rules 1 = .ok (.iconst 0, 1) := by decide +kernel
theorem dX5_rules_2 : decode cX5_rules 2 = .ok (.putfield 27, 3) := by decide +kernel
theorem dX5_rules_5 : decode cX5_rules 5 = .ok (.aload_n 0, 1) := by decide +kernel
theorem dX5_rules_6 : decode cX5_rules 6 = .ok (.getfield 20, 3) := by decide +kernel
theorem dX5_rules_9 : decode cX5_rules 9 = .ok (.invokevirtual 35, 3) := by decide +kernel
theorem dX5_rules_12 : decode cX5_rules 12 = .ok (.ireturn, 1) := by decide +kernel
set_option maxRecDepth 20000 in
theorem ggX5_ruleText_X5_isNoRule : GoodIn wsX5_ruleText wsX5_isNoRule := goodIn_r _ [5, 6, 7, 8, 9, 10, 11, 12, 13, 14, 4, 15, 253, 254, 255, 256, 257, 258, 259, 260, 261, 262] (by decide +kernel) (by decide +kernel)
set_option maxRecDepth 20000 in
theorem gX5_ruleText_X5_isNoRule : GoodIn wsX5_ruleText (wsV RX5 155 RX5 yX5_isNoRule wsX5_isNoRule) := goodIn_app (goodIn_of _ (by decide +kernel)) ggX5_ruleText_X5_isNoRule
set_option maxRecDepth 20000 in
theorem ggX5_ruleText_X5_fails : GoodIn wsX5_ruleText wsX5_fails := goodIn_r _ [19, 20, 253, 254, 255, 256, 257, 258, 259] (by decide +kernel) (by decide +kernel)
set_option maxRecDepth 20000 in
theorem gX5_ruleText_X5_fails : GoodIn wsX5_ruleText (wsV RX5 127 RX5 yX5_fails wsX5_fails) := goodIn_app (goodIn_of _ (by decide +kernel)) ggX5_ruleText_X5_fails
theorem dX5_ruleText_0 : decode cX5_ruleText 0 = .ok (.aload_n 0, 1) := by decide +kernel
theorem dX5_ruleText_1 : decode cX5_ruleText 1 = .ok (.aload_n 0, 1) := by decide +kernel
theorem dX5_ruleText_2 : decode cX5_ruleText 2 = .ok (.iload_n 1, 1) := by decide +kernel
theorem dX5_ruleText_3 : decode cX5_ruleText 3 = .ok (.invokevirtual 155, 3) := by decide +kernel
theorem dX5_ruleText_6 : decode cX5_ruleText 6 = .ok (.iconst 0, 1) := by decide +kernel
theorem dX5_ruleText_7 : decode cX5_ruleText 7 = .ok (.iconst 0, 1) := by decide +kernel
theorem dX5_ruleText_8 : decode cX5_ruleText 8 = .ok (.invokevirtual 127, 3) := by decide +kernel
theorem dX5_ruleText_11 : decode cX5_ruleText 11 = .ok (.ifCond .eq 8, 3) := by decide +kernel
theorem dX5_ruleText_14 : decode cX5_ruleText 14 = .ok (.ldc 9, 2) := by decide +kernel
theorem dX5_ruleText_16 : decode cX5_ruleText 16 = .ok (.goto 8, 3) := by decide +kernel
theorem dX5_ruleText_19 : decode cX5_ruleText 19 = .ok (.aload_n 0, 1) := by decide +kernel
theorem dX5_ruleText_20 : decode cX5_ruleText 20 = .ok (.iload_n 1, 1) := by decide +kernel
theorem dX5_ruleText_21 : decode cX5_ruleText 21 = .ok (.invokevirtual 171, 3) := by decide +kernel
theorem dX5_ruleText_24 : decode cX5_ruleText 24 = .ok (.areturn, 1) := by decide +kernel
set_option maxRecDepth 20000 in
theorem ggX5_falls_X5_isNoRule : GoodIn wsX5_falls wsX5_isNoRule := goodIn_r _ [5, 6, 7, 8, 9, 10, 11, 12, 13, 14, 4, 15, 93, 94, 95, 96, 97, 98, 99, 100, 101, 102] (by decide +kernel) (by decide +kernel)
set_option maxRecDepth 20000 in
theorem gX5_falls_X5_isNoRule : GoodIn wsX5_falls (wsV RX5 155 RX5 yX5_isNoRule wsX5_isNoRule) := goodIn_app (goodIn_of _ (by decide +kernel)) ggX5_falls_X5_isNoRule
set_option maxRecDepth 20000 in
theorem ggX5_falls_X5_fails : GoodIn wsX5_falls wsX5_fails := goodIn_r _ [19, 20, 93, 94, 95, 96, 97, 98, 99] (by decide +kernel) (by decide +kernel)
set_option maxRecDepth 20000 in
theorem gX5_falls_X5_fails : GoodIn wsX5_falls (wsV RX5 127 RX5 yX5_fails wsX5_fails) := goodIn_app (goodIn_of _ (by decide +kernel)) ggX5_falls_X5_fails
theorem dX5_falls_0 : decode cX5_falls 0 = .ok (.aload_n 0, 1) := by decide +kernel
theorem dX5_falls_1 : decode cX5_falls 1 = .ok (.aload_n 0, 1) := by decide +kernel
theorem dX5_falls_2 : decode cX5_falls 2 = .ok (.iload_n 1, 1) := by decide +kernel
theorem dX5_falls_3 : decode cX5_falls 3 = .ok (.invokevirtual 155, 3) := by decide +kernel
theorem dX5_falls_6 : decode cX5_falls 6 = .ok (.iconst 0, 1) := by decide +kernel
theorem dX5_falls_7 : decode cX5_falls 7 = .ok (.iconst 0, 1) := by decide +kernel
theorem dX5_falls_8 : decode cX5_falls 8 = .ok (.invokevirtual 127, 3) := by decide +kernel
theorem dX5_falls_11 : decode cX5_falls 11 = .ok (.ifCond .ne 15, 3) := by decide +kernel
theorem dX5_falls_14 : decode cX5_falls 14 = .ok (.aload_n 0, 1) := by decide +kernel
theorem dX5_falls_15 : decode cX5_falls 15 = .ok (.iload_n 1, 1) := by decide +kernel
theorem dX5_falls_16 : decode cX5_falls 16 = .ok (.invokevirtual 75, 3) := by decide +kernel
theorem dX5_falls_19 : decode cX5_falls 19 = .ok (.ifCond .eq 7, 3) := by decide +kernel
theorem dX5_falls_22 : decode cX5_falls 22 = .ok (.iconst 1, 1) := by decide +kernel
theorem dX5_falls_23 : decode cX5_falls 23 = .ok (.goto 4, 3) := by decide +kernel
theorem dX5_falls_26 : decode cX5_falls 26 = .ok (.iconst 0, 1) := by decide +kernel
theorem dX5_falls_27 : decode cX5_falls 27 = .ok (.ireturn, 1) := by decide +kernel
set_option maxRecDepth 20000 in
theorem ggX5_areFalling_X5_areAllFalling : GoodIn wsX5_areFalling wsX5_areAllFalling := goodIn_r _ [6, 7, 8, 9, 10, 11, 12, 13, 14, 15, 16, 5, 17, 18, 19, 20, 21, 22, 23, 24, 25, 26, 27, 28, 29, 30, 31, 32, 33, 34, 35, 36, 37, 38, 39, 40, 41, 42, 43, 44, 45, 46, 47, 48, 49, 50, 51, 52, 53, 54, 55, 56, 57, 58, 59, 60, 61, 62, 63, 64, 65, 66, 67, 68, 69, 70, 71, 72, 73, 74, 75, 76, 77, 78, 79, 80, 81, 82, 83, 84, 85, 86, 87, 88, 89, 90, 91, 92, 93, 94, 95, 96, 97, 98, 99] (by decide +kernel) (by decide +kernel)
set_option maxRecDepth 20000 in
theorem gX5_areFalling_X5_areAllFalling : GoodIn wsX5_areFalling (wsV RX5 174 RX5 yX5_areAllFalling wsX5_areAllFalling) := goodIn_app (goodIn_of _ (by decide +kernel)) ggX5_areFalling_X5_areAllFalling
theorem dX5_areFalling_0 : decode cX5_areFalling 0 = .ok (.aload_n 0, 1) := by decide +kernel
theorem dX5_areFalling_1 : decode cX5_areFalling 1 = .ok (.iconst 0, 1) := by decide +kernel
theorem dX5_areFalling_2 : decode cX5_areFalling 2 = .ok (.putfield 27, 3) := by decide +kernel
theorem dX5_areFalling_5 : decode cX5_areFalling 5 = .ok (.aload_n 0, 1) := by decide +kernel
theorem dX5_areFalling_6 : decode cX5_areFalling 6 = .ok (.invokevirtual 174, 3) := by decide +kernel
theorem dX5_areFalling_9 : decode cX5_areFalling 9 = .ok (.ireturn, 1) := by decide +kernel
set_option maxRecDepth 20000 in
theorem ggX5_step_X5_isNo : GoodIn wsX5_step wsX5_isNo := goodIn_r _ [6, 7, 8, 5, 9] (by decide +kernel) (by decide +kernel)
set_option maxRecDepth 20000 in
theorem gX5_step_X5_isNo : GoodIn wsX5_step (va_wsS RX5 124 yX5_isNo wsX5_isNo) := goodIn_app (goodIn_of _ (by decide +kernel)) ggX5_step_X5_isNo
set_option maxRecDepth 20000 in
theorem ggX5_step_X5_isIn : GoodIn wsX5_step wsX5_isIn := goodIn_r _ [9] (by decide +kernel) (by decide +kernel)
set_option maxRecDepth 20000 in
theorem gX5_step_X5_isIn : GoodIn wsX5_step (va_wsS RX5 31 yX5_isIn wsX5_isIn) := goodIn_app (goodIn_of _ (by decide +kernel)) ggX5_step_X5_isIn
set_option maxRecDepth 20000 in
theorem ggX5_step_X5_fails : GoodIn wsX5_step wsX5_fails := goodIn_r _ [13, 14, 320, 321, 322, 323, 324, 325, 326] (by decide +kernel) (by decide +kernel)
set_option maxRecDepth 20000 in
theorem gX5_step_X5_fails : GoodIn wsX5_step (wsV RX5 127 RX5 yX5_fails wsX5_fails) := goodIn_app (goodIn_of _ (by decide +kernel)) ggX5_step_X5_fails
set_option maxRecDepth 20000 in
theorem ggX5_step_X5_chosen : GoodIn wsX5_step wsX5_chosen := goodIn_r _ [18, 19, 20, 21, 22, 23, 24, 25, 26, 27, 28, 29, 30, 31, 32, 33, 34, 35, 36, 37, 38, 39, 40, 41, 42, 43, 44, 45, 46, 47, 48, 49, 50, 51, 52, 53, 54, 55, 56, 57, 58, 5, 59, 60, 61, 62, 63, 64, 65, 66, 67, 68, 69, 70, 71, 72, 73, 74, 75, 76, 77, 78, 79, 80, 81, 82, 83, 84, 85, 86, 87, 88, 89, 90, 91, 92, 93, 320, 321, 322, 323, 324, 325, 326, 327, 328, 329, 330, 331, 332, 333] (by decide +kernel) (by decide +kernel)
set_option maxRecDepth 20000 in
theorem gX5_step_X5_chosen : GoodIn wsX5_step (wsV RX5 91 RX5 yX5_chosen wsX5_chosen) := goodIn_app (goodIn_of _ (by decide +kernel)) ggX5_step_X5_chosen
set_option maxRecDepth 20000 in
theorem ggX5_step_J0_length_8abf5 : GoodIn wsX5_step wsJ0_length_8abf5 := goodIn_r _ [32, 33, 34, 35, 36, 31, 37, 38, 39, 330, 331, 332, 333] (by decide +kernel) (by decide +kernel)
set_option maxRecDepth 20000 in
theorem gX5_step_J0_length_8abf5 : GoodIn wsX5_step (wsV RX5 42 RJ0 yJ0_length_8abf5 wsJ0_length_8abf5) := goodIn_app (goodIn_of _ (by decide +kernel)) ggX5_step_J0_length_8abf5
set_option maxRecDepth 20000 in
theorem ggX5_step_X5_refuse : GoodIn wsX5_step wsX5_refuse := goodIn_r _ [318, 319, 320, 321, 322, 323, 324, 325, 326] (by decide +kernel) (by decide +kernel)
set_option maxRecDepth 20000 in
theorem gX5_step_X5_refuse : GoodIn wsX5_step (wsV RX5 131 RX5 yX5_refuse wsX5_refuse) := goodIn_app (goodIn_of _ (by decide +kernel)) ggX5_step_X5_refuse
theorem dX5_step_0 : decode cX5_step 0 = .ok (.aload_n 0, 1) := by decide +kernel
theorem dX5_step_1 : decode cX5_step 1 = .ok (.iload_n 1, 1) := by decide +kernel
theorem dX5_step_2 : decode cX5_step 2 = .ok (.invokestatic 124, 3) := by decide +kernel
theorem dX5_step_5 : decode cX5_step 5 = .ok (.iload_n 2, 1) := by decide +kernel
theorem dX5_step_6 : decode cX5_step 6 = .ok (.iconst 0, 1) := by decide +kernel
theorem dX5_step_7 : decode cX5_step 7 = .ok (.iconst 2, 1) := by decide +kernel
theorem dX5_step_8 : decode cX5_step 8 = .ok (.invokestatic 31, 3) := by decide +kernel
theorem dX5_step_11 : decode cX5_step 11 = .ok (.ifCond .ne 7, 3) := by decide +kernel
theorem dX5_step_14 : decode cX5_step 14 = .ok (.iconst 1, 1) := by decide +kernel
theorem dX5_step_15 : decode cX5_step 15 = .ok (.goto 4, 3) := by decide +kernel
theorem dX5_step_18 : decode cX5_step 18 = .ok (.iconst 0, 1) := by decide +kernel
theorem dX5_step_19 : decode cX5_step 19 = .ok (.iconst 0, 1) := by decide +kernel
theorem dX5_step_20 : decode cX5_step 20 = .ok (.invokevirtual 127, 3) := by decide +kernel
theorem dX5_step_23 : decode cX5_step 23 = .ok (.ifCond .eq 5, 3) := by decide +kernel
theorem dX5_step_26 : decode cX5_step 26 = .ok (.iconst 0, 1) := by decide +kernel
theorem dX5_step_27 : decode cX5_step 27 = .ok (.ireturn, 1) := by decide +kernel
theorem dX5_step_28 : decode cX5_step 28 = .ok (.aload_n 0, 1) := by decide +kernel
theorem dX5_step_29 : decode cX5_step 29 = .ok (.aload_n 0, 1) := by decide +kernel
theorem dX5_step_30 : decode cX5_step 30 = .ok (.getfield 11, 3) := by decide +kernel
theorem dX5_step_33 : decode cX5_step 33 = .ok (.iload_n 1, 1) := by decide +kernel
theorem dX5_step_34 : decode cX5_step 34 = .ok (.aaload, 1) := by decide +kernel
theorem dX5_step_35 : decode cX5_step 35 = .ok (.iload_n 2, 1) := by decide +kernel
theorem dX5_step_36 : decode cX5_step 36 = .ok (.invokevirtual 91, 3) := by decide +kernel
theorem dX5_step_39 : decode cX5_step 39 = .ok (.astore_n 3, 1) := by decide +kernel
theorem dX5_step_40 : decode cX5_step 40 = .ok (.aload_n 3, 1) := by decide +kernel
theorem dX5_step_41 : decode cX5_step 41 = .ok (.ifnonnull 5, 3) := by decide +kernel
theorem dX5_step_44 : decode cX5_step 44 = .ok (.iconst (-1), 1) := by decide +kernel
theorem dX5_step_45 : decode cX5_step 45 = .ok (.ireturn, 1) := by decide +kernel
theorem dX5_step_46 : decode cX5_step 46 = .ok (.aload_n 0, 1) := by decide +kernel
theorem dX5_step_47 : decode cX5_step 47 = .ok (.aload_n 0, 1) := by decide +kernel
theorem dX5_step_48 : decode cX5_step 48 = .ok (.getfield 11, 3) := by decide +kernel
theorem dX5_step_51 : decode cX5_step 51 = .ok (.iload_n 1, 1) := by decide +kernel
theorem dX5_step_52 : decode cX5_step 52 = .ok (.aaload, 1) := by decide +kernel
theorem dX5_step_53 : decode cX5_step 53 = .ok (.aload_n 3, 1) := by decide +kernel
theorem dX5_step_54 : decode cX5_step 54 = .ok (.invokevirtual 95, 3) := by decide +kernel
theorem dX5_step_57 : decode cX5_step 57 = .ok (.astore 4, 2) := by decide +kernel
theorem dX5_step_59 : decode cX5_step 59 = .ok (.aload 4, 2) := by decide +kernel
theorem dX5_step_61 : decode cX5_step 61 = .ok (.invokevirtual 42, 3) := by decide +kernel
theorem dX5_step_64 : decode cX5_step 64 = .ok (.bipush 32, 2) := by decide +kernel
theorem dX5_step_66 : decode cX5_step 66 = .ok (.if_icmp .le 8, 3) := by decide +kernel
theorem dX5_step_69 : decode cX5_step 69 = .ok (.aload_n 0, 1) := by decide +kernel
theorem dX5_step_70 : decode cX5_step 70 = .ok (.invokevirtual 131, 3) := by decide +kernel
theorem dX5_step_73 : decode cX5_step 73 = .ok (.ireturn, 1) := by decide +kernel
theorem dX5_step_74 : decode cX5_step 74 = .ok (.aload_n 0, 1) := by decide +kernel
theorem dX5_step_75 : decode cX5_step 75 = .ok (.getfield 11, 3) := by decide +kernel
theorem dX5_step_78 : decode cX5_step 78 = .ok (.iload_n 1, 1) := by decide +kernel
theorem dX5_step_79 : decode cX5_step 79 = .ok (.aload 4, 2) := by decide +kernel
theorem dX5_step_81 : decode cX5_step 81 = .ok (.aastore, 1) := by decide +kernel
theorem dX5_step_82 : decode cX5_step 82 = .ok (.aload_n 0, 1) := by decide +kernel
theorem dX5_step_83 : decode cX5_step 83 = .ok (.dup, 1) := by decide +kernel
theorem dX5_step_84 : decode cX5_step 84 = .ok (.getfield 177, 3) := by decide +kernel
theorem dX5_step_87 : decode cX5_step 87 = .ok (.iconst 1, 1) := by decide +kernel
theorem dX5_step_88 : decode cX5_step 88 = .ok (.iadd, 1) := by decide +kernel
theorem dX5_step_89 : decode cX5_step 89 = .ok (.putfield 177, 3) := by decide +kernel
theorem dX5_step_92 : decode cX5_step 92 = .ok (.aload_n 3, 1) := by decide +kernel
theorem dX5_step_93 : decode cX5_step 93 = .ok (.iconst 0, 1) := by decide +kernel
theorem dX5_step_94 : decode cX5_step 94 = .ok (.iaload, 1) := by decide +kernel
theorem dX5_step_95 : decode cX5_step 95 = .ok (.ireturn, 1) := by decide +kernel
set_option maxRecDepth 20000 in
theorem ggX5_run_X5_isNo : GoodIn wsX5_run wsX5_isNo := goodIn_r _ [7, 8, 9, 6, 10] (by decide +kernel) (by decide +kernel)
set_option maxRecDepth 20000 in
theorem gX5_run_X5_isNo : GoodIn wsX5_run (va_wsS RX5 124 yX5_isNo wsX5_isNo) := goodIn_app (goodIn_of _ (by decide +kernel)) ggX5_run_X5_isNo
set_option maxRecDepth 20000 in
theorem ggX5_run_X5_isIn : GoodIn wsX5_run wsX5_isIn := goodIn_r _ [10] (by decide +kernel) (by decide +kernel)
set_option maxRecDepth 20000 in
theorem gX5_run_X5_isIn : GoodIn wsX5_run (va_wsS RX5 31 yX5_isIn wsX5_isIn) := goodIn_app (goodIn_of _ (by decide +kernel)) ggX5_run_X5_isIn
set_option maxRecDepth 20000 in
theorem ggX5_run_X5_fails : GoodIn wsX5_run wsX5_fails := goodIn_r _ [14, 15, 319, 320, 321, 322, 323, 324, 325] (by decide +kernel) (by decide +kernel)
set_option maxRecDepth 20000 in
theorem gX5_run_X5_fails : GoodIn wsX5_run (wsV RX5 127 RX5 yX5_fails wsX5_fails) := goodIn_app (goodIn_of _ (by decide +kernel)) ggX5_run_X5_fails
set_option maxRecDepth 20000 in
theorem ggX5_run_X5_rewritten : GoodIn wsX5_run wsX5_rewritten := goodIn_r _ [19, 20, 21, 22, 6, 23, 24, 25, 1, 26, 27, 28, 29, 30, 31, 32, 33, 34, 35, 36, 37, 38, 39, 40, 41, 42, 43, 44, 45, 46, 47, 48, 49, 50, 51, 52, 53, 54, 55, 56, 57, 58, 59, 60, 61, 62, 63, 64, 65, 66, 67, 68, 69, 70, 71, 72, 73, 74, 75, 76, 77, 78, 79, 80, 81, 82, 83, 84, 85, 86, 87, 88, 89, 90, 91, 92, 93, 94, 95, 96, 97, 98, 99, 100, 101, 102, 103, 104, 105, 106, 107, 108, 109, 110, 111, 112, 113, 114, 115, 116, 117, 118, 119, 120, 121, 122, 123, 124, 125, 126, 127, 128, 129, 130, 131, 132, 133, 134, 135, 136, 137, 138, 139, 140, 141, 142, 143, 144, 145, 146, 147, 148, 149, 150, 151, 152, 153, 154, 155, 156, 157, 158, 159, 160, 161, 162, 163, 164, 165, 166, 167, 168, 169, 170, 171, 172, 173, 174, 175, 176, 177, 178, 179, 180, 181, 182, 183, 184, 185, 186, 187, 188, 189, 190, 191, 192, 193, 194, 195, 196, 197, 198, 199, 200, 201, 202, 203, 204, 205, 206, 207, 208, 209, 210, 211, 212, 213, 214, 215, 216, 217, 218, 219, 220, 221, 222, 223, 224, 225, 226, 227, 228, 229, 230, 231, 232, 233, 234, 235, 236, 237, 238, 239, 240, 241, 242, 243, 244, 245, 246, 247, 248, 249, 250, 251, 252, 253, 254, 255, 256, 257, 258, 259, 260, 261, 262, 263, 264, 265, 266, 267, 268, 269, 270, 271, 272, 273, 274, 275, 276, 277, 278, 279, 280, 281, 282, 283, 284, 285, 286, 287, 288, 289, 290, 291, 292, 293, 294, 295, 296, 297, 298, 299, 300, 301, 302, 303, 304, 305, 306, 307, 308, 309, 310, 311, 312, 313, 314, 315, 316, 317, 318, 319, 320, 321, 322, 323, 324, 325, 326, 327, 328, 329, 330, 331, 332, 333, 334, 335, 336] (by decide +kernel) (by decide +kernel)
set_option maxRecDepth 20000 in
theorem gX5_run_X5_rewritten : GoodIn wsX5_run (wsV RX5 99 RX5 yX5_rewritten wsX5_rewritten) := goodIn_app (goodIn_of _ (by decide +kernel)) ggX5_run_X5_rewritten
theorem dX5_run_0 : decode cX5_run 0 = .ok (.aload_n 0, 1) := by decide +kernel
theorem dX5_run_1 : decode cX5_run 1 = .ok (.iload_n 1, 1) := by decide +kernel
theorem dX5_run_2 : decode cX5_run 2 = .ok (.invokestatic 124, 3) := by decide +kernel
theorem dX5_run_5 : decode cX5_run 5 = .ok (.iload_n 2, 1) := by decide +kernel
theorem dX5_run_6 : decode cX5_run 6 = .ok (.iconst 0, 1) := by decide +kernel
theorem dX5_run_7 : decode cX5_run 7 = .ok (.iconst 2, 1) := by decide +kernel
theorem dX5_run_8 : decode cX5_run 8 = .ok (.invokestatic 31, 3) := by decide +kernel
theorem dX5_run_11 : decode cX5_run 11 = .ok (.ifCond .eq 13, 3) := by decide +kernel
theorem dX5_run_14 : decode cX5_run 14 = .ok (.iload_n 3, 1) := by decide +kernel
theorem dX5_run_15 : decode cX5_run 15 = .ok (.iconst 1, 1) := by decide +kernel
theorem dX5_run_16 : decode cX5_run 16 = .ok (.bipush 40, 2) := by decide +kernel
theorem dX5_run_18 : decode cX5_run 18 = .ok (.invokestatic 31, 3) := by decide +kernel
theorem dX5_run_21 : decode cX5_run 21 = .ok (.ifCond .ne 7, 3) := by decide +kernel
theorem dX5_run_24 : decode cX5_run 24 = .ok (.iconst 1, 1) := by decide +kernel
theorem dX5_run_25 : decode cX5_run 25 = .ok (.goto 4, 3) := by decide +kernel
theorem dX5_run_28 : decode cX5_run 28 = .ok (.iconst 0, 1) := by decide +kernel
theorem dX5_run_29 : decode cX5_run 29 = .ok (.iconst 0, 1) := by decide +kernel
theorem dX5_run_30 : decode cX5_run 30 = .ok (.invokevirtual 127, 3) := by decide +kernel
theorem dX5_run_33 : decode cX5_run 33 = .ok (.ifCond .eq 5, 3) := by decide +kernel
theorem dX5_run_36 : decode cX5_run 36 = .ok (.iconst 0, 1) := by decide +kernel
theorem dX5_run_37 : decode cX5_run 37 = .ok (.ireturn, 1) := by decide +kernel
theorem dX5_run_38 : decode cX5_run 38 = .ok (.iconst 1, 1) := by decide +kernel
theorem dX5_run_39 : decode cX5_run 39 = .ok (.newarray .int, 2) := by decide +kernel
theorem dX5_run_41 : decode cX5_run 41 = .ok (.dup, 1) := by decide +kernel
theorem dX5_run_42 : decode cX5_run 42 = .ok (.iconst 0, 1) := by decide +kernel
theorem dX5_run_43 : decode cX5_run 43 = .ok (.iconst 0, 1) := by decide +kernel
theorem dX5_run_44 : decode cX5_run 44 = .ok (.iastore, 1) := by decide +kernel
theorem dX5_run_45 : decode cX5_run 45 = .ok (.astore 4, 2) := by decide +kernel
theorem dX5_run_47 : decode cX5_run 47 = .ok (.aload_n 0, 1) := by decide +kernel
theorem dX5_run_48 : decode cX5_run 48 = .ok (.getfield 11, 3) := by decide +kernel
theorem dX5_run_51 : decode cX5_run 51 = .ok (.iload_n 1, 1) := by decide +kernel
theorem dX5_run_52 : decode cX5_run 52 = .ok (.aload_n 0, 1) := by decide +kernel
theorem dX5_run_53 : decode cX5_run 53 = .ok (.aload_n 0, 1) := by decide +kernel
theorem dX5_run_54 : decode cX5_run 54 = .ok (.getfield 11, 3) := by decide +kernel
theorem dX5_run_57 : decode cX5_run 57 = .ok (.iload_n 1, 1) := by decide +kernel
theorem dX5_run_58 : decode cX5_run 58 = .ok (.aaload, 1) := by decide +kernel
theorem dX5_run_59 : decode cX5_run 59 = .ok (.iload_n 2, 1) := by decide +kernel
theorem dX5_run_60 : decode cX5_run 60 = .ok (.iload_n 3, 1) := by decide +kernel
theorem dX5_run_61 : decode cX5_run 61 = .ok (.aload 4, 2) := by decide +kernel
theorem dX5_run_63 : decode cX5_run 63 = .ok (.invokevirtual 99, 3) := by decide +kernel
theorem dX5_run_66 : decode cX5_run 66 = .ok (.aastore, 1) := by decide +kernel
theorem dX5_run_67 : decode cX5_run 67 = .ok (.aload_n 0, 1) := by decide +kernel
theorem dX5_run_68 : decode cX5_run 68 = .ok (.dup, 1) := by decide +kernel
theorem dX5_run_69 : decode cX5_run 69 = .ok (.getfield 177, 3) := by decide +kernel
theorem dX5_run_72 : decode cX5_run 72 = .ok (.aload 4, 2) := by decide +kernel
theorem dX5_run_74 : decode cX5_run 74 = .ok (.iconst 0, 1) := by decide +kernel
theorem dX5_run_75 : decode cX5_run 75 = .ok (.iaload, 1) := by decide +kernel
theorem dX5_run_76 : decode cX5_run 76 = .ok (.iadd, 1) := by decide +kernel
theorem dX5_run_77 : decode cX5_run 77 = .ok (.putfield 177, 3) := by decide +kernel
theorem dX5_run_80 : decode cX5_run 80 = .ok (.aload 4, 2) := by decide +kernel
theorem dX5_run_82 : decode cX5_run 82 = .ok (.iconst 0, 1) := by decide +kernel
theorem dX5_run_83 : decode cX5_run 83 = .ok (.iaload, 1) := by decide +kernel
theorem dX5_run_84 : decode cX5_run 84 = .ok (.ireturn, 1) := by decide +kernel
set_option maxRecDepth 20000 in
theorem ggX5_pick_X5_isNo : GoodIn wsX5_pick wsX5_isNo := goodIn_r _ [7, 8, 9, 6, 10] (by decide +kernel) (by decide +kernel)
set_option maxRecDepth 20000 in
theorem gX5_pick_X5_isNo : GoodIn wsX5_pick (va_wsS RX5 124 yX5_isNo wsX5_isNo) := goodIn_app (goodIn_of _ (by decide +kernel)) ggX5_pick_X5_isNo
set_option maxRecDepth 20000 in
theorem ggX5_pick_X5_fails : GoodIn wsX5_pick wsX5_fails := goodIn_r _ [14, 15, 370, 371, 372, 373, 374, 375, 376] (by decide +kernel) (by decide +kernel)
set_option maxRecDepth 20000 in
theorem gX5_pick_X5_fails : GoodIn wsX5_pick (wsV RX5 127 RX5 yX5_fails wsX5_fails) := goodIn_app (goodIn_of _ (by decide +kernel)) ggX5_pick_X5_fails
set_option maxRecDepth 20000 in
theorem ggX5_pick_X5_spotsOf : GoodIn wsX5_pick wsX5_spotsOf := goodIn_r _ [19, 20, 21, 22, 23, 24, 25, 26, 27, 28, 29, 30, 31, 32, 33, 34, 35, 36, 37, 38, 39, 40, 41, 42, 43, 44, 45, 46, 47, 48, 49, 50, 51, 52, 53, 54, 55, 56, 57, 58, 59, 60, 61, 62, 63, 64, 65, 66, 67, 68, 69, 70, 71, 72, 73, 74, 75, 76, 77, 6, 78, 79, 80, 81, 82, 83, 84, 85, 86, 87, 88, 89, 90, 91, 92, 93, 94, 95, 96, 97, 98, 99, 100, 101, 102, 103, 104, 105, 106, 107, 108, 109, 110, 111, 112, 113, 114, 115, 116, 117, 118, 119, 120, 121, 122, 123, 124, 125, 126, 127, 128, 129, 130, 131, 132, 133, 134, 135, 136, 137, 138, 139, 140, 141, 142, 143, 144, 145, 146, 147, 148, 149, 150, 151, 152, 153, 154, 155, 156, 157, 158, 159, 160, 161, 162, 163, 164, 377, 378, 379, 370, 371, 372, 373, 374, 375, 376, 380, 381, 382, 383] (by decide +kernel) (by decide +kernel)
set_option maxRecDepth 20000 in
theorem gX5_pick_X5_spotsOf : GoodIn wsX5_pick (wsV RX5 180 RX5 yX5_spotsOf wsX5_spotsOf) := goodIn_app (goodIn_of _ (by decide +kernel)) ggX5_pick_X5_spotsOf
set_option maxRecDepth 20000 in
theorem ggX5_pick_Jx4a65c_size_8abf5 : GoodIn wsX5_pick wsJx4a65c_size_8abf5 := goodIn_r _ [58, 59, 377, 378, 379] (by decide +kernel) (by decide +kernel)
set_option maxRecDepth 20000 in
theorem gX5_pick_Jx4a65c_size_8abf5 : GoodIn wsX5_pick (wsV RX5 35 RJx4a65c yJx4a65c_size_8abf5 wsJx4a65c_size_8abf5) := goodIn_app (goodIn_of _ (by decide +kernel)) ggX5_pick_Jx4a65c_size_8abf5
set_option maxRecDepth 20000 in
theorem ggX5_pick_X5_isIn : GoodIn wsX5_pick wsX5_isIn := goodIn_r _ [10] (by decide +kernel) (by decide +kernel)
set_option maxRecDepth 20000 in
theorem gX5_pick_X5_isIn : GoodIn wsX5_pick (va_wsS RX5 31 yX5_isIn wsX5_isIn) := goodIn_app (goodIn_of _ (by decide +kernel)) ggX5_pick_X5_isIn
set_option maxRecDepth 20000 in
theorem ggX5_pick_Jx4a65c_get_915e3 : GoodIn wsX5_pick wsJx4a65c_get_915e3 := goodIn_r _ [63, 59, 64, 65, 66, 67, 68, 69, 70, 71, 72, 73, 74, 22, 75, 30, 377, 378, 379] (by decide +kernel) (by decide +kernel)
set_option maxRecDepth 20000 in
theorem gX5_pick_Jx4a65c_get_915e3 : GoodIn wsX5_pick (wsV RX5 67 RJx4a65c yJx4a65c_get_915e3 wsJx4a65c_get_915e3) := goodIn_app (goodIn_of _ (by decide +kernel)) ggX5_pick_Jx4a65c_get_915e3
set_option maxRecDepth 20000 in
theorem ggX5_pick_J0_length_8abf5 : GoodIn wsX5_pick wsJ0_length_8abf5 := goodIn_r _ [47, 48, 49, 50, 51, 46, 52, 53, 54, 380, 381, 382, 383] (by decide +kernel) (by decide +kernel)
set_option maxRecDepth 20000 in
theorem gX5_pick_J0_length_8abf5 : GoodIn wsX5_pick (wsV RX5 42 RJ0 yJ0_length_8abf5 wsJ0_length_8abf5) := goodIn_app (goodIn_of _ (by decide +kernel)) ggX5_pick_J0_length_8abf5
set_option maxRecDepth 20000 in
theorem ggX5_pick_X5_refuse : GoodIn wsX5_pick wsX5_refuse := goodIn_r _ [368, 369, 370, 371, 372, 373, 374, 375, 376] (by decide +kernel) (by decide +kernel)
set_option maxRecDepth 20000 in
theorem gX5_pick_X5_refuse : GoodIn wsX5_pick (wsV RX5 131 RX5 yX5_refuse wsX5_refuse) := goodIn_app (goodIn_of _ (by decide +kernel)) ggX5_pick_X5_refuse
theorem dX5_pick_0 : decode cX5_pick 0 = .ok (.aload_n 0, 1) := by decide +kernel
theorem dX5_pick_1 : decode cX5_pick 1 = .ok (.iload_n 1, 1) := by decide +kernel
theorem dX5_pick_2 : decode cX5_pick 2 = .ok (.invokestatic 124, 3) := by decide +kernel
theorem dX5_pick_5 : decode cX5_pick 5 = .ok (.iconst 0, 1) := by decide +kernel
theorem dX5_pick_6 : decode cX5_pick 6 = .ok (.iconst 0, 1) := by decide +kernel
theorem dX5_pick_7 : decode cX5_pick 7 = .ok (.invokevirtual 127, 3) := by decide +kernel
theorem dX5_pick_10 : decode cX5_pick 10 = .ok (.ifCond .eq 5, 3) := by decide +kernel
theorem dX5_pick_13 : decode cX5_pick 13 = .ok (.iconst 0, 1) := by decide +kernel
theorem dX5_pick_14 : decode cX5_pick 14 = .ok (.ireturn, 1) := by decide +kernel
theorem dX5_pick_15 : decode cX5_pick 15 = .ok (.aload_n 0, 1) := by decide +kernel
theorem dX5_pick_16 : decode cX5_pick 16 = .ok (.aload_n 0, 1) := by decide +kernel
theorem dX5_pick_17 : decode cX5_pick 17 = .ok (.getfield 11, 3) := by decide +kernel
theorem dX5_pick_20 : decode cX5_pick 20 = .ok (.iload_n 1, 1) := by decide +kernel
theorem dX5_pick_21 : decode cX5_pick 21 = .ok (.aaload, 1) := by decide +kernel
theorem dX5_pick_22 : decode cX5_pick 22 = .ok (.invokevirtual 180, 3) := by decide +kernel
theorem dX5_pick_25 : decode cX5_pick 25 = .ok (.astore_n 3, 1) := by decide +kernel
theorem dX5_pick_26 : decode cX5_pick 26 = .ok (.iload_n 2, 1) := by decide +kernel
theorem dX5_pick_27 : decode cX5_pick 27 = .ok (.iconst 0, 1) := by decide +kernel
theorem dX5_pick_28 : decode cX5_pick 28 = .ok (.aload_n 3, 1) := by decide +kernel
theorem dX5_pick_29 : decode cX5_pick 29 = .ok (.invokevirtual 35, 3) := by decide +kernel
theorem dX5_pick_32 : decode cX5_pick 32 = .ok (.iconst 1, 1) := by decide +kernel
theorem dX5_pick_33 : decode cX5_pick 33 = .ok (.isub, 1) := by decide +kernel
theorem dX5_pick_34 : decode cX5_pick 34 = .ok (.invokestatic 31, 3) := by decide +kernel
theorem dX5_pick_37 : decode cX5_pick 37 = .ok (.ifCond .eq 29, 3) := by decide +kernel
theorem dX5_pick_40 : decode cX5_pick 40 = .ok (.aload_n 0, 1) := by decide +kernel
theorem dX5_pick_41 : decode cX5_pick 41 = .ok (.aload_n 0, 1) := by decide +kernel
theorem dX5_pick_42 : decode cX5_pick 42 = .ok (.getfield 11, 3) := by decide +kernel
theorem dX5_pick_45 : decode cX5_pick 45 = .ok (.iload_n 1, 1) := by decide +kernel
theorem dX5_pick_46 : decode cX5_pick 46 = .ok (.aaload, 1) := by decide +kernel
theorem dX5_pick_47 : decode cX5_pick 47 = .ok (.aload_n 3, 1) := by decide +kernel
theorem dX5_pick_48 : decode cX5_pick 48 = .ok (.iload_n 2, 1) := by decide +kernel
theorem dX5_pick_49 : decode cX5_pick 49 = .ok (.invokevirtual 67, 3) := by decide +kernel
theorem dX5_pick_52 : decode cX5_pick 52 = .ok (.checkcast 184, 3) := by decide +kernel
theorem dX5_pick_55 : decode cX5_pick 55 = .ok (.invokevirtual 95, 3) := by decide +kernel
theorem dX5_pick_58 : decode cX5_pick 58 = .ok (.invokevirtual 42, 3) := by decide +kernel
theorem dX5_pick_61 : decode cX5_pick 61 = .ok (.bipush 32, 2) := by decide +kernel
theorem dX5_pick_63 : decode cX5_pick 63 = .ok (.if_icmp .le 8, 3) := by decide +kernel
theorem dX5_pick_66 : decode cX5_pick 66 = .ok (.aload_n 0, 1) := by decide +kernel
theorem dX5_pick_67 : decode cX5_pick 67 = .ok (.invokevirtual 131, 3) := by decide +kernel
theorem dX5_pick_70 : decode cX5_pick 70 = .ok (.ireturn, 1) := by decide +kernel
theorem dX5_pick_71 : decode cX5_pick 71 = .ok (.aload_n 0, 1) := by decide +kernel
theorem dX5_pick_72 : decode cX5_pick 72 = .ok (.getfield 11, 3) := by decide +kernel
theorem dX5_pick_75 : decode cX5_pick 75 = .ok (.iload_n 1, 1) := by decide +kernel
theorem dX5_pick_76 : decode cX5_pick 76 = .ok (.aload_n 0, 1) := by decide +kernel
theorem dX5_pick_77 : decode cX5_pick 77 = .ok (.aload_n 0, 1) := by decide +kernel
theorem dX5_pick_78 : decode cX5_pick 78 = .ok (.getfield 11, 3) := by decide +kernel
theorem dX5_pick_81 : decode cX5_pick 81 = .ok (.iload_n 1, 1) := by decide +kernel
theorem dX5_pick_82 : decode cX5_pick 82 = .ok (.aaload, 1) := by decide +kernel
theorem dX5_pick_83 : decode cX5_pick 83 = .ok (.aload_n 3, 1) := by decide +kernel
theorem dX5_pick_84 : decode cX5_pick 84 = .ok (.iload_n 2, 1) := by decide +kernel
theorem dX5_pick_85 : decode cX5_pick 85 = .ok (.invokevirtual 67, 3) := by decide +kernel
theorem dX5_pick_88 : decode cX5_pick 88 = .ok (.checkcast 184, 3) := by decide +kernel
theorem dX5_pick_91 : decode cX5_pick 91 = .ok (.invokevirtual 95, 3) := by decide +kernel
theorem dX5_pick_94 : decode cX5_pick 94 = .ok (.aastore, 1) := by decide +kernel
theorem dX5_pick_95 : decode cX5_pick 95 = .ok (.aload_n 0, 1) := by decide +kernel
theorem dX5_pick_96 : decode cX5_pick 96 = .ok (.dup, 1) := by decide +kernel
theorem dX5_pick_97 : decode cX5_pick 97 = .ok (.getfield 177, 3) := by decide +kernel
theorem dX5_pick_100 : decode cX5_pick 100 = .ok (.iconst 1, 1) := by decide +kernel
theorem dX5_pick_101 : decode cX5_pick 101 = .ok (.iadd, 1) := by decide +kernel
theorem dX5_pick_102 : decode cX5_pick 102 = .ok (.putfield 177, 3) := by decide +kernel
theorem dX5_pick_105 : decode cX5_pick 105 = .ok (.aload_n 0, 1) := by decide +kernel
theorem dX5_pick_106 : decode cX5_pick 106 = .ok (.getfield 11, 3) := by decide +kernel
theorem dX5_pick_109 : decode cX5_pick 109 = .ok (.iload_n 1, 1) := by decide +kernel
theorem dX5_pick_110 : decode cX5_pick 110 = .ok (.aaload, 1) := by decide +kernel
theorem dX5_pick_111 : decode cX5_pick 111 = .ok (.invokevirtual 42, 3) := by decide +kernel
theorem dX5_pick_114 : decode cX5_pick 114 = .ok (.ireturn, 1) := by decide +kernel
set_option maxRecDepth 20000 in
theorem ggX5_unwind_X5_isNo : GoodIn wsX5_unwind wsX5_isNo := goodIn_r _ [9, 10, 11, 8, 12] (by decide +kernel) (by decide +kernel)
set_option maxRecDepth 20000 in
theorem gX5_unwind_X5_isNo : GoodIn wsX5_unwind (va_wsS RX5 124 yX5_isNo wsX5_isNo) := goodIn_app (goodIn_of _ (by decide +kernel)) ggX5_unwind_X5_isNo
set_option maxRecDepth 20000 in
theorem ggX5_unwind_X5_isNoRule : GoodIn wsX5_unwind wsX5_isNoRule := goodIn_r _ [16, 5, 17, 18, 19, 20, 21, 22, 10, 11, 8, 12, 388, 389, 390, 391, 392, 393, 394, 395, 396, 397] (by decide +kernel) (by decide +kernel)
set_option maxRecDepth 20000 in
theorem gX5_unwind_X5_isNoRule : GoodIn wsX5_unwind (wsV RX5 155 RX5 yX5_isNoRule wsX5_isNoRule) := goodIn_app (goodIn_of _ (by decide +kernel)) ggX5_unwind_X5_isNoRule
set_option maxRecDepth 20000 in
theorem ggX5_unwind_X5_fails : GoodIn wsX5_unwind wsX5_fails := goodIn_r _ [26, 27, 388, 389, 390, 391, 392, 393, 394] (by decide +kernel) (by decide +kernel)
set_option maxRecDepth 20000 in
theorem gX5_unwind_X5_fails : GoodIn wsX5_unwind (wsV RX5 127 RX5 yX5_fails wsX5_fails) := goodIn_app (goodIn_of _ (by decide +kernel)) ggX5_unwind_X5_fails
set_option maxRecDepth 20000 in
theorem ggX5_unwind_Jx4a65c_get_915e3 : GoodIn wsX5_unwind wsJx4a65c_get_915e3 := goodIn_r _ [31, 22, 32, 33, 34, 35, 36, 37, 38, 39, 40, 41, 42, 20, 43, 44, 395, 396, 397] (by decide +kernel) (by decide +kernel)
set_option maxRecDepth 20000 in
theorem gX5_unwind_Jx4a65c_get_915e3 : GoodIn wsX5_unwind (wsV RX5 67 RJx4a65c yJx4a65c_get_915e3 wsJx4a65c_get_915e3) := goodIn_app (goodIn_of _ (by decide +kernel)) ggX5_unwind_Jx4a65c_get_915e3
set_option maxRecDepth 20000 in
theorem ggX5_unwind_X5_places : GoodIn wsX5_unwind wsX5_places := goodIn_r _ [47, 48, 49, 20, 50, 51, 52, 53, 44, 54, 55, 56, 57, 58, 59, 60, 61, 62, 63, 64, 65, 66, 67, 68, 69, 70, 71, 72, 73, 74, 75, 76, 77, 78, 79, 8, 80, 81, 82, 83, 84, 85, 86, 87, 88, 89, 90, 91, 92, 93, 94, 95, 96, 97, 37, 38, 39, 98, 99, 100, 101, 102, 103, 104, 105, 106, 107, 108, 109, 110, 111, 112, 113, 114, 115, 116, 117, 118, 119, 120, 121, 122, 123, 124, 125, 126, 127, 128, 129, 130, 131, 132, 133, 134, 135, 136, 137, 22, 138, 139, 140, 141, 142, 143, 144, 145, 146, 147, 148, 149, 150, 151, 152, 153, 154, 155, 156, 157, 158, 159, 160, 161, 162, 163, 164, 165, 166, 167, 168, 169, 170, 171, 172, 173, 174, 175, 176, 177, 178, 179, 180, 181, 182, 183, 395, 396, 397, 398, 399, 400, 401, 402] (by decide +kernel) (by decide +kernel)
set_option maxRecDepth 20000 in
theorem gX5_unwind_X5_places : GoodIn wsX5_unwind (va_wsS RX5 140 yX5_places wsX5_places) := goodIn_app (goodIn_of _ (by decide +kernel)) ggX5_unwind_X5_places
set_option maxRecDepth 20000 in
theorem ggX5_unwind_Jx4a65c_size_8abf5 : GoodIn wsX5_unwind wsJx4a65c_size_8abf5 := goodIn_r _ [21, 22, 395, 396, 397] (by decide +kernel) (by decide +kernel)
set_option maxRecDepth 20000 in
theorem gX5_unwind_Jx4a65c_size_8abf5 : GoodIn wsX5_unwind (wsV RX5 35 RJx4a65c yJx4a65c_size_8abf5 wsJx4a65c_size_8abf5) := goodIn_app (goodIn_of _ (by decide +kernel)) ggX5_unwind_Jx4a65c_size_8abf5
set_option maxRecDepth 20000 in
theorem ggX5_unwind_X5_isIn : GoodIn wsX5_unwind wsX5_isIn := goodIn_r _ [12] (by decide +kernel) (by decide +kernel)
set_option maxRecDepth 20000 in
theorem gX5_unwind_X5_isIn : GoodIn wsX5_unwind (va_wsS RX5 31 yX5_isIn wsX5_isIn) := goodIn_app (goodIn_of _ (by decide +kernel)) ggX5_unwind_X5_isIn
set_option maxRecDepth 20000 in
theorem ggX5_unwind_X5_refuse : GoodIn wsX5_unwind wsX5_refuse := goodIn_r _ [187, 188, 388, 389, 390, 391, 392, 393, 394] (by decide +kernel) (by decide +kernel)
set_option maxRecDepth 20000 in
theorem gX5_unwind_X5_refuse : GoodIn wsX5_unwind (wsV RX5 131 RX5 yX5_refuse wsX5_refuse) := goodIn_app (goodIn_of _ (by decide +kernel)) ggX5_unwind_X5_refuse
set_option maxRecDepth 20000 in
theorem ggX5_unwind_J6_intValue_8abf5 : GoodIn wsX5_unwind wsJ6_intValue_8abf5 := goodIn_r _ [192, 126, 402] (by decide +kernel) (by decide +kernel)
set_option maxRecDepth 20000 in
theorem gX5_unwind_J6_intValue_8abf5 : GoodIn wsX5_unwind (wsV RX5 148 RJ6 yJ6_intValue_8abf5 wsJ6_intValue_8abf5) := goodIn_app (goodIn_of _ (by decide +kernel)) ggX5_unwind_J6_intValue_8abf5
set_option maxRecDepth 20000 in
theorem ggX5_unwind_J0_length_8abf5 : GoodIn wsX5_unwind wsJ0_length_8abf5 := goodIn_r _ [70, 71, 72, 73, 74, 69, 75, 76, 77, 398, 399, 400, 401] (by decide +kernel) (by decide +kernel)
set_option maxRecDepth 20000 in
theorem gX5_unwind_J0_length_8abf5 : GoodIn wsX5_unwind (wsV RX5 42 RJ0 yJ0_length_8abf5 wsJ0_length_8abf5) := goodIn_app (goodIn_of _ (by decide +kernel)) ggX5_unwind_J0_length_8abf5
set_option maxRecDepth 20000 in
theorem ggX5_unwind_X5_changed : GoodIn wsX5_unwind wsX5_changed := goodIn_r _ [195, 196, 197, 198, 199, 200, 201, 202, 203, 204, 205, 206, 64, 65, 207, 208, 209, 210, 211, 212, 100, 213, 214, 215, 216, 217, 218, 219, 220, 69, 221, 71, 222, 67, 68, 70, 72, 73, 74, 75, 76, 77, 223, 224, 225, 96, 226, 227, 38, 228, 85, 86, 87, 88, 229, 230, 91, 231, 232, 233, 234, 235, 166, 236, 237, 238, 239, 240, 241, 242, 243, 244, 245, 177, 178, 152, 179, 180, 181, 182, 183, 246, 247, 248, 249, 250, 251, 252, 253, 254, 255, 256, 257, 258, 259, 260, 261, 262, 263, 264, 265, 266, 267, 105, 106, 107, 268, 269, 270, 271, 272, 273, 109, 110, 111, 112, 113, 114, 274, 275, 276, 277, 278, 279, 280, 281, 282, 283, 284, 285, 286, 287, 288, 289, 290, 291, 292, 293, 294, 295, 296, 297, 298, 299, 300, 301, 302, 303, 304, 305, 156, 157, 158, 159, 151, 153, 160, 161, 162, 163, 306, 307, 308, 309, 310, 311, 312, 313, 314, 315, 316, 317, 318, 319, 320, 321, 322, 323, 324, 325, 326, 327, 328, 329, 330, 331, 332, 333, 334, 335, 336, 337, 338, 339, 340, 341, 342, 343, 344, 345, 346, 347, 348, 349, 350, 351, 352, 353, 354, 355, 356, 357, 358, 359, 360, 361, 362, 363, 364, 365, 366, 367, 368, 369, 370, 371, 372, 373, 374, 375, 376, 377, 378, 379, 380, 381, 382, 383, 384, 385, 386, 387, 403, 404, 405, 406, 398, 399, 400, 401] (by decide +kernel) (by decide +kernel)
set_option maxRecDepth 20000 in
theorem gX5_unwind_X5_changed : GoodIn wsX5_unwind (va_wsS RX5 87 yX5_changed wsX5_changed) := goodIn_app (goodIn_of _ (by decide +kernel)) ggX5_unwind_X5_changed
theorem dX5_unwind_0 : decode cX5_unwind 0 = .ok (.aload_n 0, 1) := by decide +kernel
theorem dX5_unwind_1 : decode cX5_unwind 1 = .ok (.iload_n 1, 1) := by decide +kernel
theorem dX5_unwind_2 : decode cX5_unwind 2 = .ok (.invokestatic 124, 3) := by decide +kernel
theorem dX5_unwind_5 : decode cX5_unwind 5 = .ok (.ifCond .ne 11, 3) := by decide +kernel
theorem dX5_unwind_8 : decode cX5_unwind 8 = .ok (.aload_n 0, 1) := by decide +kernel
theorem dX5_unwind_9 : decode cX5_unwind 9 = .ok (.iload_n 2, 1) := by decide +kernel
theorem dX5_unwind_10 : decode cX5_unwind 10 = .ok (.invokevirtual 155, 3) := by decide +kernel
theorem dX5_unwind_13 : decode cX5_unwind 13 = .ok (.ifCond .eq 7, 3) := by decide +kernel
theorem dX5_unwind_16 : decode cX5_unwind 16 = .ok (.iconst 1, 1) := by decide +kernel
theorem dX5_unwind_17 : decode cX5_unwind 17 = .ok (.goto 4, 3) := by decide +kernel
theorem dX5_unwind_20 : decode cX5_unwind 20 = .ok (.iconst 0, 1) := by decide +kernel
theorem dX5_unwind_21 : decode cX5_unwind 21 = .ok (.iconst 0, 1) := by decide +kernel
theorem dX5_unwind_22 : decode cX5_unwind 22 = .ok (.iconst 0, 1) := by decide +kernel
theorem dX5_unwind_23 : decode cX5_unwind 23 = .ok (.invokevirtual 127, 3) := by decide +kernel
theorem dX5_unwind_26 : decode cX5_unwind 26 = .ok (.ifCond .eq 5, 3) := by decide +kernel
theorem dX5_unwind_29 : decode cX5_unwind 29 = .ok (.iconst 0, 1) := by decide +kernel
theorem dX5_unwind_30 : decode cX5_unwind 30 = .ok (.ireturn, 1) := by decide +kernel
theorem dX5_unwind_31 : decode cX5_unwind 31 = .ok (.aload_n 0, 1) := by decide +kernel
theorem dX5_unwind_32 : decode cX5_unwind 32 = .ok (.getfield 11, 3) := by decide +kernel
theorem dX5_unwind_35 : decode cX5_unwind 35 = .ok (.iload_n 1, 1) := by decide +kernel
theorem dX5_unwind_36 : decode cX5_unwind 36 = .ok (.aaload, 1) := by decide +kernel
theorem dX5_unwind_37 : decode cX5_unwind 37 = .ok (.aload_n 0, 1) := by decide +kernel
theorem dX5_unwind_38 : decode cX5_unwind 38 = .ok (.getfield 24, 3) := by decide +kernel
theorem dX5_unwind_41 : decode cX5_unwind 41 = .ok (.iload_n 2, 1) := by decide +kernel
theorem dX5_unwind_42 : decode cX5_unwind 42 = .ok (.invokevirtual 67, 3) := by decide +kernel
theorem dX5_unwind_45 : decode cX5_unwind 45 = .ok (.checkcast 7, 3) := by decide +kernel
theorem dX5_unwind_48 : decode cX5_unwind 48 = .ok (.invokestatic 140, 3) := by decide +kernel
theorem dX5_unwind_51 : decode cX5_unwind 51 = .ok (.astore 4, 2) := by decide +kernel
theorem dX5_unwind_53 : decode cX5_unwind 53 = .ok (.iload_n 3, 1) := by decide +kernel
theorem dX5_unwind_54 : decode cX5_unwind 54 = .ok (.iconst 0, 1) := by decide +kernel
theorem dX5_unwind_55 : decode cX5_unwind 55 = .ok (.aload 4, 2) := by decide +kernel
theorem dX5_unwind_57 : decode cX5_unwind 57 = .ok (.invokevirtual 35, 3) := by decide +kernel
theorem dX5_unwind_60 : decode cX5_unwind 60 = .ok (.iconst 1, 1) := by decide +kernel
theorem dX5_unwind_61 : decode cX5_unwind 61 = .ok (.isub, 1) := by decide +kernel
theorem dX5_unwind_62 : decode cX5_unwind 62 = .ok (.invokestatic 31, 3) := by decide +kernel
theorem dX5_unwind_65 : decode cX5_unwind 65 = .ok (.ifCond .ne 8, 3) := by decide +kernel
theorem dX5_unwind_68 : decode cX5_unwind 68 = .ok (.aload_n 0, 1) := by decide +kernel
theorem dX5_unwind_69 : decode cX5_unwind 69 = .ok (.invokevirtual 131, 3) := by decide +kernel
theorem dX5_unwind_72 : decode cX5_unwind 72 = .ok (.ireturn, 1) := by decide +kernel
theorem dX5_unwind_73 : decode cX5_unwind 73 = .ok (.aload_n 0, 1) := by decide +kernel
theorem dX5_unwind_74 : decode cX5_unwind 74 = .ok (.getfield 11, 3) := by decide +kernel
theorem dX5_unwind_77 : decode cX5_unwind 77 = .ok (.iload_n 1, 1) := by decide +kernel
theorem dX5_unwind_78 : decode cX5_unwind 78 = .ok (.aaload, 1) := by decide +kernel
theorem dX5_unwind_79 : decode cX5_unwind 79 = .ok (.aload 4, 2) := by decide +kernel
theorem dX5_unwind_81 : decode cX5_unwind 81 = .ok (.iload_n 3, 1) := by decide +kernel
theorem dX5_unwind_82 : decode cX5_unwind 82 = .ok (.invokevirtual 67, 3) := by decide +kernel
theorem dX5_unwind_85 : decode cX5_unwind 85 = .ok (.checkcast 135, 3) := by decide +kernel
theorem dX5_unwind_88 : decode cX5_unwind 88 = .ok (.invokevirtual 148, 3) := by decide +kernel
theorem dX5_unwind_91 : decode cX5_unwind 91 = .ok (.aload_n 0, 1) := by decide +kernel
theorem dX5_unwind_92 : decode cX5_unwind 92 = .ok (.getfield 24, 3) := by decide +kernel
theorem dX5_unwind_95 : decode cX5_unwind 95 = .ok (.iload_n 2, 1) := by decide +kernel
theorem dX5_unwind_96 : decode cX5_unwind 96 = .ok (.invokevirtual 67, 3) := by decide +kernel
theorem dX5_unwind_99 : decode cX5_unwind 99 = .ok (.checkcast 7, 3) := by decide +kernel
theorem dX5_unwind_102 : decode cX5_unwind 102 = .ok (.invokevirtual 42, 3) := by decide +kernel
theorem dX5_unwind_105 : decode cX5_unwind 105 = .ok (.aload_n 0, 1) := by decide +kernel
theorem dX5_unwind_106 : decode cX5_unwind 106 = .ok (.getfield 20, 3) := by decide +kernel
theorem dX5_unwind_109 : decode cX5_unwind 109 = .ok (.iload_n 2, 1) := by decide +kernel
theorem dX5_unwind_110 : decode cX5_unwind 110 = .ok (.invokevirtual 67, 3) := by decide +kernel
theorem dX5_unwind_113 : decode cX5_unwind 113 = .ok (.checkcast 7, 3) := by decide +kernel
theorem dX5_unwind_116 : decode cX5_unwind 116 = .ok (.invokestatic 87, 3) := by decide +kernel
theorem dX5_unwind_119 : decode cX5_unwind 119 = .ok (.astore 5, 2) := by decide +kernel
theorem dX5_unwind_121 : decode cX5_unwind 121 = .ok (.aload 5, 2) := by decide +kernel
theorem dX5_unwind_123 : decode cX5_unwind 123 = .ok (.invokevirtual 42, 3) := by decide +kernel
theorem dX5_unwind_126 : decode cX5_unwind 126 = .ok (.bipush 32, 2) := by decide +kernel
theorem dX5_unwind_128 : decode cX5_unwind 128 = .ok (.if_icmp .le 8, 3) := by decide +kernel
theorem dX5_unwind_131 : decode cX5_unwind 131 = .ok (.aload_n 0, 1) := by decide +kernel
theorem dX5_unwind_132 : decode cX5_unwind 132 = .ok (.invokevirtual 131, 3) := by decide +kernel
theorem dX5_unwind_135 : decode cX5_unwind 135 = .ok (.ireturn, 1) := by decide +kernel
theorem dX5_unwind_136 : decode cX5_unwind 136 = .ok (.aload_n 0, 1) := by decide +kernel
theorem dX5_unwind_137 : decode cX5_unwind 137 = .ok (.getfield 11, 3) := by decide +kernel
theorem dX5_unwind_140 : decode cX5_unwind 140 = .ok (.iload_n 1, 1) := by decide +kernel
theorem dX5_unwind_141 : decode cX5_unwind 141 = .ok (.aload 5, 2) := by decide +kernel
theorem dX5_unwind_143 : decode cX5_unwind 143 = .ok (.aastore, 1) := by decide +kernel
theorem dX5_unwind_144 : decode cX5_unwind 144 = .ok (.aload 5, 2) := by decide +kernel
theorem dX5_unwind_146 : decode cX5_unwind 146 = .ok (.invokevirtual 42, 3) := by decide +kernel
theorem dX5_unwind_149 : decode cX5_unwind 149 = .ok (.ireturn, 1) := by decide +kernel
set_option maxRecDepth 20000 in
theorem ggX5_spots_X5_isNo : GoodIn wsX5_spots wsX5_isNo := goodIn_r _ [5, 6, 7, 4, 8] (by decide +kernel) (by decide +kernel)
set_option maxRecDepth 20000 in
theorem gX5_spots_X5_isNo : GoodIn wsX5_spots (va_wsS RX5 124 yX5_isNo wsX5_isNo) := goodIn_app (goodIn_of _ (by decide +kernel)) ggX5_spots_X5_isNo
set_option maxRecDepth 20000 in
theorem ggX5_spots_X5_fails : GoodIn wsX5_spots wsX5_fails := goodIn_r _ [12, 13, 163, 164, 165, 166, 167, 168, 169] (by decide +kernel) (by decide +kernel)
set_option maxRecDepth 20000 in
theorem gX5_spots_X5_fails : GoodIn wsX5_spots (wsV RX5 127 RX5 yX5_fails wsX5_fails) := goodIn_app (goodIn_of _ (by decide +kernel)) ggX5_spots_X5_fails
set_option maxRecDepth 20000 in
theorem ggX5_spots_X5_spotsOf : GoodIn wsX5_spots wsX5_spotsOf := goodIn_r _ [17, 18, 19, 20, 21, 22, 23, 24, 25, 26, 27, 28, 29, 30, 31, 32, 33, 34, 35, 36, 37, 38, 39, 40, 41, 42, 43, 44, 45, 46, 47, 48, 49, 50, 51, 52, 53, 54, 55, 56, 57, 58, 59, 60, 61, 62, 63, 64, 65, 66, 67, 68, 69, 70, 71, 72, 73, 74, 75, 4, 76, 77, 78, 79, 80, 81, 82, 83, 84, 85, 86, 87, 88, 89, 90, 91, 92, 93, 94, 95, 96, 97, 98, 99, 100, 101, 102, 103, 104, 105, 106, 107, 108, 109, 110, 111, 112, 113, 114, 115, 116, 117, 118, 119, 120, 121, 122, 123, 124, 125, 126, 127, 128, 129, 130, 131, 132, 133, 134, 135, 136, 137, 138, 139, 140, 141, 142, 143, 144, 145, 146, 147, 148, 149, 150, 151, 152, 153, 154, 155, 156, 157, 158, 159, 160, 161, 162, 170, 171, 172, 163, 164, 165, 166, 167, 168, 169, 173, 174, 175, 176] (by decide +kernel) (by decide +kernel)
set_option maxRecDepth 20000 in
theorem gX5_spots_X5_spotsOf : GoodIn wsX5_spots (wsV RX5 180 RX5 yX5_spotsOf wsX5_spotsOf) := goodIn_app (goodIn_of _ (by decide +kernel)) ggX5_spots_X5_spotsOf
set_option maxRecDepth 20000 in
theorem ggX5_spots_Jx4a65c_size_8abf5 : GoodIn wsX5_spots wsJx4a65c_size_8abf5 := goodIn_r _ [56, 57, 170, 171, 172] (by decide +kernel) (by decide +kernel)
set_option maxRecDepth 20000 in
theorem gX5_spots_Jx4a65c_size_8abf5 : GoodIn wsX5_spots (wsV RX5 35 RJx4a65c yJx4a65c_size_8abf5 wsJx4a65c_size_8abf5) := goodIn_app (goodIn_of _ (by decide +kernel)) ggX5_spots_Jx4a65c_size_8abf5
theorem dX5_spots_0 : decode cX5_spots 0 = .ok (.aload_n 0, 1) := by decide +kernel
theorem dX5_spots_1 : decode cX5_spots 1 = .ok (.iload_n 1, 1) := by decide +kernel
theorem dX5_spots_2 : decode cX5_spots 2 = .ok (.invokestatic 124, 3) := by decide +kernel
theorem dX5_spots_5 : decode cX5_spots 5 = .ok (.iconst 0, 1) := by decide +kernel
theorem dX5_spots_6 : decode cX5_spots 6 = .ok (.iconst 0, 1) := by decide +kernel
theorem dX5_spots_7 : decode cX5_spots 7 = .ok (.invokevirtual 127, 3) := by decide +kernel
theorem dX5_spots_10 : decode cX5_spots 10 = .ok (.ifCond .eq 7, 3) := by decide +kernel
theorem dX5_spots_13 : decode cX5_spots 13 = .ok (.iconst 0, 1) := by decide +kernel
theorem dX5_spots_14 : decode cX5_spots 14 = .ok (.goto 16, 3) := by decide +kernel
theorem dX5_spots_17 : decode cX5_spots 17 = .ok (.aload_n 0, 1) := by decide +kernel
theorem dX5_spots_18 : decode cX5_spots 18 = .ok (.aload_n 0, 1) := by decide +kernel
theorem dX5_spots_19 : decode cX5_spots 19 = .ok (.getfield 11, 3) := by decide +kernel
theorem dX5_spots_22 : decode cX5_spots 22 = .ok (.iload_n 1, 1) := by decide +kernel
theorem dX5_spots_23 : decode cX5_spots 23 = .ok (.aaload, 1) := by decide +kernel
theorem dX5_spots_24 : decode cX5_spots 24 = .ok (.invokevirtual 180, 3) := by decide +kernel
theorem dX5_spots_27 : decode cX5_spots 27 = .ok (.invokevirtual 35, 3) := by decide +kernel
theorem dX5_spots_30 : decode cX5_spots 30 = .ok (.ireturn, 1) := by decide +kernel
set_option maxRecDepth 20000 in
theorem ggX5_spot_X5_isNo : GoodIn wsX5_spot wsX5_isNo := goodIn_r _ [9, 10, 11, 8, 12] (by decide +kernel) (by decide +kernel)
set_option maxRecDepth 20000 in
theorem gX5_spot_X5_isNo : GoodIn wsX5_spot (va_wsS RX5 124 yX5_isNo wsX5_isNo) := goodIn_app (goodIn_of _ (by decide +kernel)) ggX5_spot_X5_isNo
set_option maxRecDepth 20000 in
theorem ggX5_spot_X5_fails : GoodIn wsX5_spot wsX5_fails := goodIn_r _ [16, 17, 389, 390, 391, 392, 393, 394, 395] (by decide +kernel) (by decide +kernel)
set_option maxRecDepth 20000 in
theorem gX5_spot_X5_fails : GoodIn wsX5_spot (wsV RX5 127 RX5 yX5_fails wsX5_fails) := goodIn_app (goodIn_of _ (by decide +kernel)) ggX5_spot_X5_fails
set_option maxRecDepth 20000 in
theorem ggX5_spot_X5_spotsOf : GoodIn wsX5_spot wsX5_spotsOf := goodIn_r _ [21, 22, 23, 24, 25, 26, 27, 28, 29, 30, 31, 32, 33, 34, 35, 36, 37, 38, 39, 40, 41, 42, 43, 44, 45, 46, 47, 48, 49, 50, 51, 52, 53, 54, 55, 56, 57, 58, 59, 60, 61, 62, 63, 64, 65, 66, 67, 68, 69, 70, 71, 72, 73, 74, 75, 76, 77, 78, 79, 8, 80, 81, 82, 83, 84, 85, 86, 87, 88, 89, 90, 91, 92, 93, 94, 95, 96, 97, 98, 99, 100, 101, 102, 103, 104, 105, 106, 107, 108, 109, 110, 111, 112, 113, 114, 115, 116, 117, 118, 119, 120, 121, 122, 123, 124, 125, 126, 127, 128, 129, 130, 131, 132, 133, 134, 135, 136, 137, 138, 139, 140, 141, 142, 143, 144, 145, 146, 147, 148, 149, 150, 151, 152, 153, 154, 155, 156, 157, 158, 159, 160, 161, 162, 163, 164, 165, 166, 400, 401, 402, 389, 390, 391, 392, 393, 394, 395, 403, 404, 405, 406] (by decide +kernel) (by decide +kernel)
set_option maxRecDepth 20000 in
theorem gX5_spot_X5_spotsOf : GoodIn wsX5_spot (wsV RX5 180 RX5 yX5_spotsOf wsX5_spotsOf) := goodIn_app (goodIn_of _ (by decide +kernel)) ggX5_spot_X5_spotsOf
set_option maxRecDepth 20000 in
theorem ggX5_spot_Jx4a65c_size_8abf5 : GoodIn wsX5_spot wsJx4a65c_size_8abf5 := goodIn_r _ [60, 61, 400, 401, 402] (by decide +kernel) (by decide +kernel)
set_option maxRecDepth 20000 in
theorem gX5_spot_Jx4a65c_size_8abf5 : GoodIn wsX5_spot (wsV RX5 35 RJx4a65c yJx4a65c_size_8abf5 wsJx4a65c_size_8abf5) := goodIn_app (goodIn_of _ (by decide +kernel)) ggX5_spot_Jx4a65c_size_8abf5
set_option maxRecDepth 20000 in
theorem ggX5_spot_X5_isIn : GoodIn wsX5_spot wsX5_isIn := goodIn_r _ [12] (by decide +kernel) (by decide +kernel)
set_option maxRecDepth 20000 in
theorem gX5_spot_X5_isIn : GoodIn wsX5_spot (va_wsS RX5 31 yX5_isIn wsX5_isIn) := goodIn_app (goodIn_of _ (by decide +kernel)) ggX5_spot_X5_isIn
set_option maxRecDepth 20000 in
theorem ggX5_spot_Jx4a65c_get_915e3 : GoodIn wsX5_spot wsJx4a65c_get_915e3 := goodIn_r _ [65, 61, 66, 67, 68, 69, 70, 71, 72, 73, 74, 75, 76, 24, 77, 32, 400, 401, 402] (by decide +kernel) (by decide +kernel)
set_option maxRecDepth 20000 in
theorem gX5_spot_Jx4a65c_get_915e3 : GoodIn wsX5_spot (wsV RX5 67 RJx4a65c yJx4a65c_get_915e3 wsJx4a65c_get_915e3) := goodIn_app (goodIn_of _ (by decide +kernel)) ggX5_spot_Jx4a65c_get_915e3
set_option maxRecDepth 20000 in
theorem ggX5_spot_J4_init_da8c8 : GoodIn wsX5_spot wsJ4_init_da8c8 := goodIn_r _ [169, 170, 171, 172, 173, 174, 43, 44, 175, 176, 177, 178, 179, 180, 100, 181, 182, 183, 184, 185, 396, 397, 398, 399] (by decide +kernel) (by decide +kernel)
set_option maxRecDepth 20000 in
theorem gX5_spot_J4_init_da8c8 : GoodIn wsX5_spot (wsJ4_init_da8c8) := ggX5_spot_J4_init_da8c8
set_option maxRecDepth 20000 in
theorem ggX5_spot_J4_append_15ec4 : GoodIn wsX5_spot wsJ4_append_15ec4 := goodIn_r _ [254, 255, 256, 192, 257, 172, 258, 195, 259, 260, 261, 262, 263, 177, 200, 201, 202, 203, 204, 178, 205, 206, 207, 208, 209, 210, 211, 139, 140, 141, 142, 134, 135, 136, 143, 144, 145, 146, 212, 213, 149, 214, 215, 216, 217, 218, 219, 220, 176, 160, 161, 162, 163, 164, 165, 166, 221, 222, 223, 224, 225, 175, 264, 265, 100, 266, 112, 234, 235, 236, 105, 106, 107, 237, 238, 48, 239, 96, 240, 241, 72, 242, 248, 249, 250, 113, 114, 267, 46, 47, 49, 50, 51, 52, 53, 54, 55, 56, 268, 269, 270, 271, 272, 273, 274, 275, 276, 277, 278, 279, 280, 281, 282, 283, 179, 180, 181, 182, 183, 184, 185, 284, 285, 91, 286, 287, 288, 289, 290, 291, 292, 293, 294, 295, 296, 297, 298, 299, 300, 301, 302, 303, 304, 396, 397, 398, 399, 403, 404, 405, 406] (by decide +kernel) (by decide +kernel)
set_option maxRecDepth 20000 in
theorem gX5_spot_J4_append_15ec4 : GoodIn wsX5_spot (wsV RX5 56 RJ4 yJ4_append_15ec4 wsJ4_append_15ec4) := goodIn_app (goodIn_of _ (by decide +kernel)) ggX5_spot_J4_append_15ec4
set_option maxRecDepth 20000 in
theorem ggX5_spot_J4_toString_0e30d : GoodIn wsX5_spot wsJ4_toString_0e30d := goodIn_r _ [362, 363, 323, 48, 364, 365, 366, 367, 368, 369, 337, 43, 44, 56, 50, 55, 370, 371, 372, 373, 374, 172, 375, 177, 376, 377, 378, 379, 380, 5, 381, 382, 192, 383, 384, 195, 385, 222, 223, 224, 225, 175, 178, 386, 325, 149, 326, 215, 216, 217, 218, 219, 220, 327, 328, 329, 176, 160, 161, 135, 162, 163, 164, 165, 166, 330, 331, 332, 333, 4, 387, 344, 100, 345, 346, 347, 348, 290, 291, 292, 105, 106, 107, 293, 294, 295, 96, 296, 297, 72, 298, 109, 110, 111, 112, 113, 114, 182, 183, 184, 185, 349, 388, 351, 352, 403, 404, 405, 406, 396, 397, 398, 399] (by decide +kernel) (by decide +kernel)
set_option maxRecDepth 20000 in
theorem gX5_spot_J4_toString_0e30d : GoodIn wsX5_spot (wsV RX5 63 RJ4 yJ4_toString_0e30d wsJ4_toString_0e30d) := goodIn_app (goodIn_of _ (by decide +kernel)) ggX5_spot_J4_toString_0e30d
theorem dX5_spot_0 : decode cX5_spot 0 = .ok (.aload_n 0, 1) := by decide +kernel
theorem dX5_spot_1 : decode cX5_spot 1 = .ok (.iload_n 1, 1) := by decide +kernel
theorem dX5_spot_2 : decode cX5_spot 2 = .ok (.invokestatic 124, 3) := by decide +kernel
theorem dX5_spot_5 : decode cX5_spot 5 = .ok (.iconst 0, 1) := by decide +kernel
theorem dX5_spot_6 : decode cX5_spot 6 = .ok (.iconst 0, 1) := by decide +kernel
theorem dX5_spot_7 : decode cX5_spot 7 = .ok (.invokevirtual 127, 3) := by decide +kernel
theorem dX5_spot_10 : decode cX5_spot 10 = .ok (.ifCond .eq 6, 3) := by decide +kernel
theorem dX5_spot_13 : decode cX5_spot 13 = .ok (.ldc 9, 2) := by decide +kernel
theorem dX5_spot_15 : decode cX5_spot 15 = .ok (.areturn, 1) := by decide +kernel
theorem dX5_spot_16 : decode cX5_spot 16 = .ok (.aload_n 0, 1) := by decide +kernel
theorem dX5_spot_17 : decode cX5_spot 17 = .ok (.aload_n 0, 1) := by decide +kernel
theorem dX5_spot_18 : decode cX5_spot 18 = .ok (.getfield 11, 3) := by decide +kernel
theorem dX5_spot_21 : decode cX5_spot 21 = .ok (.iload_n 1, 1) := by decide +kernel
theorem dX5_spot_22 : decode cX5_spot 22 = .ok (.aaload, 1) := by decide +kernel
theorem dX5_spot_23 : decode cX5_spot 23 = .ok (.invokevirtual 180, 3) := by decide +kernel
theorem dX5_spot_26 : decode cX5_spot 26 = .ok (.astore_n 3, 1) := by decide +kernel
theorem dX5_spot_27 : decode cX5_spot 27 = .ok (.iload_n 2, 1) := by decide +kernel
theorem dX5_spot_28 : decode cX5_spot 28 = .ok (.iconst 0, 1) := by decide +kernel
theorem dX5_spot_29 : decode cX5_spot 29 = .ok (.aload_n 3, 1) := by decide +kernel
theorem dX5_spot_30 : decode cX5_spot 30 = .ok (.invokevirtual 35, 3) := by decide +kernel
theorem dX5_spot_33 : decode cX5_spot 33 = .ok (.iconst 1, 1) := by decide +kernel
theorem dX5_spot_34 : decode cX5_spot 34 = .ok (.isub, 1) := by decide +kernel
theorem dX5_spot_35 : decode cX5_spot 35 = .ok (.invokestatic 31, 3) := by decide +kernel
theorem dX5_spot_38 : decode cX5_spot 38 = .ok (.ifCond .ne 6, 3) := by decide +kernel
theorem dX5_spot_41 : decode cX5_spot 41 = .ok (.ldc 9, 2) := by decide +kernel
theorem dX5_spot_43 : decode cX5_spot 43 = .ok (.areturn, 1) := by decide +kernel
theorem dX5_spot_44 : decode cX5_spot 44 = .ok (.aload_n 3, 1) := by decide +kernel
theorem dX5_spot_45 : decode cX5_spot 45 = .ok (.iload_n 2, 1) := by decide +kernel
theorem dX5_spot_46 : decode cX5_spot 46 = .ok (.invokevirtual 67, 3) := by decide +kernel
theorem dX5_spot_49 : decode cX5_spot 49 = .ok (.checkcast 184, 3) := by decide +kernel
theorem dX5_spot_52 : decode cX5_spot 52 = .ok (.astore 4, 2) := by decide +kernel
theorem dX5_spot_54 : decode cX5_spot 54 = .ok (.new 49, 3) := by decide +kernel
theorem dX5_spot_57 : decode cX5_spot 57 = .ok (.dup, 1) := by decide +kernel
theorem dX5_spot_58 : decode cX5_spot 58 = .ok (.invokespecial 51, 3) := by decide +kernel
theorem dX5_spot_61 : decode cX5_spot 61 = .ok (.aload 4, 2) := by decide +kernel
theorem dX5_spot_63 : decode cX5_spot 63 = .ok (.iconst 0, 1) := by decide +kernel
theorem dX5_spot_64 : decode cX5_spot 64 = .ok (.iaload, 1) := by decide +kernel
theorem dX5_spot_65 : decode cX5_spot 65 = .ok (.invokevirtual 186, 3) := by decide +kernel
theorem dX5_spot_68 : decode cX5_spot 68 = .ok (.ldc 189, 2) := by decide +kernel
theorem dX5_spot_70 : decode cX5_spot 70 = .ok (.invokevirtual 56, 3) := by decide +kernel
theorem dX5_spot_73 : decode cX5_spot 73 = .ok (.aload 4, 2) := by decide +kernel
theorem dX5_spot_75 : decode cX5_spot 75 = .ok (.iconst 1, 1) := by decide +kernel
theorem dX5_spot_76 : decode cX5_spot 76 = .ok (.iaload, 1) := by decide +kernel
theorem dX5_spot_77 : decode cX5_spot 77 = .ok (.invokevirtual 186, 3) := by decide +kernel
theorem dX5_spot_80 : decode cX5_spot 80 = .ok (.ldc 189, 2) := by decide +kernel
theorem dX5_spot_82 : decode cX5_spot 82 = .ok (.invokevirtual 56, 3) := by decide +kernel
theorem dX5_spot_85 : decode cX5_spot 85 = .ok (.aload_n 0, 1) := by decide +kernel
theorem dX5_spot_86 : decode cX5_spot 86 = .ok (.aload_n 0, 1) := by decide +kernel
theorem dX5_spot_87 : decode cX5_spot 87 = .ok (.getfield 11, 3) := by decide +kernel
theorem dX5_spot_90 : decode cX5_spot 90 = .ok (.iload_n 1, 1) := by decide +kernel
theorem dX5_spot_91 : decode cX5_spot 91 = .ok (.aaload, 1) := by decide +kernel
theorem dX5_spot_92 : decode cX5_spot 92 = .ok (.aload 4, 2) := by decide +kernel
theorem dX5_spot_94 : decode cX5_spot 94 = .ok (.invokevirtual 95, 3) := by decide +kernel
theorem dX5_spot_97 : decode cX5_spot 97 = .ok (.invokevirtual 56, 3) := by decide +kernel
theorem dX5_spot_100 : decode cX5_spot 100 = .ok (.invokevirtual 63, 3) := by decide +kernel
theorem dX5_spot_103 : decode cX5_spot 103 = .ok (.areturn, 1) := by decide +kernel
set_option maxRecDepth 20000 in
theorem ggX5_isEnd_X5_isNo : GoodIn wsX5_isEnd wsX5_isNo := goodIn_r _ [5, 6, 7, 4, 8] (by decide +kernel) (by decide +kernel)
set_option maxRecDepth 20000 in
theorem gX5_isEnd_X5_isNo : GoodIn wsX5_isEnd (va_wsS RX5 124 yX5_isNo wsX5_isNo) := goodIn_app (goodIn_of _ (by decide +kernel)) ggX5_isEnd_X5_isNo
set_option maxRecDepth 20000 in
theorem ggX5_isEnd_X5_fails : GoodIn wsX5_isEnd wsX5_fails := goodIn_r _ [12, 13, 97, 98, 99, 100, 101, 102, 103] (by decide +kernel) (by decide +kernel)
set_option maxRecDepth 20000 in
theorem gX5_isEnd_X5_fails : GoodIn wsX5_isEnd (wsV RX5 127 RX5 yX5_fails wsX5_fails) := goodIn_app (goodIn_of _ (by decide +kernel)) ggX5_isEnd_X5_fails
set_option maxRecDepth 20000 in
theorem ggX5_isEnd_X5_isEndNow : GoodIn wsX5_isEnd wsX5_isEndNow := goodIn_r _ [17, 18, 19, 20, 4, 21, 22, 23, 24, 25, 26, 27, 28, 29, 30, 31, 32, 33, 34, 35, 36, 37, 38, 39, 40, 41, 42, 43, 44, 45, 46, 47, 48, 49, 50, 51, 52, 53, 54, 55, 56, 57, 58, 59, 60, 61, 62, 63, 64, 65, 66, 67, 68, 69, 70, 71, 72, 73, 74, 75, 76, 77, 78, 79, 80, 81, 82, 83, 84, 85, 86, 87, 88, 89, 90, 91, 92, 93, 94, 95, 96, 97, 98, 99, 100, 101, 102, 103, 104, 105, 106, 107, 108, 109, 110] (by decide +kernel) (by decide +kernel)
set_option maxRecDepth 20000 in
theorem gX5_isEnd_X5_isEndNow : GoodIn wsX5_isEnd (wsV RX5 191 RX5 yX5_isEndNow wsX5_isEndNow) := goodIn_app (goodIn_of _ (by decide +kernel)) ggX5_isEnd_X5_isEndNow
theorem dX5_isEnd_0 : decode cX5_isEnd 0 = .ok (.aload_n 0, 1) := by decide +kernel
theorem dX5_isEnd_1 : decode cX5_isEnd 1 = .ok (.iload_n 1, 1) := by decide +kernel
theorem dX5_isEnd_2 : decode cX5_isEnd 2 = .ok (.invokestatic 124, 3) := by decide +kernel
theorem dX5_isEnd_5 : decode cX5_isEnd 5 = .ok (.iconst 0, 1) := by decide +kernel
theorem dX5_isEnd_6 : decode cX5_isEnd 6 = .ok (.iconst 0, 1) := by decide +kernel
theorem dX5_isEnd_7 : decode cX5_isEnd 7 = .ok (.invokevirtual 127, 3) := by decide +kernel
theorem dX5_isEnd_10 : decode cX5_isEnd 10 = .ok (.ifCond .ne 20, 3) := by decide +kernel
theorem dX5_isEnd_13 : decode cX5_isEnd 13 = .ok (.aload_n 0, 1) := by decide +kernel
theorem dX5_isEnd_14 : decode cX5_isEnd 14 = .ok (.aload_n 0, 1) := by decide +kernel
theorem dX5_isEnd_15 : decode cX5_isEnd 15 = .ok (.getfield 11, 3) := by decide +kernel
theorem dX5_isEnd_18 : decode cX5_isEnd 18 = .ok (.iload_n 1, 1) := by decide +kernel
theorem dX5_isEnd_19 : decode cX5_isEnd 19 = .ok (.aaload, 1) := by decide +kernel
theorem dX5_isEnd_20 : decode cX5_isEnd 20 = .ok (.invokevirtual 191, 3) := by decide +kernel
theorem dX5_isEnd_23 : decode cX5_isEnd 23 = .ok (.ifCond .eq 7, 3) := by decide +kernel
theorem dX5_isEnd_26 : decode cX5_isEnd 26 = .ok (.iconst 1, 1) := by decide +kernel
theorem dX5_isEnd_27 : decode cX5_isEnd 27 = .ok (.goto 4, 3) := by decide +kernel
theorem dX5_isEnd_30 : decode cX5_isEnd 30 = .ok (.iconst 0, 1) := by decide +kernel
theorem dX5_isEnd_31 : decode cX5_isEnd 31 = .ok (.ireturn, 1) := by decide +kernel
set_option maxRecDepth 20000 in
theorem ggX5_form_X5_isNo : GoodIn wsX5_form wsX5_isNo := goodIn_r _ [5, 6, 7, 4, 8] (by decide +kernel) (by decide +kernel)
set_option maxRecDepth 20000 in
theorem gX5_form_X5_isNo : GoodIn wsX5_form (va_wsS RX5 124 yX5_isNo wsX5_isNo) := goodIn_app (goodIn_of _ (by decide +kernel)) ggX5_form_X5_isNo
set_option maxRecDepth 20000 in
theorem ggX5_form_X5_fails : GoodIn wsX5_form wsX5_fails := goodIn_r _ [12, 13, 322, 323, 324, 325, 326, 327, 328] (by decide +kernel) (by decide +kernel)
set_option maxRecDepth 20000 in
theorem gX5_form_X5_fails : GoodIn wsX5_form (wsV RX5 127 RX5 yX5_fails wsX5_fails) := goodIn_app (goodIn_of _ (by decide +kernel)) ggX5_form_X5_fails
set_option maxRecDepth 20000 in
theorem ggX5_form_X5_formOf : GoodIn wsX5_form wsX5_formOf := goodIn_r _ [17, 18, 19, 20, 21, 4, 22, 23, 24, 25, 26, 27, 28, 29, 30, 31, 32, 33, 34, 35, 36, 37, 38, 39, 40, 41, 42, 43, 44, 45, 46, 47, 48, 49, 50, 51, 52, 53, 54, 55, 56, 57, 58, 59, 60, 61, 62, 63, 64, 65, 66, 67, 68, 69, 70, 71, 72, 73, 74, 75, 76, 77, 78, 79, 80, 81, 82, 83, 84, 85, 86, 87, 88, 89, 90, 91, 92, 93, 94, 95, 96, 97, 98, 99, 100, 101, 102, 103, 104, 105, 106, 107, 108, 109, 110, 111, 112, 113, 114, 115, 116, 117, 118, 119, 120, 121, 122, 123, 124, 125, 126, 127, 128, 129, 130, 131, 132, 133, 134, 135, 136, 137, 138, 139, 140, 141, 142, 143, 144, 145, 146, 147, 148, 149, 150, 151, 152, 153, 154, 155, 156, 157, 158, 159, 160, 161, 162, 163, 164, 165, 166, 167, 168, 169, 170, 171, 172, 173, 174, 175, 176, 177, 178, 179, 180, 181, 182, 183, 184, 185, 186, 187, 188, 189, 190, 191, 192, 193, 194, 195, 196, 197, 198, 199, 200, 201, 202, 203, 204, 205, 206, 207, 208, 209, 210, 211, 212, 213, 214, 215, 216, 217, 218, 219, 220, 221, 222, 223, 224, 225, 226, 227, 228, 229, 230, 231, 232, 233, 234, 235, 236, 237, 238, 239, 240, 241, 242, 243, 244, 245, 246, 247, 248, 249, 250, 251, 252, 253, 254, 255, 256, 257, 258, 259, 260, 261, 262, 263, 264, 265, 266, 267, 268, 269, 270, 271, 272, 273, 274, 275, 276, 277, 278, 279, 280, 281, 282, 283, 284, 285, 286, 287, 288, 289, 290, 291, 292, 293, 294, 295, 296, 297, 298, 299, 300, 301, 302, 303, 304, 305, 306, 307, 308, 309, 310, 311, 312, 313, 314, 315, 316, 317, 318, 319, 320, 321, 322, 323, 324, 325, 326, 327, 328, 329, 330, 331, 332, 333, 334, 335, 336, 337, 338, 339] (by decide +kernel) (by decide +kernel)
set_option maxRecDepth 20000 in
theorem gX5_form_X5_formOf : GoodIn wsX5_form (wsV RX5 103 RX5 yX5_formOf wsX5_formOf) := goodIn_app (goodIn_of _ (by decide +kernel)) ggX5_form_X5_formOf
theorem dX5_form_0 : decode cX5_form 0 = .ok (.aload_n 0, 1) := by decide +kernel
theorem dX5_form_1 : decode cX5_form 1 = .ok (.iload_n 1, 1) := by decide +kernel
theorem dX5_form_2 : decode cX5_form 2 = .ok (.invokestatic 124, 3) := by decide +kernel
theorem dX5_form_5 : decode cX5_form 5 = .ok (.iconst 0, 1) := by decide +kernel
theorem dX5_form_6 : decode cX5_form 6 = .ok (.iconst 0, 1) := by decide +kernel
theorem dX5_form_7 : decode cX5_form 7 = .ok (.invokevirtual 127, 3) := by decide +kernel
theorem dX5_form_10 : decode cX5_form 10 = .ok (.ifCond .eq 8, 3) := by decide +kernel
theorem dX5_form_13 : decode cX5_form 13 = .ok (.ldc 9, 2) := by decide +kernel
theorem dX5_form_15 : decode cX5_form 15 = .ok (.goto 13, 3) := by decide +kernel
theorem dX5_form_18 : decode cX5_form 18 = .ok (.aload_n 0, 1) := by decide +kernel
theorem dX5_form_19 : decode cX5_form 19 = .ok (.aload_n 0, 1) := by decide +kernel
theorem dX5_form_20 : decode cX5_form 20 = .ok (.getfield 11, 3) := by decide +kernel
theorem dX5_form_23 : decode cX5_form 23 = .ok (.iload_n 1, 1) := by decide +kernel
theorem dX5_form_24 : decode cX5_form 24 = .ok (.aaload, 1) := by decide +kernel
theorem dX5_form_25 : decode cX5_form 25 = .ok (.invokevirtual 103, 3) := by decide +kernel
theorem dX5_form_28 : decode cX5_form 28 = .ok (.areturn, 1) := by decide +kernel
set_option maxRecDepth 20000 in
theorem ggX5_told_X5_isNo : GoodIn wsX5_told wsX5_isNo := goodIn_r _ [5, 6, 7, 4, 8] (by decide +kernel) (by decide +kernel)
set_option maxRecDepth 20000 in
theorem gX5_told_X5_isNo : GoodIn wsX5_told (va_wsS RX5 124 yX5_isNo wsX5_isNo) := goodIn_app (goodIn_of _ (by decide +kernel)) ggX5_told_X5_isNo
set_option maxRecDepth 20000 in
theorem ggX5_told_X5_fails : GoodIn wsX5_told wsX5_fails := goodIn_r _ [12, 13, 408, 409, 410, 411, 412, 413, 414] (by decide +kernel) (by decide +kernel)
set_option maxRecDepth 20000 in
theorem gX5_told_X5_fails : GoodIn wsX5_told (wsV RX5 127 RX5 yX5_fails wsX5_fails) := goodIn_app (goodIn_of _ (by decide +kernel)) ggX5_told_X5_fails
set_option maxRecDepth 20000 in
theorem ggX5_told_X5_formOf : GoodIn wsX5_told wsX5_formOf := goodIn_r _ [17, 18, 19, 20, 21, 4, 22, 23, 24, 25, 26, 27, 28, 29, 30, 31, 32, 33, 34, 35, 36, 37, 38, 39, 40, 41, 42, 43, 44, 45, 46, 47, 48, 49, 50, 51, 52, 53, 54, 55, 56, 57, 58, 59, 60, 61, 62, 63, 64, 65, 66, 67, 68, 69, 70, 71, 72, 73, 74, 75, 76, 77, 78, 79, 80, 81, 82, 83, 84, 85, 86, 87, 88, 89, 90, 91, 92, 93, 94, 95, 96, 97, 98, 99, 100, 101, 102, 103, 104, 105, 106, 107, 108, 109, 110, 111, 112, 113, 114, 115, 116, 117, 118, 119, 120, 121, 122, 123, 124, 125, 126, 127, 128, 129, 130, 131, 132, 133, 134, 135, 136, 137, 138, 139, 140, 141, 142, 143, 144, 145, 146, 147, 148, 149, 150, 151, 152, 153, 154, 155, 156, 157, 158, 159, 160, 161, 162, 163, 164, 165, 166, 167, 168, 169, 170, 171, 172, 173, 174, 175, 176, 177, 178, 179, 180, 181, 182, 183, 184, 185, 186, 187, 188, 189, 190, 191, 192, 193, 194, 195, 196, 197, 198, 199, 200, 201, 202, 203, 204, 205, 206, 207, 208, 209, 210, 211, 212, 213, 214, 215, 216, 217, 218, 219, 220, 221, 222, 223, 224, 225, 226, 227, 228, 229, 230, 231, 232, 233, 234, 235, 236, 237, 238, 239, 240, 241, 242, 243, 244, 245, 246, 247, 248, 249, 250, 251, 252, 253, 254, 255, 256, 257, 258, 259, 260, 261, 262, 263, 264, 265, 266, 267, 268, 269, 270, 271, 272, 273, 274, 275, 276, 277, 278, 279, 280, 281, 282, 283, 284, 285, 286, 287, 288, 289, 290, 291, 292, 293, 294, 295, 296, 297, 298, 299, 300, 301, 302, 303, 304, 305, 306, 307, 308, 309, 310, 311, 312, 313, 314, 315, 316, 317, 318, 319, 320, 321, 408, 409, 410, 411, 412, 413, 414, 415, 416, 417, 418, 419, 420, 421, 422, 423, 424, 425] (by decide +kernel) (by decide +kernel)
set_option maxRecDepth 20000 in
theorem gX5_told_X5_formOf : GoodIn wsX5_told (wsV RX5 103 RX5 yX5_formOf wsX5_formOf) := goodIn_app (goodIn_of _ (by decide +kernel)) ggX5_told_X5_formOf
set_option maxRecDepth 20000 in
theorem ggX5_told_J0_equals_9ea2d : GoodIn wsX5_told wsJ0_equals_9ea2d := goodIn_r _ [325, 326, 45, 46, 40, 327, 328, 77, 329, 418, 419, 420, 421] (by decide +kernel) (by decide +kernel)
set_option maxRecDepth 20000 in
theorem gX5_told_J0_equals_9ea2d : GoodIn wsX5_told (wsV RX5 107 RJ0 yJ0_equals_9ea2d wsJ0_equals_9ea2d) := goodIn_app (goodIn_of _ (by decide +kernel)) ggX5_told_J0_equals_9ea2d
set_option maxRecDepth 20000 in
theorem ggX5_told_X5_areAllFalling : GoodIn wsX5_told wsX5_areAllFalling := goodIn_r _ [333, 27, 29, 30, 31, 32, 33, 34, 334, 335, 336, 4, 337, 105, 28, 47, 48, 49, 50, 51, 52, 53, 54, 55, 56, 57, 58, 59, 60, 61, 62, 63, 338, 339, 340, 35, 36, 37, 38, 39, 40, 41, 42, 43, 44, 45, 46, 67, 68, 69, 70, 71, 72, 73, 74, 75, 76, 77, 78, 79, 80, 81, 82, 83, 84, 85, 86, 87, 88, 89, 90, 91, 92, 93, 94, 95, 96, 97, 98, 99, 100, 408, 409, 410, 411, 412, 413, 414, 415, 416, 417, 418, 419, 420, 421] (by decide +kernel) (by decide +kernel)
set_option maxRecDepth 20000 in
theorem gX5_told_X5_areAllFalling : GoodIn wsX5_told (wsV RX5 174 RX5 yX5_areAllFalling wsX5_areAllFalling) := goodIn_app (goodIn_of _ (by decide +kernel)) ggX5_told_X5_areAllFalling
set_option maxRecDepth 20000 in
theorem ggX5_told_X5_unmetNow : GoodIn wsX5_told wsX5_unmetNow := goodIn_r _ [344, 345, 346, 347, 348, 4, 349, 350, 351, 32, 27, 28, 352, 109, 110, 111, 105, 353, 354, 355, 356, 63, 357, 358, 359, 360, 361, 362, 363, 364, 365, 366, 120, 121, 29, 30, 31, 33, 34, 47, 48, 49, 50, 51, 52, 53, 54, 55, 56, 57, 58, 59, 60, 61, 62, 35, 36, 37, 38, 39, 40, 41, 42, 43, 44, 45, 46, 133, 134, 135, 136, 137, 138, 139, 140, 82, 141, 142, 143, 71, 72, 73, 74, 144, 145, 77, 146, 147, 148, 149, 150, 151, 152, 153, 154, 155, 156, 157, 158, 159, 160, 161, 123, 162, 163, 164, 165, 166, 167, 168, 169, 170, 171, 172, 173, 174, 175, 176, 177, 178, 179, 86, 180, 181, 182, 183, 184, 185, 186, 187, 188, 189, 190, 191, 91, 92, 93, 192, 193, 194, 195, 196, 197, 95, 96, 97, 98, 99, 100, 129, 130, 131, 132, 198, 199, 200, 201, 202, 64, 65, 66, 67, 68, 69, 70, 75, 76, 78, 79, 80, 81, 83, 84, 85, 87, 88, 89, 90, 94, 287, 288, 289, 290, 291, 112, 113, 114, 115, 116, 117, 118, 119, 122, 124, 125, 126, 127, 128, 203, 204, 205, 206, 207, 208, 209, 210, 211, 212, 213, 214, 215, 216, 217, 218, 219, 220, 221, 222, 223, 224, 225, 226, 227, 228, 229, 230, 231, 232, 233, 234, 235, 236, 237, 238, 239, 240, 241, 242, 243, 244, 245, 246, 247, 248, 249, 250, 251, 252, 253, 254, 255, 256, 257, 258, 259, 260, 261, 262, 263, 264, 265, 266, 267, 268, 269, 270, 271, 272, 273, 274, 275, 276, 277, 278, 279, 280, 281, 282, 283, 284, 285, 286, 292, 293, 294, 295, 296, 297, 298, 299, 300, 301, 302, 303, 304, 305, 306, 307, 308, 309, 310, 311, 312, 313, 314, 315, 316, 317, 318, 319, 320, 321, 367, 368, 369, 370, 371, 372, 373, 374, 375, 376, 377, 378, 379, 380, 381, 382, 383, 384, 385, 386, 387, 388, 389, 390, 391, 392, 393, 394, 395, 396, 397, 398, 399, 106, 107, 108, 400, 401, 402, 403, 14, 15, 16, 17, 18, 19, 20, 21, 22, 23, 24, 25, 26, 101, 102, 103, 104, 322, 323, 324, 325, 326, 327, 328, 329, 415, 416, 417, 408, 409, 410, 411, 412, 413, 414, 422, 423, 424, 425, 418, 419, 420, 421] (by decide +kernel) (by decide +kernel)
set_option maxRecDepth 20000 in
theorem gX5_told_X5_unmetNow : GoodIn wsX5_told (wsV RX5 195 RX5 yX5_unmetNow wsX5_unmetNow) := goodIn_app (goodIn_of _ (by decide +kernel)) ggX5_told_X5_unmetNow
set_option maxRecDepth 20000 in
theorem ggX5_told_X5_isEndNow : GoodIn wsX5_told wsX5_isEndNow := goodIn_r _ [407, 23, 24, 25, 4, 26, 27, 28, 18, 29, 30, 31, 32, 33, 34, 35, 36, 37, 38, 39, 40, 41, 42, 43, 44, 45, 46, 47, 48, 49, 50, 51, 52, 53, 54, 55, 56, 57, 58, 59, 60, 61, 62, 63, 64, 65, 66, 67, 68, 69, 70, 71, 72, 73, 74, 75, 76, 77, 78, 79, 80, 81, 82, 83, 84, 85, 86, 87, 88, 89, 90, 91, 92, 93, 94, 95, 96, 97, 98, 99, 100, 408, 409, 410, 411, 412, 413, 414, 415, 416, 417, 418, 419, 420, 421] (by decide +kernel) (by decide +kernel)
set_option maxRecDepth 20000 in
theorem gX5_told_X5_isEndNow : GoodIn wsX5_told (wsV RX5 191 RX5 yX5_isEndNow wsX5_isEndNow) := goodIn_app (goodIn_of _ (by decide +kernel)) ggX5_told_X5_isEndNow
theorem dX5_told_0 : decode cX5_told 0 = .ok (.aload_n 0, 1) := by decide +kernel
theorem dX5_told_1 : decode cX5_told 1 = .ok (.iload_n 1, 1) := by decide +kernel
theorem dX5_told_2 : decode cX5_told 2 = .ok (.invokestatic 124, 3) := by decide +kernel
theorem dX5_told_5 : decode cX5_told 5 = .ok (.ifCond .ne 10, 3) := by decide +kernel
theorem dX5_told_8 : decode cX5_told 8 = .ok (.iload_n 2, 1) := by decide +kernel
theorem dX5_told_9 : decode cX5_told 9 = .ok (.invokestatic 124, 3) := by decide +kernel
theorem dX5_told_12 : decode cX5_told 12 = .ok (.ifCond .eq 7, 3) := by decide +kernel
theorem dX5_told_15 : decode cX5_told 15 = .ok (.iconst 1, 1) := by decide +kernel
theorem dX5_told_16 : decode cX5_told 16 = .ok (.goto 4, 3) := by decide +kernel
theorem dX5_told_19 : decode cX5_told 19 = .ok (.iconst 0, 1) := by decide +kernel
theorem dX5_told_20 : decode cX5_told 20 = .ok (.iconst 0, 1) := by decide +kernel
theorem dX5_told_21 : decode cX5_told 21 = .ok (.iconst 0, 1) := by decide +kernel
theorem dX5_told_22 : decode cX5_told 22 = .ok (.invokevirtual 127, 3) := by decide +kernel
theorem dX5_told_25 : decode cX5_told 25 = .ok (.ifCond .eq 5, 3) := by decide +kernel
theorem dX5_told_28 : decode cX5_told 28 = .ok (.iconst 0, 1) := by decide +kernel
theorem dX5_told_29 : decode cX5_told 29 = .ok (.ireturn, 1) := by decide +kernel
theorem dX5_told_30 : decode cX5_told 30 = .ok (.aload_n 0, 1) := by decide +kernel
theorem dX5_told_31 : decode cX5_told 31 = .ok (.aload_n 0, 1) := by decide +kernel
theorem dX5_told_32 : decode cX5_told 32 = .ok (.getfield 11, 3) := by decide +kernel
theorem dX5_told_35 : decode cX5_told 35 = .ok (.iload_n 1, 1) := by decide +kernel
theorem dX5_told_36 : decode cX5_told 36 = .ok (.aaload, 1) := by decide +kernel
theorem dX5_told_37 : decode cX5_told 37 = .ok (.invokevirtual 103, 3) := by decide +kernel
theorem dX5_told_40 : decode cX5_told 40 = .ok (.astore_n 3, 1) := by decide +kernel
theorem dX5_told_41 : decode cX5_told 41 = .ok (.aload_n 0, 1) := by decide +kernel
theorem dX5_told_42 : decode cX5_told 42 = .ok (.aload_n 0, 1) := by decide +kernel
theorem dX5_told_43 : decode cX5_told 43 = .ok (.getfield 11, 3) := by decide +kernel
theorem dX5_told_46 : decode cX5_told 46 = .ok (.iload_n 2, 1) := by decide +kernel
theorem dX5_told_47 : decode cX5_told 47 = .ok (.aaload, 1) := by decide +kernel
theorem dX5_told_48 : decode cX5_told 48 = .ok (.invokevirtual 103, 3) := by decide +kernel
theorem dX5_told_51 : decode cX5_told 51 = .ok (.astore 4, 2) := by decide +kernel
theorem dX5_told_53 : decode cX5_told 53 = .ok (.aload_n 3, 1) := by decide +kernel
theorem dX5_told_54 : decode cX5_told 54 = .ok (.aload 4, 2) := by decide +kernel
theorem dX5_told_56 : decode cX5_told 56 = .ok (.invokevirtual 107, 3) := by decide +kernel
theorem dX5_told_59 : decode cX5_told 59 = .ok (.ifCond .eq 5, 3) := by decide +kernel
theorem dX5_told_62 : decode cX5_told 62 = .ok (.iconst 1, 1) := by decide +kernel
theorem dX5_told_63 : decode cX5_told 63 = .ok (.ireturn, 1) := by decide +kernel
theorem dX5_told_64 : decode cX5_told 64 = .ok (.aload_n 0, 1) := by decide +kernel
theorem dX5_told_65 : decode cX5_told 65 = .ok (.invokevirtual 174, 3) := by decide +kernel
theorem dX5_told_68 : decode cX5_told 68 = .ok (.ifCond .eq 32, 3) := by decide +kernel
theorem dX5_told_71 : decode cX5_told 71 = .ok (.aload_n 0, 1) := by decide +kernel
theorem dX5_told_72 : decode cX5_told 72 = .ok (.invokevirtual 195, 3) := by decide +kernel
theorem dX5_told_75 : decode cX5_told 75 = .ok (.iconst (-1), 1) := by decide +kernel
theorem dX5_told_76 : decode cX5_told 76 = .ok (.if_icmp .ne 24, 3) := by decide +kernel
theorem dX5_told_79 : decode cX5_told 79 = .ok (.aload_n 0, 1) := by decide +kernel
theorem dX5_told_80 : decode cX5_told 80 = .ok (.aload_n 3, 1) := by decide +kernel
theorem dX5_told_81 : decode cX5_told 81 = .ok (.invokevirtual 191, 3) := by decide +kernel
theorem dX5_told_84 : decode cX5_told 84 = .ok (.ifCond .eq 16, 3) := by decide +kernel
theorem dX5_told_87 : decode cX5_told 87 = .ok (.aload_n 0, 1) := by decide +kernel
theorem dX5_told_88 : decode cX5_told 88 = .ok (.aload 4, 2) := by decide +kernel
theorem dX5_told_90 : decode cX5_told 90 = .ok (.invokevirtual 191, 3) := by decide +kernel
theorem dX5_told_93 : decode cX5_told 93 = .ok (.ifCond .eq 7, 3) := by decide +kernel
theorem dX5_told_96 : decode cX5_told 96 = .ok (.iconst 0, 1) := by decide +kernel
theorem dX5_told_97 : decode cX5_told 97 = .ok (.goto 4, 3) := by decide +kernel
theorem dX5_told_100 : decode cX5_told 100 = .ok (.iconst (-1), 1) := by decide +kernel
theorem dX5_told_101 : decode cX5_told 101 = .ok (.ireturn, 1) := by decide +kernel
set_option maxRecDepth 20000 in
theorem ggX5_peaks_X5_allPeaks : GoodIn wsX5_peaks wsX5_allPeaks := goodIn_r _ [6, 7, 8, 9, 10, 11, 12, 13, 14, 15, 16, 17, 18, 19, 20, 21, 22, 23, 24, 25, 26, 27, 28, 29, 30, 31, 32, 33, 34, 35, 36, 37, 38, 39, 40, 41, 42, 43, 44, 45, 46, 47, 48, 49, 50, 51, 52, 53, 54, 55, 56, 57, 58, 59, 60, 61, 62, 63, 64, 65, 66, 67, 68, 69, 70, 71, 72, 73, 74, 75, 76, 77, 78, 79, 80, 81, 82, 83, 84, 85, 86, 87, 88, 89, 90, 91, 92, 93, 94, 95, 96, 97, 98, 99, 100, 101, 102, 103, 104, 105, 106, 107, 108, 109, 110, 111, 112, 113, 114, 115, 116, 117, 118, 119, 120, 121, 122, 123, 124, 125, 126, 127, 128, 129, 130, 131, 132, 133, 134, 135, 136, 137, 138, 139, 140, 141, 142, 143, 144, 145, 146, 147, 148, 149, 150, 151, 152, 153, 154, 155, 156, 157, 158, 159, 5, 160, 161, 162, 163, 164, 165, 166, 167, 168, 169, 170, 171, 172, 173, 174, 175, 176, 177, 178, 179, 180, 181, 182, 183, 184, 185, 186, 187, 188, 189, 190, 191, 192, 193, 194, 195, 196, 197, 198, 199, 200, 201, 202, 203, 204, 205, 206, 207, 208, 209, 210, 211, 212, 213, 214, 215, 216, 217, 218, 219, 220, 221, 222, 223, 224, 225, 226, 227, 228, 229, 230, 231, 232, 233, 234, 235, 236, 237, 238, 239, 240, 241, 242, 243, 244, 245, 246, 247, 248, 249, 250, 251, 252, 253, 254, 255, 256, 257, 258, 259, 260, 261, 262, 263, 264, 265, 266, 267, 268, 269, 270, 271, 272, 273, 274, 275, 276, 277, 278, 279, 280, 281, 282, 283, 284, 285, 286, 287, 288, 289, 290, 291, 292, 293, 294, 295, 296, 297, 298, 299, 300, 301, 302, 303, 304, 305, 306, 307, 308, 309, 310, 311, 312, 313, 314, 315, 316, 317, 318, 319, 320, 321, 322, 323, 324, 325, 326, 327, 328, 329, 330, 331, 332, 333, 334, 335, 336, 337, 338, 339, 340, 341, 342, 343, 344, 345, 346, 347, 355, 356, 357, 348, 349, 350, 351, 352, 353, 354, 358, 359, 360, 361, 362, 363, 364, 365] (by decide +kernel) (by decide +kernel)
set_option maxRecDepth 20000 in
theorem gX5_peaks_X5_allPeaks : GoodIn wsX5_peaks (wsV RX5 110 RX5 yX5_allPeaks wsX5_allPeaks) := goodIn_app (goodIn_of _ (by decide +kernel)) ggX5_peaks_X5_allPeaks
set_option maxRecDepth 20000 in
theorem ggX5_peaks_Jx4a65c_size_8abf5 : GoodIn wsX5_peaks wsJx4a65c_size_8abf5 := goodIn_r _ [37, 38, 355, 356, 357] (by decide +kernel) (by decide +kernel)
set_option maxRecDepth 20000 in
theorem gX5_peaks_Jx4a65c_size_8abf5 : GoodIn wsX5_peaks (wsV RX5 35 RJx4a65c yJx4a65c_size_8abf5 wsJx4a65c_size_8abf5) := goodIn_app (goodIn_of _ (by decide +kernel)) ggX5_peaks_Jx4a65c_size_8abf5
theorem dX5_peaks_0 : decode cX5_peaks 0 = .ok (.aload_n 0, 1) := by decide +kernel
theorem dX5_peaks_1 : decode cX5_peaks 1 = .ok (.iconst 0, 1) := by decide +kernel
theorem dX5_peaks_2 : decode cX5_peaks 2 = .ok (.putfield 27, 3) := by decide +kernel
theorem dX5_peaks_5 : decode cX5_peaks 5 = .ok (.aload_n 0, 1) := by decide +kernel
theorem dX5_peaks_6 : decode cX5_peaks 6 = .ok (.invokevirtual 110, 3) := by decide +kernel
theorem dX5_peaks_9 : decode cX5_peaks 9 = .ok (.invokevirtual 35, 3) := by decide +kernel
theorem dX5_peaks_12 : decode cX5_peaks 12 = .ok (.ireturn, 1) := by decide +kernel
set_option maxRecDepth 20000 in
theorem ggX5_peak_X5_allPeaks : GoodIn wsX5_peak wsX5_allPeaks := goodIn_r _ [10, 11, 12, 13, 14, 15, 16, 3, 4, 5, 17, 18, 19, 20, 21, 22, 23, 24, 25, 26, 27, 28, 29, 30, 31, 32, 33, 34, 35, 36, 37, 38, 39, 40, 41, 42, 43, 44, 45, 46, 47, 48, 49, 50, 51, 52, 53, 54, 55, 56, 57, 58, 59, 60, 61, 62, 63, 64, 65, 66, 67, 68, 69, 70, 71, 72, 73, 74, 75, 76, 77, 78, 79, 80, 81, 82, 83, 84, 85, 86, 87, 88, 89, 90, 91, 92, 93, 94, 95, 96, 97, 98, 99, 100, 101, 102, 103, 104, 105, 106, 107, 108, 109, 110, 111, 112, 113, 114, 115, 116, 117, 118, 119, 120, 121, 122, 123, 124, 125, 126, 127, 128, 129, 130, 131, 132, 133, 134, 135, 136, 137, 138, 139, 140, 141, 142, 143, 144, 145, 146, 147, 148, 149, 150, 151, 152, 153, 154, 155, 156, 157, 158, 159, 160, 9, 161, 162, 163, 164, 165, 166, 167, 168, 169, 170, 171, 172, 173, 174, 175, 176, 177, 178, 179, 180, 181, 182, 183, 184, 185, 186, 187, 188, 189, 190, 191, 192, 193, 194, 195, 196, 197, 198, 199, 200, 201, 202, 203, 204, 205, 206, 207, 208, 209, 210, 211, 212, 213, 214, 215, 216, 217, 218, 219, 220, 221, 222, 223, 224, 225, 226, 227, 228, 229, 230, 231, 232, 233, 234, 235, 236, 237, 238, 239, 240, 241, 242, 243, 244, 245, 246, 247, 248, 249, 250, 251, 252, 253, 254, 255, 256, 257, 258, 259, 260, 261, 262, 263, 264, 265, 266, 267, 268, 269, 270, 271, 272, 273, 274, 275, 276, 277, 278, 279, 280, 281, 282, 283, 284, 285, 286, 287, 288, 289, 290, 291, 292, 293, 294, 295, 296, 297, 298, 299, 300, 301, 302, 303, 304, 305, 306, 307, 308, 309, 310, 311, 312, 313, 314, 315, 316, 317, 318, 319, 320, 321, 322, 323, 324, 325, 326, 327, 328, 329, 330, 331, 332, 333, 334, 335, 336, 337, 338, 339, 340, 341, 342, 343, 344, 345, 346, 347, 348, 363, 364, 365, 352, 353, 354, 355, 356, 357, 358, 359, 360, 361, 362, 366, 367, 368, 369] (by decide +kernel) (by decide +kernel)
set_option maxRecDepth 20000 in
theorem gX5_peak_X5_allPeaks : GoodIn wsX5_peak (wsV RX5 110 RX5 yX5_allPeaks wsX5_allPeaks) := goodIn_app (goodIn_of _ (by decide +kernel)) ggX5_peak_X5_allPeaks
set_option maxRecDepth 20000 in
theorem ggX5_peak_Jx4a65c_size_8abf5 : GoodIn wsX5_peak wsJx4a65c_size_8abf5 := goodIn_r _ [38, 39, 363, 364, 365] (by decide +kernel) (by decide +kernel)
set_option maxRecDepth 20000 in
theorem gX5_peak_Jx4a65c_size_8abf5 : GoodIn wsX5_peak (wsV RX5 35 RJx4a65c yJx4a65c_size_8abf5 wsJx4a65c_size_8abf5) := goodIn_app (goodIn_of _ (by decide +kernel)) ggX5_peak_Jx4a65c_size_8abf5
set_option maxRecDepth 20000 in
theorem ggX5_peak_X5_isIn : GoodIn wsX5_peak wsX5_isIn := goodIn_r _ [351] (by decide +kernel) (by decide +kernel)
set_option maxRecDepth 20000 in
theorem gX5_peak_X5_isIn : GoodIn wsX5_peak (va_wsS RX5 31 yX5_isIn wsX5_isIn) := goodIn_app (goodIn_of _ (by decide +kernel)) ggX5_peak_X5_isIn
set_option maxRecDepth 20000 in
theorem ggX5_peak_Jx4a65c_get_915e3 : GoodIn wsX5_peak wsJx4a65c_get_915e3 := goodIn_r _ [43, 39, 44, 45, 46, 47, 48, 49, 50, 51, 52, 53, 54, 13, 55, 22, 363, 364, 365] (by decide +kernel) (by decide +kernel)
set_option maxRecDepth 20000 in
theorem gX5_peak_Jx4a65c_get_915e3 : GoodIn wsX5_peak (wsV RX5 67 RJx4a65c yJx4a65c_get_915e3 wsJx4a65c_get_915e3) := goodIn_app (goodIn_of _ (by decide +kernel)) ggX5_peak_Jx4a65c_get_915e3
set_option maxRecDepth 20000 in
theorem ggX5_peak_J4_init_da8c8 : GoodIn wsX5_peak wsJ4_init_da8c8 := goodIn_r _ [187, 188, 189, 190, 191, 192, 33, 34, 193, 103, 194, 195, 196, 197, 122, 198, 150, 151, 152, 153, 359, 360, 361, 362] (by decide +kernel) (by decide +kernel)
set_option maxRecDepth 20000 in
theorem gX5_peak_J4_init_da8c8 : GoodIn wsX5_peak (wsJ4_init_da8c8) := ggX5_peak_J4_init_da8c8
set_option maxRecDepth 20000 in
theorem ggX5_peak_J4_append_15ec4 : GoodIn wsX5_peak wsJ4_append_15ec4 := goodIn_r _ [202, 203, 204, 205, 206, 190, 207, 208, 209, 210, 211, 212, 213, 194, 214, 215, 216, 217, 218, 195, 219, 220, 221, 222, 223, 224, 225, 226, 227, 228, 229, 230, 106, 231, 232, 233, 234, 235, 236, 237, 92, 238, 94, 95, 96, 97, 98, 99, 103, 104, 105, 107, 108, 109, 110, 111, 239, 240, 241, 242, 243, 193, 244, 245, 122, 246, 147, 247, 248, 249, 135, 136, 137, 250, 74, 59, 75, 76, 77, 78, 50, 79, 251, 252, 253, 148, 149, 254, 57, 58, 60, 61, 62, 63, 64, 65, 66, 67, 255, 256, 257, 258, 259, 260, 261, 262, 263, 264, 265, 266, 267, 268, 269, 270, 196, 197, 198, 150, 151, 152, 153, 271, 272, 86, 273, 274, 275, 276, 132, 133, 134, 138, 139, 140, 141, 142, 143, 277, 278, 279, 280, 281, 282, 359, 360, 361, 362, 366, 367, 368, 369] (by decide +kernel) (by decide +kernel)
set_option maxRecDepth 20000 in
theorem gX5_peak_J4_append_15ec4 : GoodIn wsX5_peak (wsV RX5 56 RJ4 yJ4_append_15ec4 wsJ4_append_15ec4) := goodIn_app (goodIn_of _ (by decide +kernel)) ggX5_peak_J4_append_15ec4
set_option maxRecDepth 20000 in
theorem ggX5_peak_J4_toString_0e30d : GoodIn wsX5_peak wsJ4_toString_0e30d := goodIn_r _ [286, 287, 89, 59, 288, 289, 290, 291, 292, 293, 119, 33, 34, 67, 61, 66, 294, 295, 296, 297, 298, 190, 299, 194, 300, 301, 302, 303, 304, 5, 305, 306, 205, 307, 308, 208, 309, 240, 241, 242, 243, 193, 195, 310, 91, 92, 93, 94, 95, 96, 97, 98, 99, 100, 101, 102, 103, 104, 105, 106, 107, 108, 109, 110, 111, 112, 113, 114, 115, 4, 311, 127, 122, 128, 129, 130, 131, 132, 133, 134, 135, 136, 137, 138, 139, 140, 76, 141, 142, 50, 143, 144, 145, 146, 147, 148, 149, 150, 151, 152, 153, 154, 312, 156, 157, 366, 367, 368, 369, 359, 360, 361, 362] (by decide +kernel) (by decide +kernel)
set_option maxRecDepth 20000 in
theorem gX5_peak_J4_toString_0e30d : GoodIn wsX5_peak (wsV RX5 63 RJ4 yJ4_toString_0e30d wsJ4_toString_0e30d) := goodIn_app (goodIn_of _ (by decide +kernel)) ggX5_peak_J4_toString_0e30d
theorem dX5_peak_0 : decode cX5_peak 0 = .ok (.aload_n 0, 1) := by decide +kernel
theorem dX5_peak_1 : decode cX5_peak 1 = .ok (.iconst 0, 1) := by decide +kernel
theorem dX5_peak_2 : decode cX5_peak 2 = .ok (.putfield 27, 3) := by decide +kernel
theorem dX5_peak_5 : decode cX5_peak 5 = .ok (.aload_n 0, 1) := by decide +kernel
theorem dX5_peak_6 : decode cX5_peak 6 = .ok (.invokevirtual 110, 3) := by decide +kernel
theorem dX5_peak_9 : decode cX5_peak 9 = .ok (.astore_n 2, 1) := by decide +kernel
theorem dX5_peak_10 : decode cX5_peak 10 = .ok (.iload_n 1, 1) := by decide +kernel
theorem dX5_peak_11 : decode cX5_peak 11 = .ok (.iconst 0, 1) := by decide +kernel
theorem dX5_peak_12 : decode cX5_peak 12 = .ok (.aload_n 2, 1) := by decide +kernel
theorem dX5_peak_13 : decode cX5_peak 13 = .ok (.invokevirtual 35, 3) := by decide +kernel
theorem dX5_peak_16 : decode cX5_peak 16 = .ok (.iconst 1, 1) := by decide +kernel
theorem dX5_peak_17 : decode cX5_peak 17 = .ok (.isub, 1) := by decide +kernel
theorem dX5_peak_18 : decode cX5_peak 18 = .ok (.invokestatic 31, 3) := by decide +kernel
theorem dX5_peak_21 : decode cX5_peak 21 = .ok (.ifCond .ne 6, 3) := by decide +kernel
theorem dX5_peak_24 : decode cX5_peak 24 = .ok (.ldc 9, 2) := by decide +kernel
theorem dX5_peak_26 : decode cX5_peak 26 = .ok (.areturn, 1) := by decide +kernel
theorem dX5_peak_27 : decode cX5_peak 27 = .ok (.aload_n 2, 1) := by decide +kernel
theorem dX5_peak_28 : decode cX5_peak 28 = .ok (.iload_n 1, 1) := by decide +kernel
theorem dX5_peak_29 : decode cX5_peak 29 = .ok (.invokevirtual 67, 3) := by decide +kernel
theorem dX5_peak_32 : decode cX5_peak 32 = .ok (.checkcast 114, 3) := by decide +kernel
theorem dX5_peak_35 : decode cX5_peak 35 = .ok (.astore_n 3, 1) := by decide +kernel
theorem dX5_peak_36 : decode cX5_peak 36 = .ok (.new 49, 3) := by decide +kernel
theorem dX5_peak_39 : decode cX5_peak 39 = .ok (.dup, 1) := by decide +kernel
theorem dX5_peak_40 : decode cX5_peak 40 = .ok (.invokespecial 51, 3) := by decide +kernel
theorem dX5_peak_43 : decode cX5_peak 43 = .ok (.aload_n 3, 1) := by decide +kernel
theorem dX5_peak_44 : decode cX5_peak 44 = .ok (.iconst 0, 1) := by decide +kernel
theorem dX5_peak_45 : decode cX5_peak 45 = .ok (.aaload, 1) := by decide +kernel
theorem dX5_peak_46 : decode cX5_peak 46 = .ok (.invokevirtual 56, 3) := by decide +kernel
theorem dX5_peak_49 : decode cX5_peak 49 = .ok (.ldc 198, 2) := by decide +kernel
theorem dX5_peak_51 : decode cX5_peak 51 = .ok (.invokevirtual 56, 3) := by decide +kernel
theorem dX5_peak_54 : decode cX5_peak 54 = .ok (.aload_n 3, 1) := by decide +kernel
theorem dX5_peak_55 : decode cX5_peak 55 = .ok (.iconst 1, 1) := by decide +kernel
theorem dX5_peak_56 : decode cX5_peak 56 = .ok (.aaload, 1) := by decide +kernel
theorem dX5_peak_57 : decode cX5_peak 57 = .ok (.invokevirtual 56, 3) := by decide +kernel
theorem dX5_peak_60 : decode cX5_peak 60 = .ok (.ldc 200, 2) := by decide +kernel
theorem dX5_peak_62 : decode cX5_peak 62 = .ok (.invokevirtual 56, 3) := by decide +kernel
theorem dX5_peak_65 : decode cX5_peak 65 = .ok (.aload_n 3, 1) := by decide +kernel
theorem dX5_peak_66 : decode cX5_peak 66 = .ok (.iconst 2, 1) := by decide +kernel
theorem dX5_peak_67 : decode cX5_peak 67 = .ok (.aaload, 1) := by decide +kernel
theorem dX5_peak_68 : decode cX5_peak 68 = .ok (.invokevirtual 56, 3) := by decide +kernel
theorem dX5_peak_71 : decode cX5_peak 71 = .ok (.invokevirtual 63, 3) := by decide +kernel
theorem dX5_peak_74 : decode cX5_peak 74 = .ok (.areturn, 1) := by decide +kernel
set_option maxRecDepth 20000 in
theorem ggX5_meets_X5_allPeaks : GoodIn wsX5_meets wsX5_allPeaks := goodIn_r _ [6, 7, 8, 9, 10, 11, 12, 13, 14, 15, 16, 17, 18, 19, 20, 21, 22, 23, 24, 25, 26, 27, 28, 29, 30, 31, 32, 33, 34, 35, 36, 37, 38, 39, 40, 41, 42, 43, 44, 45, 46, 47, 48, 49, 50, 51, 52, 53, 54, 55, 56, 57, 58, 59, 60, 61, 62, 63, 64, 65, 66, 67, 68, 69, 70, 71, 72, 73, 74, 75, 76, 77, 78, 79, 80, 81, 82, 83, 84, 85, 86, 87, 88, 89, 90, 91, 92, 93, 94, 95, 96, 97, 98, 99, 100, 101, 102, 103, 104, 105, 106, 107, 108, 109, 110, 111, 112, 113, 114, 115, 116, 117, 118, 119, 120, 121, 122, 123, 124, 125, 126, 127, 128, 129, 130, 131, 132, 133, 134, 135, 136, 137, 138, 139, 140, 141, 142, 143, 144, 145, 146, 147, 148, 149, 150, 151, 152, 153, 154, 155, 156, 157, 158, 159, 5, 160, 161, 162, 163, 164, 165, 166, 167, 168, 169, 170, 171, 172, 173, 174, 175, 176, 177, 178, 179, 180, 181, 182, 183, 184, 185, 186, 187, 188, 189, 190, 191, 192, 193, 194, 195, 196, 197, 198, 199, 200, 201, 202, 203, 204, 205, 206, 207, 208, 209, 210, 211, 212, 213, 214, 215, 216, 217, 218, 219, 220, 221, 222, 223, 224, 225, 226, 227, 228, 229, 230, 231, 232, 233, 234, 235, 236, 237, 238, 239, 240, 241, 242, 243, 244, 245, 246, 247, 248, 249, 250, 251, 252, 253, 254, 255, 256, 257, 258, 259, 260, 261, 262, 263, 264, 265, 266, 267, 268, 269, 270, 271, 272, 273, 274, 275, 276, 277, 278, 279, 280, 281, 282, 283, 284, 285, 286, 287, 288, 289, 290, 291, 292, 293, 294, 295, 296, 297, 298, 299, 300, 301, 302, 303, 304, 305, 306, 307, 308, 309, 310, 311, 312, 313, 314, 315, 316, 317, 318, 319, 320, 321, 322, 323, 324, 325, 326, 327, 328, 329, 330, 331, 332, 333, 334, 335, 336, 337, 338, 339, 340, 341, 342, 343, 344, 345, 346, 347, 385, 386, 387, 388, 389, 390, 391, 392, 393, 394, 395, 396, 397, 398, 399, 400, 401, 402] (by decide +kernel) (by decide +kernel)
set_option maxRecDepth 20000 in
theorem gX5_meets_X5_allPeaks : GoodIn wsX5_meets (wsV RX5 110 RX5 yX5_allPeaks wsX5_allPeaks) := goodIn_app (goodIn_of _ (by decide +kernel)) ggX5_meets_X5_allPeaks
set_option maxRecDepth 20000 in
theorem ggX5_meets_Jx4a65c_size_8abf5 : GoodIn wsX5_meets wsJx4a65c_size_8abf5 := goodIn_r _ [37, 38, 385, 386, 387] (by decide +kernel) (by decide +kernel)
set_option maxRecDepth 20000 in
theorem gX5_meets_Jx4a65c_size_8abf5 : GoodIn wsX5_meets (wsV RX5 35 RJx4a65c yJx4a65c_size_8abf5 wsJx4a65c_size_8abf5) := goodIn_app (goodIn_of _ (by decide +kernel)) ggX5_meets_Jx4a65c_size_8abf5
set_option maxRecDepth 20000 in
theorem ggX5_meets_X5_isIn : GoodIn wsX5_meets wsX5_isIn := goodIn_r _ [350] (by decide +kernel) (by decide +kernel)
set_option maxRecDepth 20000 in
theorem gX5_meets_X5_isIn : GoodIn wsX5_meets (va_wsS RX5 31 yX5_isIn wsX5_isIn) := goodIn_app (goodIn_of _ (by decide +kernel)) ggX5_meets_X5_isIn
set_option maxRecDepth 20000 in
theorem ggX5_meets_X5_fails : GoodIn wsX5_meets wsX5_fails := goodIn_r _ [354, 355, 388, 389, 390, 391, 392, 393, 394] (by decide +kernel) (by decide +kernel)
set_option maxRecDepth 20000 in
theorem gX5_meets_X5_fails : GoodIn wsX5_meets (wsV RX5 127 RX5 yX5_fails wsX5_fails) := goodIn_app (goodIn_of _ (by decide +kernel)) ggX5_meets_X5_fails
set_option maxRecDepth 20000 in
theorem ggX5_meets_Jx4a65c_get_915e3 : GoodIn wsX5_meets wsJx4a65c_get_915e3 := goodIn_r _ [42, 38, 43, 44, 45, 46, 47, 48, 49, 50, 51, 52, 53, 9, 54, 21, 385, 386, 387] (by decide +kernel) (by decide +kernel)
set_option maxRecDepth 20000 in
theorem gX5_meets_Jx4a65c_get_915e3 : GoodIn wsX5_meets (wsV RX5 67 RJx4a65c yJx4a65c_get_915e3 wsJx4a65c_get_915e3) := goodIn_app (goodIn_of _ (by decide +kernel)) ggX5_meets_Jx4a65c_get_915e3
theorem dX5_meets_0 : decode cX5_meets 0 = .ok (.aload_n 0, 1) := by decide +kernel
theorem dX5_meets_1 : decode cX5_meets 1 = .ok (.invokevirtual 110, 3) := by decide +kernel
theorem dX5_meets_4 : decode cX5_meets 4 = .ok (.astore_n 2, 1) := by decide +kernel
theorem dX5_meets_5 : decode cX5_meets 5 = .ok (.aload_n 0, 1) := by decide +kernel
theorem dX5_meets_6 : decode cX5_meets 6 = .ok (.iload_n 1, 1) := by decide +kernel
theorem dX5_meets_7 : decode cX5_meets 7 = .ok (.iconst 0, 1) := by decide +kernel
theorem dX5_meets_8 : decode cX5_meets 8 = .ok (.aload_n 2, 1) := by decide +kernel
theorem dX5_meets_9 : decode cX5_meets 9 = .ok (.invokevirtual 35, 3) := by decide +kernel
theorem dX5_meets_12 : decode cX5_meets 12 = .ok (.iconst 1, 1) := by decide +kernel
theorem dX5_meets_13 : decode cX5_meets 13 = .ok (.isub, 1) := by decide +kernel
theorem dX5_meets_14 : decode cX5_meets 14 = .ok (.invokestatic 31, 3) := by decide +kernel
theorem dX5_meets_17 : decode cX5_meets 17 = .ok (.ifCond .ne 7, 3) := by decide +kernel
theorem dX5_meets_20 : decode cX5_meets 20 = .ok (.iconst 1, 1) := by decide +kernel
theorem dX5_meets_21 : decode cX5_meets 21 = .ok (.goto 4, 3) := by decide +kernel
theorem dX5_meets_24 : decode cX5_meets 24 = .ok (.iconst 0, 1) := by decide +kernel
theorem dX5_meets_25 : decode cX5_meets 25 = .ok (.iconst 0, 1) := by decide +kernel
theorem dX5_meets_26 : decode cX5_meets 26 = .ok (.iconst 0, 1) := by decide +kernel
theorem dX5_meets_27 : decode cX5_meets 27 = .ok (.invokevirtual 127, 3) := by decide +kernel
theorem dX5_meets_30 : decode cX5_meets 30 = .ok (.ifCond .ne 22, 3) := by decide +kernel
theorem dX5_meets_33 : decode cX5_meets 33 = .ok (.aload_n 0, 1) := by decide +kernel
theorem dX5_meets_34 : decode cX5_meets 34 = .ok (.aload_n 2, 1) := by decide +kernel
theorem dX5_meets_35 : decode cX5_meets 35 = .ok (.iload_n 1, 1) := by decide +kernel
theorem dX5_meets_36 : decode cX5_meets 36 = .ok (.invokevirtual 67, 3) := by decide +kernel
theorem dX5_meets_39 : decode cX5_meets 39 = .ok (.checkcast 114, 3) := by decide +kernel
theorem dX5_meets_42 : decode cX5_meets 42 = .ok (.invokevirtual 115, 3) := by decide +kernel
theorem dX5_meets_45 : decode cX5_meets 45 = .ok (.ifCond .eq 7, 3) := by decide +kernel
theorem dX5_meets_48 : decode cX5_meets 48 = .ok (.iconst 1, 1) := by decide +kernel
theorem dX5_meets_49 : decode cX5_meets 49 = .ok (.goto 4, 3) := by decide +kernel
theorem dX5_meets_52 : decode cX5_meets 52 = .ok (.iconst 0, 1) := by decide +kernel
theorem dX5_meets_53 : decode cX5_meets 53 = .ok (.ireturn, 1) := by decide +kernel
set_option maxRecDepth 20000 in
theorem ggX5_unmet_X5_unmetNow : GoodIn wsX5_unmet wsX5_unmetNow := goodIn_r _ [6, 7, 8, 9, 10, 5, 11, 12, 13, 14, 15, 16, 17, 18, 19, 20, 21, 22, 23, 24, 25, 26, 27, 28, 29, 30, 31, 32, 33, 34, 35, 36, 37, 38, 39, 40, 41, 42, 43, 44, 45, 46, 47, 48, 49, 50, 51, 52, 53, 54, 55, 56, 57, 58, 59, 60, 61, 62, 63, 64, 65, 66, 67, 68, 69, 70, 71, 72, 73, 74, 75, 76, 77, 78, 79, 80, 81, 82, 83, 84, 85, 86, 87, 88, 89, 90, 91, 92, 93, 94, 95, 96, 97, 98, 99, 100, 101, 102, 103, 104, 105, 106, 107, 108, 109, 110, 111, 112, 113, 114, 115, 116, 117, 118, 119, 120, 121, 122, 123, 124, 125, 126, 127, 128, 129, 130, 131, 132, 133, 134, 135, 136, 137, 138, 139, 140, 141, 142, 143, 144, 145, 146, 147, 148, 149, 150, 151, 152, 153, 154, 155, 156, 157, 158, 159, 160, 161, 162, 163, 164, 165, 166, 167, 168, 169, 170, 171, 172, 173, 174, 175, 176, 177, 178, 179, 180, 181, 182, 183, 184, 185, 186, 187, 188, 189, 190, 191, 192, 193, 194, 195, 196, 197, 198, 199, 200, 201, 202, 203, 204, 205, 206, 207, 208, 209, 210, 211, 212, 213, 214, 215, 216, 217, 218, 219, 220, 221, 222, 223, 224, 225, 226, 227, 228, 229, 230, 231, 232, 233, 234, 235, 236, 237, 238, 239, 240, 241, 242, 243, 244, 245, 246, 247, 248, 249, 250, 251, 252, 253, 254, 255, 256, 257, 258, 259, 260, 261, 262, 263, 264, 265, 266, 267, 268, 269, 270, 271, 272, 273, 274, 275, 276, 277, 278, 279, 280, 281, 282, 283, 284, 285, 286, 287, 288, 289, 290, 291, 292, 293, 294, 295, 296, 297, 298, 299, 300, 301, 302, 303, 304, 305, 306, 307, 308, 309, 310, 311, 312, 313, 314, 315, 316, 317, 318, 319, 320, 321, 322, 323, 324, 325, 326, 327, 328, 329, 330, 331, 332, 333, 334, 335, 336, 337, 338, 339, 340, 341, 342, 343, 344, 345, 346, 347, 348, 349, 350, 351, 352, 353, 354, 355, 356, 357, 358, 359, 360, 361, 362, 363, 364, 365, 366, 367, 368, 369, 370, 371, 372, 373, 374, 375, 376, 377, 378, 379, 380, 381, 389, 390, 391, 382, 383, 384, 385, 386, 387, 388, 392, 393, 394, 395, 396, 397, 398, 399] (by decide +kernel) (by decide +kernel)
set_option maxRecDepth 20000 in
theorem gX5_unmet_X5_unmetNow : GoodIn wsX5_unmet (wsV RX5 195 RX5 yX5_unmetNow wsX5_unmetNow) := goodIn_app (goodIn_of _ (by decide +kernel)) ggX5_unmet_X5_unmetNow
theorem dX5_unmet_0 : decode cX5_unmet 0 = .ok (.aload_n 0, 1) := by decide +kernel
theorem dX5_unmet_1 : decode cX5_unmet 1 = .ok (.iconst 0, 1) := by decide +kernel
theorem dX5_unmet_2 : decode cX5_unmet 2 = .ok (.putfield 27, 3) := by decide +kernel
theorem dX5_unmet_5 : decode cX5_unmet 5 = .ok (.aload_n 0, 1) := by decide +kernel
theorem dX5_unmet_6 : decode cX5_unmet 6 = .ok (.invokevirtual 195, 3) := by decide +kernel
theorem dX5_unmet_9 : decode cX5_unmet 9 = .ok (.ireturn, 1) := by decide +kernel
set_option maxRecDepth 20000 in
theorem ggX5_complete_X5_unmetNow : GoodIn wsX5_complete wsX5_unmetNow := goodIn_r _ [7, 2, 8, 9, 10, 6, 11, 12, 13, 14, 15, 16, 17, 18, 19, 20, 21, 22, 23, 24, 25, 26, 27, 28, 29, 30, 31, 32, 33, 34, 35, 36, 37, 38, 39, 40, 41, 42, 43, 44, 45, 46, 47, 48, 49, 50, 51, 52, 53, 54, 55, 56, 57, 58, 59, 60, 61, 62, 63, 64, 65, 66, 67, 68, 69, 70, 71, 72, 73, 74, 75, 76, 77, 78, 79, 80, 81, 82, 83, 84, 85, 86, 87, 88, 89, 90, 91, 92, 93, 94, 95, 96, 97, 98, 99, 100, 101, 102, 103, 104, 105, 106, 107, 108, 109, 110, 111, 112, 113, 114, 115, 116, 117, 118, 119, 120, 121, 122, 123, 124, 125, 126, 127, 128, 129, 130, 131, 132, 133, 134, 135, 136, 137, 138, 139, 140, 141, 142, 143, 144, 145, 146, 147, 148, 149, 150, 151, 152, 153, 154, 155, 156, 157, 158, 159, 160, 161, 162, 163, 164, 165, 166, 167, 168, 169, 170, 171, 172, 173, 174, 175, 176, 177, 178, 179, 180, 181, 182, 183, 184, 185, 186, 187, 188, 189, 190, 191, 192, 193, 194, 195, 196, 197, 198, 199, 200, 201, 202, 203, 204, 205, 206, 207, 208, 209, 210, 211, 212, 213, 214, 215, 216, 217, 218, 219, 220, 221, 222, 223, 224, 225, 226, 227, 228, 229, 230, 231, 232, 233, 234, 235, 236, 237, 238, 239, 240, 241, 242, 243, 244, 245, 246, 247, 248, 249, 250, 251, 252, 253, 254, 255, 256, 257, 258, 259, 260, 261, 262, 263, 264, 265, 266, 267, 268, 269, 270, 271, 272, 273, 274, 275, 276, 277, 278, 279, 280, 281, 282, 283, 284, 285, 286, 287, 288, 289, 290, 291, 292, 293, 294, 295, 296, 297, 298, 299, 300, 301, 302, 303, 304, 305, 306, 307, 308, 309, 310, 311, 312, 313, 314, 315, 316, 317, 318, 319, 320, 321, 322, 323, 324, 325, 326, 327, 328, 329, 330, 331, 332, 333, 334, 335, 336, 337, 338, 339, 340, 341, 342, 343, 344, 345, 346, 347, 348, 349, 350, 351, 352, 353, 354, 355, 356, 357, 358, 359, 360, 361, 362, 363, 364, 365, 366, 367, 368, 369, 370, 371, 372, 373, 374, 375, 376, 377, 378, 379, 380, 381, 405, 406, 407, 398, 399, 400, 401, 402, 403, 404, 408, 409, 410, 411, 412, 413, 414, 415] (by decide +kernel) (by decide +kernel)
set_option maxRecDepth 20000 in
theorem gX5_complete_X5_unmetNow : GoodIn wsX5_complete (wsV RX5 195 RX5 yX5_unmetNow wsX5_unmetNow) := goodIn_app (goodIn_of _ (by decide +kernel)) ggX5_complete_X5_unmetNow
set_option maxRecDepth 20000 in
theorem ggX5_complete_X5_allPeaks : GoodIn wsX5_complete wsX5_allPeaks := goodIn_r _ [11, 12, 13, 14, 15, 16, 17, 18, 19, 20, 21, 22, 23, 24, 25, 26, 27, 28, 29, 30, 31, 32, 33, 34, 35, 36, 37, 38, 39, 40, 41, 42, 43, 44, 45, 46, 47, 48, 49, 50, 51, 52, 53, 54, 55, 56, 57, 58, 59, 60, 61, 62, 63, 64, 65, 66, 67, 68, 69, 70, 71, 72, 73, 74, 75, 76, 77, 78, 79, 80, 81, 82, 83, 84, 85, 86, 87, 88, 89, 90, 91, 92, 93, 94, 95, 96, 97, 98, 99, 100, 101, 102, 103, 104, 105, 106, 107, 108, 109, 110, 111, 112, 113, 114, 115, 116, 117, 118, 119, 120, 121, 122, 123, 124, 125, 126, 127, 128, 129, 130, 131, 132, 133, 134, 135, 136, 137, 138, 139, 140, 141, 142, 143, 144, 145, 146, 147, 148, 149, 150, 151, 152, 153, 154, 155, 156, 157, 158, 159, 160, 161, 162, 163, 164, 6, 165, 166, 167, 168, 169, 170, 171, 172, 173, 174, 175, 176, 177, 178, 179, 180, 181, 182, 183, 184, 185, 186, 187, 188, 189, 190, 191, 192, 193, 194, 195, 196, 197, 198, 199, 200, 201, 202, 203, 204, 205, 206, 207, 208, 209, 210, 211, 212, 213, 214, 215, 216, 217, 218, 219, 220, 221, 222, 223, 224, 225, 226, 227, 228, 229, 230, 231, 232, 233, 234, 235, 236, 237, 238, 239, 240, 241, 242, 243, 244, 245, 246, 247, 248, 249, 250, 251, 252, 253, 254, 255, 256, 257, 258, 259, 260, 261, 262, 263, 264, 265, 266, 267, 268, 269, 270, 271, 272, 273, 274, 275, 276, 277, 278, 279, 280, 281, 282, 283, 284, 285, 286, 287, 288, 289, 290, 291, 292, 293, 294, 295, 296, 297, 298, 299, 300, 301, 302, 303, 304, 305, 306, 307, 308, 309, 310, 311, 312, 313, 314, 315, 316, 317, 318, 319, 320, 321, 322, 323, 324, 325, 326, 327, 328, 329, 330, 331, 332, 333, 334, 335, 336, 337, 338, 339, 340, 341, 342, 343, 344, 345, 346, 347, 348, 349, 350, 351, 352, 405, 406, 407, 398, 399, 400, 401, 402, 403, 404, 408, 409, 410, 411, 412, 413, 414, 415] (by decide +kernel) (by decide +kernel)
set_option maxRecDepth 20000 in
theorem gX5_complete_X5_allPeaks : GoodIn wsX5_complete (wsV RX5 110 RX5 yX5_allPeaks wsX5_allPeaks) := goodIn_app (goodIn_of _ (by decide +kernel)) ggX5_complete_X5_allPeaks
set_option maxRecDepth 20000 in
theorem ggX5_complete_Jx4a65c_get_915e3 : GoodIn wsX5_complete wsJx4a65c_get_915e3 := goodIn_r _ [47, 43, 48, 49, 50, 51, 52, 53, 54, 55, 56, 57, 58, 14, 59, 26, 405, 406, 407] (by decide +kernel) (by decide +kernel)
set_option maxRecDepth 20000 in
theorem gX5_complete_Jx4a65c_get_915e3 : GoodIn wsX5_complete (wsV RX5 67 RJx4a65c yJx4a65c_get_915e3 wsJx4a65c_get_915e3) := goodIn_app (goodIn_of _ (by decide +kernel)) ggX5_complete_Jx4a65c_get_915e3
set_option maxRecDepth 20000 in
theorem ggX5_complete_X5_formOf : GoodIn wsX5_complete wsX5_formOf := goodIn_r _ [360, 361, 362, 363, 364, 6, 365, 366, 367, 368, 369, 15, 16, 39, 40, 41, 14, 42, 43, 60, 61, 62, 63, 64, 65, 66, 67, 68, 69, 70, 71, 44, 45, 46, 47, 48, 49, 50, 51, 52, 53, 54, 55, 56, 57, 58, 59, 26, 163, 164, 165, 166, 167, 168, 169, 84, 85, 86, 87, 170, 171, 90, 172, 173, 174, 175, 80, 176, 177, 178, 126, 179, 180, 181, 182, 139, 140, 141, 183, 148, 149, 150, 151, 152, 153, 370, 371, 372, 373, 21, 350, 351, 352, 18, 19, 20, 189, 190, 191, 192, 193, 194, 195, 196, 37, 38, 197, 107, 198, 199, 200, 201, 202, 154, 155, 156, 157, 72, 73, 74, 75, 76, 77, 78, 79, 81, 82, 83, 88, 89, 91, 92, 93, 94, 95, 96, 97, 98, 99, 100, 101, 102, 103, 104, 105, 106, 108, 109, 110, 111, 112, 113, 114, 115, 116, 117, 118, 119, 120, 121, 122, 123, 124, 125, 127, 128, 129, 130, 131, 132, 133, 134, 135, 136, 137, 138, 142, 143, 144, 145, 146, 147, 158, 159, 160, 161, 162, 203, 204, 205, 206, 207, 208, 209, 210, 211, 212, 213, 214, 215, 216, 217, 218, 219, 220, 221, 222, 223, 224, 225, 226, 227, 228, 229, 230, 231, 232, 233, 234, 235, 236, 237, 238, 239, 240, 241, 242, 243, 244, 245, 246, 247, 248, 249, 250, 251, 252, 253, 254, 255, 256, 257, 258, 259, 260, 261, 262, 263, 264, 265, 266, 267, 268, 269, 270, 271, 272, 273, 274, 275, 276, 277, 278, 279, 280, 281, 282, 283, 284, 285, 286, 184, 185, 186, 187, 188, 287, 288, 289, 290, 291, 292, 293, 294, 295, 296, 297, 298, 299, 300, 301, 302, 303, 304, 305, 306, 307, 308, 309, 310, 311, 312, 313, 314, 315, 316, 398, 399, 400, 401, 402, 403, 404, 405, 406, 407, 412, 413, 414, 415, 408, 409, 410, 411] (by decide +kernel) (by decide +kernel)
set_option maxRecDepth 20000 in
theorem gX5_complete_X5_formOf : GoodIn wsX5_complete (wsV RX5 103 RX5 yX5_formOf wsX5_formOf) := goodIn_app (goodIn_of _ (by decide +kernel)) ggX5_complete_X5_formOf
set_option maxRecDepth 20000 in
theorem ggX5_complete_J0_length_8abf5 : GoodIn wsX5_complete wsJ0_length_8abf5 := goodIn_r _ [64, 65, 66, 67, 68, 63, 69, 70, 71, 412, 413, 414, 415] (by decide +kernel) (by decide +kernel)
set_option maxRecDepth 20000 in
theorem gX5_complete_J0_length_8abf5 : GoodIn wsX5_complete (wsV RX5 42 RJ0 yJ0_length_8abf5 wsJ0_length_8abf5) := goodIn_app (goodIn_of _ (by decide +kernel)) ggX5_complete_J0_length_8abf5
set_option maxRecDepth 20000 in
theorem ggX5_complete_X5_refuse : GoodIn wsX5_complete wsX5_refuse := goodIn_r _ [385, 386, 398, 399, 400, 401, 402, 403, 404] (by decide +kernel) (by decide +kernel)
set_option maxRecDepth 20000 in
theorem gX5_complete_X5_refuse : GoodIn wsX5_complete (wsV RX5 131 RX5 yX5_refuse wsX5_refuse) := goodIn_app (goodIn_of _ (by decide +kernel)) ggX5_complete_X5_refuse
set_option maxRecDepth 20000 in
theorem ggX5_complete_X5_compare : GoodIn wsX5_complete wsX5_compare := goodIn_r _ [389, 60, 61, 62, 63, 64, 65, 66, 67, 68, 69, 70, 71, 166, 167, 168, 169, 84, 85, 86, 87, 170, 171, 90, 172, 173, 174, 175, 80, 176, 53, 54, 55, 177, 178, 126, 179, 180, 181, 182, 139, 140, 141, 183, 148, 149, 150, 151, 152, 153, 412, 413, 414, 415] (by decide +kernel) (by decide +kernel)
set_option maxRecDepth 20000 in
theorem gX5_complete_X5_compare : GoodIn wsX5_complete (va_wsS RX5 71 yX5_compare wsX5_compare) := goodIn_app (goodIn_of _ (by decide +kernel)) ggX5_complete_X5_compare
set_option maxRecDepth 20000 in
theorem ggX5_complete_X5_added : GoodIn wsX5_complete wsX5_added := goodIn_r _ [393, 15, 21, 39, 40, 41, 14, 42, 43, 394, 395, 396, 63, 397, 65, 60, 61, 62, 64, 66, 67, 68, 69, 70, 71, 382, 383, 384, 6, 385, 386, 317, 318, 319, 320, 321, 322, 26, 323, 324, 325, 326, 327, 328, 329, 330, 331, 332, 333, 334, 25, 335, 234, 110, 235, 336, 337, 230, 231, 232, 233, 236, 237, 238, 239, 338, 339, 96, 340, 341, 342, 343, 344, 345, 346, 347, 348, 349, 108, 109, 111, 112, 113, 114, 115, 398, 399, 400, 401, 402, 403, 404, 405, 406, 407, 412, 413, 414, 415] (by decide +kernel) (by decide +kernel)
set_option maxRecDepth 20000 in
theorem gX5_complete_X5_added : GoodIn wsX5_complete (wsV RX5 152 RX5 yX5_added wsX5_added) := goodIn_app (goodIn_of _ (by decide +kernel)) ggX5_complete_X5_added
theorem dX5_complete_0 : decode cX5_complete 0 = .ok (.aload_n 0, 1) := by decide +kernel
theorem dX5_complete_1 : decode cX5_complete 1 = .ok (.iconst 0, 1) := by decide +kernel
theorem dX5_complete_2 : decode cX5_complete 2 = .ok (.putfield 27, 3) := by decide +kernel
theorem dX5_complete_5 : decode cX5_complete 5 = .ok (.aload_n 0, 1) := by decide +kernel
theorem dX5_complete_6 : decode cX5_complete 6 = .ok (.invokevirtual 195, 3) := by decide +kernel
theorem dX5_complete_9 : decode cX5_complete 9 = .ok (.istore_n 1, 1) := by decide +kernel
theorem dX5_complete_10 : decode cX5_complete 10 = .ok (.iload_n 1, 1) := by decide +kernel
theorem dX5_complete_11 : decode cX5_complete 11 = .ok (.iconst (-1), 1) := by decide +kernel
theorem dX5_complete_12 : decode cX5_complete 12 = .ok (.if_icmp .ne 5, 3) := by decide +kernel
theorem dX5_complete_15 : decode cX5_complete 15 = .ok (.iconst (-1), 1) := by decide +kernel
theorem dX5_complete_16 : decode cX5_complete 16 = .ok (.ireturn, 1) := by decide +kernel
theorem dX5_complete_17 : decode cX5_complete 17 = .ok (.aload_n 0, 1) := by decide +kernel
theorem dX5_complete_18 : decode cX5_complete 18 = .ok (.aload_n 0, 1) := by decide +kernel
theorem dX5_complete_19 : decode cX5_complete 19 = .ok (.invokevirtual 110, 3) := by decide +kernel
theorem dX5_complete_22 : decode cX5_complete 22 = .ok (.iload_n 1, 1) := by decide +kernel
theorem dX5_complete_23 : decode cX5_complete 23 = .ok (.invokevirtual 67, 3) := by decide +kernel
theorem dX5_complete_26 : decode cX5_complete 26 = .ok (.checkcast 114, 3) := by decide +kernel
theorem dX5_complete_29 : decode cX5_complete 29 = .ok (.iconst 1, 1) := by decide +kernel
theorem dX5_complete_30 : decode cX5_complete 30 = .ok (.aaload, 1) := by decide +kernel
theorem dX5_complete_31 : decode cX5_complete 31 = .ok (.invokevirtual 103, 3) := by decide +kernel
theorem dX5_complete_34 : decode cX5_complete 34 = .ok (.astore_n 2, 1) := by decide +kernel
theorem dX5_complete_35 : decode cX5_complete 35 = .ok (.aload_n 0, 1) := by decide +kernel
theorem dX5_complete_36 : decode cX5_complete 36 = .ok (.aload_n 0, 1) := by decide +kernel
theorem dX5_complete_37 : decode cX5_complete 37 = .ok (.invokevirtual 110, 3) := by decide +kernel
theorem dX5_complete_40 : decode cX5_complete 40 = .ok (.iload_n 1, 1) := by decide +kernel
theorem dX5_complete_41 : decode cX5_complete 41 = .ok (.invokevirtual 67, 3) := by decide +kernel
theorem dX5_complete_44 : decode cX5_complete 44 = .ok (.checkcast 114, 3) := by decide +kernel
theorem dX5_complete_47 : decode cX5_complete 47 = .ok (.iconst 2, 1) := by decide +kernel
theorem dX5_complete_48 : decode cX5_complete 48 = .ok (.aaload, 1) := by decide +kernel
theorem dX5_complete_49 : decode cX5_complete 49 = .ok (.invokevirtual 103, 3) := by decide +kernel
theorem dX5_complete_52 : decode cX5_complete 52 = .ok (.astore_n 3, 1) := by decide +kernel
theorem dX5_complete_53 : decode cX5_complete 53 = .ok (.aload_n 2, 1) := by decide +kernel
theorem dX5_complete_54 : decode cX5_complete 54 = .ok (.invokevirtual 42, 3) := by decide +kernel
theorem dX5_complete_57 : decode cX5_complete 57 = .ok (.bipush 6, 2) := by decide +kernel
theorem dX5_complete_59 : decode cX5_complete 59 = .ok (.if_icmp .gt 12, 3) := by decide +kernel
theorem dX5_complete_62 : decode cX5_complete 62 = .ok (.aload_n 3, 1) := by decide +kernel
theorem dX5_complete_63 : decode cX5_complete 63 = .ok (.invokevirtual 42, 3) := by decide +kernel
theorem dX5_complete_66 : decode cX5_complete 66 = .ok (.bipush 6, 2) := by decide +kernel
theorem dX5_complete_68 : decode cX5_complete 68 = .ok (.if_icmp .le 8, 3) := by decide +kernel
theorem dX5_complete_71 : decode cX5_complete 71 = .ok (.aload_n 0, 1) := by decide +kernel
theorem dX5_complete_72 : decode cX5_complete 72 = .ok (.invokevirtual 131, 3) := by decide +kernel
theorem dX5_complete_75 : decode cX5_complete 75 = .ok (.ireturn, 1) := by decide +kernel
theorem dX5_complete_76 : decode cX5_complete 76 = .ok (.aload_n 2, 1) := by decide +kernel
theorem dX5_complete_77 : decode cX5_complete 77 = .ok (.aload_n 3, 1) := by decide +kernel
theorem dX5_complete_78 : decode cX5_complete 78 = .ok (.invokestatic 71, 3) := by decide +kernel
theorem dX5_complete_81 : decode cX5_complete 81 = .ok (.ifCond .le 12, 3) := by decide +kernel
theorem dX5_complete_84 : decode cX5_complete 84 = .ok (.aload_n 0, 1) := by decide +kernel
theorem dX5_complete_85 : decode cX5_complete 85 = .ok (.aload_n 2, 1) := by decide +kernel
theorem dX5_complete_86 : decode cX5_complete 86 = .ok (.aload_n 3, 1) := by decide +kernel
theorem dX5_complete_87 : decode cX5_complete 87 = .ok (.invokevirtual 152, 3) := by decide +kernel
theorem dX5_complete_90 : decode cX5_complete 90 = .ok (.goto 9, 3) := by decide +kernel
theorem dX5_complete_93 : decode cX5_complete 93 = .ok (.aload_n 0, 1) := by decide +kernel
theorem dX5_complete_94 : decode cX5_complete 94 = .ok (.aload_n 3, 1) := by decide +kernel
theorem dX5_complete_95 : decode cX5_complete 95 = .ok (.aload_n 2, 1) := by decide +kernel
theorem dX5_complete_96 : decode cX5_complete 96 = .ok (.invokevirtual 152, 3) := by decide +kernel
theorem dX5_complete_99 : decode cX5_complete 99 = .ok (.ireturn, 1) := by decide +kernel
set_option maxRecDepth 20000 in
theorem ggX5_tidy_Jx4a65c_size_8abf5 : GoodIn wsX5_tidy wsJx4a65c_size_8abf5 := goodIn_r _ [9, 10, 376, 377, 378] (by decide +kernel) (by decide +kernel)
set_option maxRecDepth 20000 in
theorem gX5_tidy_Jx4a65c_size_8abf5 : GoodIn wsX5_tidy (wsV RX5 35 RJx4a65c yJx4a65c_size_8abf5 wsJx4a65c_size_8abf5) := goodIn_app (goodIn_of _ (by decide +kernel)) ggX5_tidy_Jx4a65c_size_8abf5
set_option maxRecDepth 20000 in
theorem ggX5_tidy_X5_formOf : GoodIn wsX5_tidy wsX5_formOf := goodIn_r _ [38, 39, 40, 41, 42, 37, 43, 44, 45, 46, 47, 2, 3, 5, 6, 7, 8, 9, 10, 48, 49, 50, 51, 52, 53, 54, 55, 56, 57, 58, 59, 60, 61, 62, 63, 16, 17, 18, 19, 20, 21, 22, 23, 64, 65, 66, 67, 15, 68, 69, 70, 71, 72, 73, 74, 75, 76, 77, 78, 79, 80, 81, 82, 83, 84, 85, 86, 87, 88, 89, 90, 91, 92, 93, 94, 95, 96, 97, 98, 99, 100, 101, 102, 103, 104, 105, 106, 107, 108, 4, 109, 110, 111, 112, 113, 114, 115, 116, 117, 118, 119, 120, 121, 122, 123, 124, 125, 126, 127, 128, 129, 130, 131, 132, 133, 134, 135, 136, 137, 138, 139, 140, 141, 142, 143, 144, 145, 146, 147, 148, 149, 150, 151, 152, 153, 154, 155, 156, 157, 158, 159, 160, 161, 162, 163, 164, 165, 166, 167, 168, 169, 31, 32, 33, 170, 171, 172, 173, 174, 175, 176, 177, 178, 179, 180, 181, 182, 183, 184, 185, 186, 187, 188, 189, 190, 191, 192, 193, 194, 195, 196, 197, 198, 199, 200, 201, 202, 203, 204, 205, 206, 207, 208, 209, 210, 211, 212, 213, 214, 215, 216, 217, 218, 219, 220, 221, 222, 223, 224, 225, 226, 227, 228, 229, 230, 231, 232, 233, 234, 235, 236, 237, 238, 239, 240, 241, 242, 243, 244, 245, 246, 247, 248, 249, 250, 251, 252, 253, 254, 255, 256, 257, 258, 259, 260, 261, 262, 263, 264, 265, 266, 267, 268, 269, 270, 271, 272, 273, 274, 275, 276, 277, 278, 279, 280, 281, 282, 283, 284, 285, 286, 287, 288, 289, 290, 291, 292, 293, 294, 295, 296, 297, 298, 299, 300, 301, 302, 303, 304, 305, 306, 307, 308, 309, 310, 311, 312, 313, 314, 315, 316, 317, 318, 319, 320, 321, 369, 370, 371, 372, 373, 374, 375, 376, 377, 378, 379, 380, 381, 382, 383, 384, 385, 386] (by decide +kernel) (by decide +kernel)
set_option maxRecDepth 20000 in
theorem gX5_tidy_X5_formOf : GoodIn wsX5_tidy (wsV RX5 103 RX5 yX5_formOf wsX5_formOf) := goodIn_app (goodIn_of _ (by decide +kernel)) ggX5_tidy_X5_formOf
set_option maxRecDepth 20000 in
theorem ggX5_tidy_J0_equals_9ea2d : GoodIn wsX5_tidy wsJ0_equals_9ea2d := goodIn_r _ [325, 326, 58, 59, 53, 327, 328, 81, 329, 379, 380, 381, 382] (by decide +kernel) (by decide +kernel)
set_option maxRecDepth 20000 in
theorem gX5_tidy_J0_equals_9ea2d : GoodIn wsX5_tidy (wsV RX5 107 RJ0 yJ0_equals_9ea2d wsJ0_equals_9ea2d) := goodIn_app (goodIn_of _ (by decide +kernel)) ggX5_tidy_J0_equals_9ea2d
set_option maxRecDepth 20000 in
theorem ggX5_tidy_X5_isEndNow : GoodIn wsX5_tidy wsX5_isEndNow := goodIn_r _ [333, 44, 45, 46, 37, 47, 2, 3, 39, 5, 6, 7, 8, 9, 10, 48, 49, 50, 51, 52, 53, 54, 55, 56, 57, 58, 59, 60, 61, 62, 63, 16, 17, 18, 19, 20, 21, 22, 23, 64, 65, 66, 67, 15, 68, 69, 70, 71, 72, 73, 74, 75, 76, 77, 78, 79, 80, 81, 82, 83, 84, 85, 86, 87, 88, 89, 90, 91, 92, 93, 94, 95, 96, 97, 98, 99, 100, 101, 102, 103, 104, 369, 370, 371, 372, 373, 374, 375, 376, 377, 378, 379, 380, 381, 382] (by decide +kernel) (by decide +kernel)
set_option maxRecDepth 20000 in
theorem gX5_tidy_X5_isEndNow : GoodIn wsX5_tidy (wsV RX5 191 RX5 yX5_isEndNow wsX5_isEndNow) := goodIn_app (goodIn_of _ (by decide +kernel)) ggX5_tidy_X5_isEndNow
set_option maxRecDepth 20000 in
theorem ggX5_tidy_J0_length_8abf5 : GoodIn wsX5_tidy wsJ0_length_8abf5 := goodIn_r _ [52, 53, 54, 55, 56, 51, 57, 58, 59, 379, 380, 381, 382] (by decide +kernel) (by decide +kernel)
set_option maxRecDepth 20000 in
theorem gX5_tidy_J0_length_8abf5 : GoodIn wsX5_tidy (wsV RX5 42 RJ0 yJ0_length_8abf5 wsJ0_length_8abf5) := goodIn_app (goodIn_of _ (by decide +kernel)) ggX5_tidy_J0_length_8abf5
set_option maxRecDepth 20000 in
theorem ggX5_tidy_X5_one : GoodIn wsX5_tidy wsX5_one := goodIn_r _ [368] (by decide +kernel) (by decide +kernel)
set_option maxRecDepth 20000 in
theorem gX5_tidy_X5_one : GoodIn wsX5_tidy (va_wsS RX5 165 yX5_one wsX5_one) := goodIn_app (goodIn_of _ (by decide +kernel)) ggX5_tidy_X5_one
theorem dX5_tidy_0 : decode cX5_tidy 0 = .ok (.aload_n 0, 1) := by decide +kernel
theorem dX5_tidy_1 : decode cX5_tidy 1 = .ok (.iconst 0, 1) := by decide +kernel
theorem dX5_tidy_2 : decode cX5_tidy 2 = .ok (.putfield 27, 3) := by decide +kernel
theorem dX5_tidy_5 : decode cX5_tidy 5 = .ok (.iconst 0, 1) := by decide +kernel
theorem dX5_tidy_6 : decode cX5_tidy 6 = .ok (.istore_n 1, 1) := by decide +kernel
theorem dX5_tidy_7 : decode cX5_tidy 7 = .ok (.aload_n 0, 1) := by decide +kernel
theorem dX5_tidy_8 : decode cX5_tidy 8 = .ok (.getfield 20, 3) := by decide +kernel
theorem dX5_tidy_11 : decode cX5_tidy 11 = .ok (.invokevirtual 35, 3) := by decide +kernel
theorem dX5_tidy_14 : decode cX5_tidy 14 = .ok (.iconst 1, 1) := by decide +kernel
theorem dX5_tidy_15 : decode cX5_tidy 15 = .ok (.isub, 1) := by decide +kernel
theorem dX5_tidy_16 : decode cX5_tidy 16 = .ok (.istore_n 2, 1) := by decide +kernel
theorem dX5_tidy_17 : decode cX5_tidy 17 = .ok (.iload_n 2, 1) := by decide +kernel
theorem dX5_tidy_18 : decode cX5_tidy 18 = .ok (.ifCond .lt 149, 3) := by decide +kernel
theorem dX5_tidy_21 : decode cX5_tidy 21 = .ok (.aload_n 0, 1) := by decide +kernel
theorem dX5_tidy_22 : decode cX5_tidy 22 = .ok (.getfield 20, 3) := by decide +kernel
theorem dX5_tidy_25 : decode cX5_tidy 25 = .ok (.iload_n 2, 1) := by decide +kernel
theorem dX5_tidy_26 : decode cX5_tidy 26 = .ok (.invokevirtual 158, 3) := by decide +kernel
theorem dX5_tidy_29 : decode cX5_tidy 29 = .ok (.checkcast 7, 3) := by decide +kernel
theorem dX5_tidy_32 : decode cX5_tidy 32 = .ok (.astore_n 3, 1) := by decide +kernel
theorem dX5_tidy_33 : decode cX5_tidy 33 = .ok (.aload_n 0, 1) := by decide +kernel
theorem dX5_tidy_34 : decode cX5_tidy 34 = .ok (.getfield 24, 3) := by decide +kernel
theorem dX5_tidy_37 : decode cX5_tidy 37 = .ok (.iload_n 2, 1) := by decide +kernel
theorem dX5_tidy_38 : decode cX5_tidy 38 = .ok (.invokevirtual 158, 3) := by decide +kernel
theorem dX5_tidy_41 : decode cX5_tidy 41 = .ok (.checkcast 7, 3) := by decide +kernel
theorem dX5_tidy_44 : decode cX5_tidy 44 = .ok (.astore 4, 2) := by decide +kernel
theorem dX5_tidy_46 : decode cX5_tidy 46 = .ok (.aload_n 0, 1) := by decide +kernel
theorem dX5_tidy_47 : decode cX5_tidy 47 = .ok (.aload_n 3, 1) := by decide +kernel
theorem dX5_tidy_48 : decode cX5_tidy 48 = .ok (.invokevirtual 103, 3) := by decide +kernel
theorem dX5_tidy_51 : decode cX5_tidy 51 = .ok (.aload_n 0, 1) := by decide +kernel
theorem dX5_tidy_52 : decode cX5_tidy 52 = .ok (.aload 4, 2) := by decide +kernel
theorem dX5_tidy_54 : decode cX5_tidy 54 = .ok (.invokevirtual 103, 3) := by decide +kernel
theorem dX5_tidy_57 : decode cX5_tidy 57 = .ok (.invokevirtual 107, 3) := by decide +kernel
theorem dX5_tidy_60 : decode cX5_tidy 60 = .ok (.istore 5, 2) := by decide +kernel
theorem dX5_tidy_62 : decode cX5_tidy 62 = .ok (.aload_n 0, 1) := by decide +kernel
theorem dX5_tidy_63 : decode cX5_tidy 63 = .ok (.aload_n 3, 1) := by decide +kernel
theorem dX5_tidy_64 : decode cX5_tidy 64 = .ok (.invokevirtual 191, 3) := by decide +kernel
theorem dX5_tidy_67 : decode cX5_tidy 67 = .ok (.ifCond .ne 14, 3) := by decide +kernel
theorem dX5_tidy_70 : decode cX5_tidy 70 = .ok (.iload 5, 2) := by decide +kernel
theorem dX5_tidy_72 : decode cX5_tidy 72 = .ok (.ifCond .eq 9, 3) := by decide +kernel
theorem dX5_tidy_75 : decode cX5_tidy 75 = .ok (.iinc 1 1, 3) := by decide +kernel
theorem dX5_tidy_78 : decode cX5_tidy 78 = .ok (.goto 83, 3) := by decide +kernel
theorem dX5_tidy_81 : decode cX5_tidy 81 = .ok (.aload_n 0, 1) := by decide +kernel
theorem dX5_tidy_82 : decode cX5_tidy 82 = .ok (.aload 4, 2) := by decide +kernel
theorem dX5_tidy_84 : decode cX5_tidy 84 = .ok (.invokevirtual 103, 3) := by decide +kernel
theorem dX5_tidy_87 : decode cX5_tidy 87 = .ok (.astore 6, 2) := by decide +kernel
theorem dX5_tidy_89 : decode cX5_tidy 89 = .ok (.aload_n 0, 1) := by decide +kernel
theorem dX5_tidy_90 : decode cX5_tidy 90 = .ok (.aload_n 3, 1) := by decide +kernel
theorem dX5_tidy_91 : decode cX5_tidy 91 = .ok (.invokevirtual 191, 3) := by decide +kernel
theorem dX5_tidy_94 : decode cX5_tidy 94 = .ok (.ifCond .eq 27, 3) := by decide +kernel
theorem dX5_tidy_97 : decode cX5_tidy 97 = .ok (.aload 6, 2) := by decide +kernel
theorem dX5_tidy_99 : decode cX5_tidy 99 = .ok (.invokevirtual 42, 3) := by decide +kernel
theorem dX5_tidy_102 : decode cX5_tidy 102 = .ok (.bipush 6, 2) := by decide +kernel
theorem dX5_tidy_104 : decode cX5_tidy 104 = .ok (.if_icmp .gt 17, 3) := by decide +kernel
theorem dX5_tidy_107 : decode cX5_tidy 107 = .ok (.aload 6, 2) := by decide +kernel
theorem dX5_tidy_109 : decode cX5_tidy 109 = .ok (.aload 4, 2) := by decide +kernel
theorem dX5_tidy_111 : decode cX5_tidy 111 = .ok (.invokevirtual 107, 3) := by decide +kernel
theorem dX5_tidy_114 : decode cX5_tidy 114 = .ok (.ifCond .ne 7, 3) := by decide +kernel
theorem dX5_tidy_117 : decode cX5_tidy 117 = .ok (.iconst 1, 1) := by decide +kernel
theorem dX5_tidy_118 : decode cX5_tidy 118 = .ok (.goto 4, 3) := by decide +kernel
theorem dX5_tidy_121 : decode cX5_tidy 121 = .ok (.iconst 0, 1) := by decide +kernel
theorem dX5_tidy_122 : decode cX5_tidy 122 = .ok (.istore 7, 2) := by decide +kernel
theorem dX5_tidy_124 : decode cX5_tidy 124 = .ok (.aload_n 0, 1) := by decide +kernel
theorem dX5_tidy_125 : decode cX5_tidy 125 = .ok (.getfield 20, 3) := by decide +kernel
theorem dX5_tidy_128 : decode cX5_tidy 128 = .ok (.iload_n 2, 1) := by decide +kernel
theorem dX5_tidy_129 : decode cX5_tidy 129 = .ok (.aload_n 3, 1) := by decide +kernel
theorem dX5_tidy_130 : decode cX5_tidy 130 = .ok (.invokevirtual 202, 3) := by decide +kernel
theorem dX5_tidy_133 : decode cX5_tidy 133 = .ok (.aload_n 0, 1) := by decide +kernel
theorem dX5_tidy_134 : decode cX5_tidy 134 = .ok (.getfield 24, 3) := by decide +kernel
theorem dX5_tidy_137 : decode cX5_tidy 137 = .ok (.iload_n 2, 1) := by decide +kernel
theorem dX5_tidy_138 : decode cX5_tidy 138 = .ok (.iload 7, 2) := by decide +kernel
theorem dX5_tidy_140 : decode cX5_tidy 140 = .ok (.ifCond .eq 8, 3) := by decide +kernel
theorem dX5_tidy_143 : decode cX5_tidy 143 = .ok (.aload 6, 2) := by decide +kernel
theorem dX5_tidy_145 : decode cX5_tidy 145 = .ok (.goto 5, 3) := by decide +kernel
theorem dX5_tidy_148 : decode cX5_tidy 148 = .ok (.aload 4, 2) := by decide +kernel
theorem dX5_tidy_150 : decode cX5_tidy 150 = .ok (.invokevirtual 202, 3) := by decide +kernel
theorem dX5_tidy_153 : decode cX5_tidy 153 = .ok (.iload_n 1, 1) := by decide +kernel
theorem dX5_tidy_154 : decode cX5_tidy 154 = .ok (.iload 7, 2) := by decide +kernel
theorem dX5_tidy_156 : decode cX5_tidy 156 = .ok (.invokestatic 165, 3) := by decide +kernel
theorem dX5_tidy_159 : decode cX5_tidy 159 = .ok (.iadd, 1) := by decide +kernel
theorem dX5_tidy_160 : decode cX5_tidy 160 = .ok (.istore_n 1, 1) := by decide +kernel
theorem dX5_tidy_161 : decode cX5_tidy 161 = .ok (.iinc 2 (-1), 3) := by decide +kernel
theorem dX5_tidy_164 : decode cX5_tidy 164 = .ok (.goto (-147), 3) := by decide +kernel
theorem dX5_tidy_167 : decode cX5_tidy 167 = .ok (.iload_n 1, 1) := by decide +kernel
theorem dX5_tidy_168 : decode cX5_tidy 168 = .ok (.ireturn, 1) := by decide +kernel
set_option maxRecDepth 20000 in
theorem ggX5_houseNow_J0_length_8abf5 : GoodIn wsX5_houseNow wsJ0_length_8abf5 := goodIn_r _ [10, 11, 12, 13, 14, 9, 15, 16, 17, 25, 26, 27, 28] (by decide +kernel) (by decide +kernel)
set_option maxRecDepth 20000 in
theorem gX5_houseNow_J0_length_8abf5 : GoodIn wsX5_houseNow (wsV RX5 42 RJ0 yJ0_length_8abf5 wsJ0_length_8abf5) := goodIn_app (goodIn_of _ (by decide +kernel)) ggX5_houseNow_J0_length_8abf5
theorem dX5_houseNow_0 : decode cX5_houseNow 0 = .ok (.iconst 0, 1) := by decide +kernel
theorem dX5_houseNow_1 : decode cX5_houseNow 1 = .ok (.istore_n 2, 1) := by decide +kernel
theorem dX5_houseNow_2 : decode cX5_houseNow 2 = .ok (.aload_n 0, 1) := by decide +kernel
theorem dX5_houseNow_3 : decode cX5_houseNow 3 = .ok (.getfield 11, 3) := by decide +kernel
theorem dX5_houseNow_6 : decode cX5_houseNow 6 = .ok (.astore_n 3, 1) := by decide +kernel
theorem dX5_houseNow_7 : decode cX5_houseNow 7 = .ok (.aload_n 3, 1) := by decide +kernel
theorem dX5_houseNow_8 : decode cX5_houseNow 8 = .ok (.arraylength, 1) := by decide +kernel
theorem dX5_houseNow_9 : decode cX5_houseNow 9 = .ok (.istore 4, 2) := by decide +kernel
theorem dX5_houseNow_11 : decode cX5_houseNow 11 = .ok (.iconst 0, 1) := by decide +kernel
theorem dX5_houseNow_12 : decode cX5_houseNow 12 = .ok (.istore 5, 2) := by decide +kernel
theorem dX5_houseNow_14 : decode cX5_houseNow 14 = .ok (.iload 5, 2) := by decide +kernel
theorem dX5_houseNow_16 : decode cX5_houseNow 16 = .ok (.iload 4, 2) := by decide +kernel
theorem dX5_houseNow_18 : decode cX5_houseNow 18 = .ok (.if_icmp .ge 23, 3) := by decide +kernel
theorem dX5_houseNow_21 : decode cX5_houseNow 21 = .ok (.aload_n 3, 1) := by decide +kernel
theorem dX5_houseNow_22 : decode cX5_houseNow 22 = .ok (.iload 5, 2) := by decide +kernel
theorem dX5_houseNow_24 : decode cX5_houseNow 24 = .ok (.aaload, 1) := by decide +kernel
theorem dX5_houseNow_25 : decode cX5_houseNow 25 = .ok (.astore 6, 2) := by decide +kernel
theorem dX5_houseNow_27 : decode cX5_houseNow 27 = .ok (.iload_n 2, 1) := by decide +kernel
theorem dX5_houseNow_28 : decode cX5_houseNow 28 = .ok (.aload 6, 2) := by decide +kernel
theorem dX5_houseNow_30 : decode cX5_houseNow 30 = .ok (.invokevirtual 42, 3) := by decide +kernel
theorem dX5_houseNow_33 : decode cX5_houseNow 33 = .ok (.iadd, 1) := by decide +kernel
theorem dX5_houseNow_34 : decode cX5_houseNow 34 = .ok (.istore_n 2, 1) := by decide +kernel
theorem dX5_houseNow_35 : decode cX5_houseNow 35 = .ok (.iinc 5 1, 3) := by decide +kernel
theorem dX5_houseNow_38 : decode cX5_houseNow 38 = .ok (.goto (-24), 3) := by decide +kernel
theorem dX5_houseNow_41 : decode cX5_houseNow 41 = .ok (.iconst 4, 1) := by decide +kernel
theorem dX5_houseNow_42 : decode cX5_houseNow 42 = .ok (.newarray .int, 2) := by decide +kernel
theorem dX5_houseNow_44 : decode cX5_houseNow 44 = .ok (.dup, 1) := by decide +kernel
theorem dX5_houseNow_45 : decode cX5_houseNow 45 = .ok (.iconst 0, 1) := by decide +kernel
theorem dX5_houseNow_46 : decode cX5_houseNow 46 = .ok (.aload_n 0, 1) := by decide +kernel
theorem dX5_houseNow_47 : decode cX5_houseNow 47 = .ok (.getfield 39, 3) := by decide +kernel
theorem dX5_houseNow_50 : decode cX5_houseNow 50 = .ok (.iastore, 1) := by decide +kernel
theorem dX5_houseNow_51 : decode cX5_houseNow 51 = .ok (.dup, 1) := by decide +kernel
theorem dX5_houseNow_52 : decode cX5_houseNow 52 = .ok (.iconst 1, 1) := by decide +kernel
theorem dX5_houseNow_53 : decode cX5_houseNow 53 = .ok (.aload_n 0, 1) := by decide +kernel
theorem dX5_houseNow_54 : decode cX5_houseNow 54 = .ok (.getfield 205, 3) := by decide +kernel
theorem dX5_houseNow_57 : decode cX5_houseNow 57 = .ok (.iastore, 1) := by decide +kernel
theorem dX5_houseNow_58 : decode cX5_houseNow 58 = .ok (.dup, 1) := by decide +kernel
theorem dX5_houseNow_59 : decode cX5_houseNow 59 = .ok (.iconst 2, 1) := by decide +kernel
theorem dX5_houseNow_60 : decode cX5_houseNow 60 = .ok (.iload_n 2, 1) := by decide +kernel
theorem dX5_houseNow_61 : decode cX5_houseNow 61 = .ok (.iastore, 1) := by decide +kernel
theorem dX5_houseNow_62 : decode cX5_houseNow 62 = .ok (.dup, 1) := by decide +kernel
theorem dX5_houseNow_63 : decode cX5_houseNow 63 = .ok (.iconst 3, 1) := by decide +kernel
theorem dX5_houseNow_64 : decode cX5_houseNow 64 = .ok (.aload_n 0, 1) := by decide +kernel
theorem dX5_houseNow_65 : decode cX5_houseNow 65 = .ok (.getfield 177, 3) := by decide +kernel
theorem dX5_houseNow_68 : decode cX5_houseNow 68 = .ok (.iastore, 1) := by decide +kernel
theorem dX5_houseNow_69 : decode cX5_houseNow 69 = .ok (.astore_n 3, 1) := by decide +kernel
theorem dX5_houseNow_70 : decode cX5_houseNow 70 = .ok (.aload_n 3, 1) := by decide +kernel
theorem dX5_houseNow_71 : decode cX5_houseNow 71 = .ok (.iload_n 1, 1) := by decide +kernel
theorem dX5_houseNow_72 : decode cX5_houseNow 72 = .ok (.iaload, 1) := by decide +kernel
theorem dX5_houseNow_73 : decode cX5_houseNow 73 = .ok (.ireturn, 1) := by decide +kernel
set_option maxRecDepth 20000 in
theorem ggX5_house_X5_isIn : GoodIn wsX5_house wsX5_isIn := goodIn_r _ [4] (by decide +kernel) (by decide +kernel)
set_option maxRecDepth 20000 in
theorem gX5_house_X5_isIn : GoodIn wsX5_house (va_wsS RX5 31 yX5_isIn wsX5_isIn) := goodIn_app (goodIn_of _ (by decide +kernel)) ggX5_house_X5_isIn
set_option maxRecDepth 20000 in
theorem ggX5_house_X5_fails : GoodIn wsX5_house wsX5_fails := goodIn_r _ [8, 9, 31, 32, 33, 34, 35, 36, 37] (by decide +kernel) (by decide +kernel)
set_option maxRecDepth 20000 in
theorem gX5_house_X5_fails : GoodIn wsX5_house (wsV RX5 127 RX5 yX5_fails wsX5_fails) := goodIn_app (goodIn_of _ (by decide +kernel)) ggX5_house_X5_fails
set_option maxRecDepth 20000 in
theorem ggX5_house_X5_houseNow : GoodIn wsX5_house wsX5_houseNow := goodIn_r _ [13, 14, 15, 16, 17, 18, 19, 20, 21, 22, 23, 24, 25, 26, 27, 28, 29, 30, 31, 32, 33, 34, 35, 36, 37, 38, 39, 40, 41] (by decide +kernel) (by decide +kernel)
set_option maxRecDepth 20000 in
theorem gX5_house_X5_houseNow : GoodIn wsX5_house (wsV RX5 208 RX5 yX5_houseNow wsX5_houseNow) := goodIn_app (goodIn_of _ (by decide +kernel)) ggX5_house_X5_houseNow
theorem dX5_house_0 : decode cX5_house 0 = .ok (.aload_n 0, 1) := by decide +kernel
theorem dX5_house_1 : decode cX5_house 1 = .ok (.iload_n 1, 1) := by decide +kernel
theorem dX5_house_2 : decode cX5_house 2 = .ok (.iconst 0, 1) := by decide +kernel
theorem dX5_house_3 : decode cX5_house 3 = .ok (.iconst 3, 1) := by decide +kernel
theorem dX5_house_4 : decode cX5_house 4 = .ok (.invokestatic 31, 3) := by decide +kernel
theorem dX5_house_7 : decode cX5_house 7 = .ok (.ifCond .ne 7, 3) := by decide +kernel
theorem dX5_house_10 : decode cX5_house 10 = .ok (.iconst 1, 1) := by decide +kernel
theorem dX5_house_11 : decode cX5_house 11 = .ok (.goto 4, 3) := by decide +kernel
theorem dX5_house_14 : decode cX5_house 14 = .ok (.iconst 0, 1) := by decide +kernel
theorem dX5_house_15 : decode cX5_house 15 = .ok (.iconst 0, 1) := by decide +kernel
theorem dX5_house_16 : decode cX5_house 16 = .ok (.iconst 0, 1) := by decide +kernel
theorem dX5_house_17 : decode cX5_house 17 = .ok (.invokevirtual 127, 3) := by decide +kernel
theorem dX5_house_20 : decode cX5_house 20 = .ok (.ifCond .eq 7, 3) := by decide +kernel
theorem dX5_house_23 : decode cX5_house 23 = .ok (.iconst 0, 1) := by decide +kernel
theorem dX5_house_24 : decode cX5_house 24 = .ok (.goto 8, 3) := by decide +kernel
theorem dX5_house_27 : decode cX5_house 27 = .ok (.aload_n 0, 1) := by decide +kernel
theorem dX5_house_28 : decode cX5_house 28 = .ok (.iload_n 1, 1) := by decide +kernel
theorem dX5_house_29 : decode cX5_house 29 = .ok (.invokevirtual 208, 3) := by decide +kernel
theorem dX5_house_32 : decode cX5_house 32 = .ok (.ireturn, 1) := by decide +kernel
theorem dX5_knock_0 : decode cX5_knock 0 = .ok (.aload_n 0, 1) := by decide +kernel
theorem dX5_knock_1 : decode cX5_knock 1 = .ok (.iconst 0, 1) := by decide +kernel
theorem dX5_knock_2 : decode cX5_knock 2 = .ok (.putfield 27, 3) := by decide +kernel
theorem dX5_knock_5 : decode cX5_knock 5 = .ok (.aload_n 0, 1) := by decide +kernel
theorem dX5_knock_6 : decode cX5_knock 6 = .ok (.dup, 1) := by decide +kernel
theorem dX5_knock_7 : decode cX5_knock 7 = .ok (.getfield 205, 3) := by decide +kernel
theorem dX5_knock_10 : decode cX5_knock 10 = .ok (.iconst 1, 1) := by decide +kernel
theorem dX5_knock_11 : decode cX5_knock 11 = .ok (.iadd, 1) := by decide +kernel
theorem dX5_knock_12 : decode cX5_knock 12 = .ok (.putfield 205, 3) := by decide +kernel
theorem dX5_knock_15 : decode cX5_knock 15 = .ok (.aload_n 0, 1) := by decide +kernel
theorem dX5_knock_16 : decode cX5_knock 16 = .ok (.getfield 205, 3) := by decide +kernel
theorem dX5_knock_19 : decode cX5_knock 19 = .ok (.ireturn, 1) := by decide +kernel
theorem dX5_isSound_0 : decode cX5_isSound 0 = .ok (.aload_n 0, 1) := by decide +kernel
theorem dX5_isSound_1 : decode cX5_isSound 1 = .ok (.iconst 0, 1) := by decide +kernel
theorem dX5_isSound_2 : decode cX5_isSound 2 = .ok (.putfield 27, 3) := by decide +kernel
theorem dX5_isSound_5 : decode cX5_isSound 5 = .ok (.iconst 1, 1) := by decide +kernel
theorem dX5_isSound_6 : decode cX5_isSound 6 = .ok (.ireturn, 1) := by decide +kernel
set_option maxRecDepth 20000 in
theorem ggX5_add_J0_length_8abf5 : GoodIn wsX5_add wsJ0_length_8abf5 := goodIn_r _ [6, 7, 8, 9, 10, 5, 11, 12, 13, 51, 52, 53, 54] (by decide +kernel) (by decide +kernel)
set_option maxRecDepth 20000 in
theorem gX5_add_J0_length_8abf5 : GoodIn wsX5_add (wsV RX5 42 RJ0 yJ0_length_8abf5 wsJ0_length_8abf5) := goodIn_app (goodIn_of _ (by decide +kernel)) ggX5_add_J0_length_8abf5
theorem dX5_add_0 : decode cX5_add 0 = .ok (.lload_n 0, 1) := by decide +kernel
theorem dX5_add_1 : decode cX5_add 1 = .ok (.lstore_n 3, 1) := by decide +kernel
theorem dX5_add_2 : decode cX5_add 2 = .ok (.iconst 0, 1) := by decide +kernel
theorem dX5_add_3 : decode cX5_add 3 = .ok (.istore 5, 2) := by decide +kernel
theorem dX5_add_5 : decode cX5_add 5 = .ok (.iload 5, 2) := by decide +kernel
theorem dX5_add_7 : decode cX5_add 7 = .ok (.aload_n 2, 1) := by decide +kernel
theorem dX5_add_8 : decode cX5_add 8 = .ok (.invokevirtual 42, 3) := by decide +kernel
theorem dX5_add_11 : decode cX5_add 11 = .ok (.if_icmp .ge 23, 3) := by decide +kernel
theorem dX5_add_14 : decode cX5_add 14 = .ok (.lload_n 3, 1) := by decide +kernel
theorem dX5_add_15 : decode cX5_add 15 = .ok (.ldc2_w 212, 3) := by decide +kernel
theorem dX5_add_18 : decode cX5_add 18 = .ok (.lmul, 1) := by decide +kernel
theorem dX5_add_19 : decode cX5_add 19 = .ok (.aload_n 2, 1) := by decide +kernel
theorem dX5_add_20 : decode cX5_add 20 = .ok (.iload 5, 2) := by decide +kernel
theorem dX5_add_22 : decode cX5_add 22 = .ok (.invokevirtual 45, 3) := by decide +kernel
theorem dX5_add_25 : decode cX5_add 25 = .ok (.i2l, 1) := by decide +kernel
theorem dX5_add_26 : decode cX5_add 26 = .ok (.ladd, 1) := by decide +kernel
theorem dX5_add_27 : decode cX5_add 27 = .ok (.lstore_n 3, 1) := by decide +kernel
theorem dX5_add_28 : decode cX5_add 28 = .ok (.iinc 5 1, 3) := by decide +kernel
theorem dX5_add_31 : decode cX5_add 31 = .ok (.goto (-26), 3) := by decide +kernel
theorem dX5_add_34 : decode cX5_add 34 = .ok (.lload_n 3, 1) := by decide +kernel
theorem dX5_add_35 : decode cX5_add 35 = .ok (.lreturn, 1) := by decide +kernel
set_option maxRecDepth 20000 in
theorem ggX5_digest_X5_houseNow : GoodIn wsX5_digest wsX5_houseNow := goodIn_r _ [10, 4, 11, 12, 13, 14, 15, 16, 17, 18, 19, 20, 21, 22, 23, 24, 25, 26, 417, 418, 419, 420, 421, 422, 423, 424, 425, 426, 427] (by decide +kernel) (by decide +kernel)
set_option maxRecDepth 20000 in
theorem gX5_digest_X5_houseNow : GoodIn wsX5_digest (wsV RX5 208 RX5 yX5_houseNow wsX5_houseNow) := goodIn_app (goodIn_of _ (by decide +kernel)) ggX5_digest_X5_houseNow
set_option maxRecDepth 20000 in
theorem ggX5_digest_X5_add : GoodIn wsX5_digest wsX5_add := goodIn_r _ [29, 3, 15, 16, 17, 18, 19, 20, 21, 22, 23, 24, 25, 26, 30, 31, 32, 33, 34, 35, 36, 37, 38, 39, 40, 41, 42, 43, 44, 45, 46, 47, 48, 49, 50, 51, 52, 53, 54, 55, 56, 57, 58, 59, 60, 61, 62, 63, 64, 65, 66, 424, 425, 426, 427] (by decide +kernel) (by decide +kernel)
set_option maxRecDepth 20000 in
theorem gX5_digest_X5_add : GoodIn wsX5_digest (va_wsS RX5 216 yX5_add wsX5_add) := goodIn_app (goodIn_of _ (by decide +kernel)) ggX5_digest_X5_add
set_option maxRecDepth 20000 in
theorem ggX5_digest_X5_spotsOf : GoodIn wsX5_digest wsX5_spotsOf := goodIn_r _ [70, 71, 72, 73, 5, 74, 11, 75, 76, 77, 78, 79, 80, 81, 82, 83, 84, 85, 86, 87, 88, 89, 90, 91, 15, 16, 17, 18, 19, 20, 21, 22, 23, 24, 25, 26, 92, 93, 94, 95, 96, 97, 98, 99, 100, 101, 102, 103, 104, 105, 47, 48, 49, 106, 107, 108, 109, 110, 111, 9, 112, 30, 31, 32, 33, 34, 35, 36, 37, 38, 39, 40, 41, 42, 43, 44, 45, 46, 50, 51, 52, 53, 54, 55, 56, 57, 58, 59, 60, 61, 62, 63, 64, 65, 66, 113, 114, 115, 116, 117, 118, 119, 120, 121, 122, 123, 124, 125, 126, 127, 128, 129, 130, 131, 132, 133, 134, 135, 136, 137, 138, 139, 140, 141, 142, 143, 144, 145, 146, 147, 148, 149, 150, 151, 152, 153, 154, 155, 156, 157, 158, 159, 160, 161, 162, 163, 164, 428, 429, 430, 417, 418, 419, 420, 421, 422, 423, 424, 425, 426, 427] (by decide +kernel) (by decide +kernel)
set_option maxRecDepth 20000 in
theorem gX5_digest_X5_spotsOf : GoodIn wsX5_digest (wsV RX5 180 RX5 yX5_spotsOf wsX5_spotsOf) := goodIn_app (goodIn_of _ (by decide +kernel)) ggX5_digest_X5_spotsOf
set_option maxRecDepth 20000 in
theorem ggX5_digest_Jx4a65c_size_8abf5 : GoodIn wsX5_digest wsJx4a65c_size_8abf5 := goodIn_r _ [95, 96, 428, 429, 430] (by decide +kernel) (by decide +kernel)
set_option maxRecDepth 20000 in
theorem gX5_digest_Jx4a65c_size_8abf5 : GoodIn wsX5_digest (wsV RX5 35 RJx4a65c yJx4a65c_size_8abf5 wsJx4a65c_size_8abf5) := goodIn_app (goodIn_of _ (by decide +kernel)) ggX5_digest_Jx4a65c_size_8abf5
set_option maxRecDepth 20000 in
theorem ggX5_digest_X5_formOf : GoodIn wsX5_digest wsX5_formOf := goodIn_r _ [168, 11, 169, 170, 171, 9, 172, 173, 174, 175, 176, 5, 74, 92, 93, 94, 73, 95, 96, 15, 16, 17, 18, 19, 20, 21, 22, 23, 24, 25, 26, 97, 98, 99, 100, 101, 102, 103, 104, 105, 47, 48, 49, 106, 107, 108, 109, 79, 110, 111, 112, 30, 31, 32, 33, 34, 35, 36, 37, 38, 39, 40, 41, 42, 43, 44, 45, 46, 50, 51, 52, 53, 54, 55, 56, 57, 58, 59, 60, 61, 62, 63, 64, 65, 66, 177, 178, 179, 180, 181, 182, 183, 184, 185, 186, 187, 188, 189, 190, 191, 192, 193, 194, 195, 90, 91, 196, 197, 198, 199, 200, 201, 202, 203, 204, 205, 206, 207, 208, 209, 210, 211, 212, 213, 214, 215, 216, 217, 218, 219, 220, 221, 222, 223, 224, 147, 225, 226, 227, 228, 229, 230, 231, 232, 233, 234, 158, 159, 133, 160, 161, 162, 163, 164, 235, 236, 237, 238, 239, 240, 241, 242, 243, 244, 245, 246, 247, 248, 249, 250, 251, 252, 253, 254, 255, 256, 257, 258, 259, 260, 261, 262, 263, 264, 265, 266, 267, 268, 269, 270, 271, 272, 273, 274, 275, 276, 277, 278, 279, 280, 281, 282, 283, 284, 285, 286, 287, 288, 289, 290, 291, 292, 293, 294, 137, 138, 139, 140, 132, 134, 141, 142, 143, 144, 295, 296, 297, 298, 299, 300, 301, 302, 303, 304, 305, 306, 307, 308, 309, 310, 311, 312, 313, 314, 315, 316, 317, 318, 319, 320, 321, 322, 323, 324, 325, 326, 327, 328, 329, 330, 331, 332, 333, 334, 335, 336, 337, 338, 339, 340, 341, 342, 343, 344, 345, 346, 347, 348, 349, 350, 351, 352, 353, 354, 355, 356, 357, 358, 359, 360, 361, 362, 363, 364, 365, 366, 367, 368, 369, 370, 371, 372, 373, 374, 375, 376, 417, 418, 419, 420, 421, 422, 423, 428, 429, 430, 424, 425, 426, 427, 431, 432, 433, 434] (by decide +kernel) (by decide +kernel)
set_option maxRecDepth 20000 in
theorem gX5_digest_X5_formOf : GoodIn wsX5_digest (wsV RX5 103 RX5 yX5_formOf wsX5_formOf) := goodIn_app (goodIn_of _ (by decide +kernel)) ggX5_digest_X5_formOf
set_option maxRecDepth 20000 in
theorem ggX5_digest_X5_areAllFalling : GoodIn wsX5_digest wsX5_areAllFalling := goodIn_r _ [384, 5, 92, 93, 94, 73, 95, 96, 385, 386, 387, 9, 388, 181, 74, 97, 98, 99, 100, 101, 102, 103, 104, 105, 47, 48, 49, 106, 107, 108, 109, 79, 389, 390, 391, 15, 16, 17, 18, 19, 20, 21, 22, 23, 24, 25, 26, 30, 31, 32, 33, 34, 35, 36, 37, 38, 39, 40, 41, 42, 43, 44, 45, 46, 50, 51, 52, 53, 54, 55, 56, 57, 58, 59, 60, 61, 62, 63, 64, 65, 66, 417, 418, 419, 420, 421, 422, 423, 428, 429, 430, 424, 425, 426, 427] (by decide +kernel) (by decide +kernel)
set_option maxRecDepth 20000 in
theorem gX5_digest_X5_areAllFalling : GoodIn wsX5_digest (wsV RX5 174 RX5 yX5_areAllFalling wsX5_areAllFalling) := goodIn_app (goodIn_of _ (by decide +kernel)) ggX5_digest_X5_areAllFalling
set_option maxRecDepth 20000 in
theorem ggX5_digest_X5_one : GoodIn wsX5_digest wsX5_one := goodIn_r _ [394] (by decide +kernel) (by decide +kernel)
set_option maxRecDepth 20000 in
theorem gX5_digest_X5_one : GoodIn wsX5_digest (va_wsS RX5 165 yX5_one wsX5_one) := goodIn_app (goodIn_of _ (by decide +kernel)) ggX5_digest_X5_one
set_option maxRecDepth 20000 in
theorem ggX5_digest_X5_allPeaks : GoodIn wsX5_digest wsX5_allPeaks := goodIn_r _ [398, 71, 72, 73, 5, 74, 399, 185, 186, 187, 181, 75, 76, 77, 78, 79, 80, 81, 82, 83, 84, 85, 86, 87, 88, 89, 90, 91, 92, 93, 94, 95, 96, 97, 98, 99, 100, 101, 102, 103, 104, 105, 47, 48, 49, 106, 107, 108, 109, 15, 16, 17, 18, 19, 20, 21, 22, 23, 24, 25, 26, 207, 208, 209, 210, 211, 212, 213, 214, 45, 215, 216, 217, 34, 35, 36, 37, 218, 219, 40, 220, 221, 222, 223, 224, 147, 225, 226, 227, 228, 229, 230, 231, 232, 233, 234, 197, 158, 159, 133, 160, 161, 162, 163, 164, 235, 236, 237, 238, 239, 240, 241, 242, 243, 244, 52, 245, 246, 247, 248, 249, 250, 251, 252, 253, 254, 255, 256, 57, 58, 59, 257, 258, 259, 260, 261, 262, 61, 62, 63, 64, 65, 66, 203, 204, 205, 206, 263, 264, 265, 266, 267, 110, 111, 9, 112, 30, 31, 32, 33, 38, 39, 41, 42, 43, 44, 46, 50, 51, 53, 54, 55, 56, 60, 342, 343, 344, 345, 346, 188, 189, 190, 191, 192, 193, 194, 195, 196, 198, 199, 200, 201, 202, 268, 269, 270, 271, 272, 273, 274, 275, 276, 277, 278, 279, 280, 281, 282, 283, 284, 285, 286, 287, 288, 289, 290, 291, 292, 293, 294, 137, 138, 139, 140, 132, 134, 141, 142, 143, 144, 295, 296, 297, 298, 299, 300, 301, 302, 303, 304, 305, 306, 307, 308, 309, 310, 311, 312, 313, 314, 315, 316, 317, 318, 319, 320, 321, 322, 323, 324, 325, 326, 327, 328, 329, 330, 331, 332, 333, 334, 335, 336, 337, 338, 339, 340, 341, 347, 348, 349, 350, 351, 352, 353, 354, 355, 356, 357, 358, 359, 360, 361, 362, 363, 364, 365, 366, 367, 368, 369, 370, 371, 372, 373, 374, 375, 376, 113, 114, 115, 116, 117, 118, 119, 120, 121, 122, 123, 124, 125, 126, 127, 128, 129, 130, 131, 135, 136, 145, 146, 148, 149, 150, 151, 152, 153, 154, 155, 156, 157, 182, 183, 184, 428, 429, 430, 417, 418, 419, 420, 421, 422, 423, 431, 432, 433, 434, 424, 425, 426, 427] (by decide +kernel) (by decide +kernel)
set_option maxRecDepth 20000 in
theorem gX5_digest_X5_allPeaks : GoodIn wsX5_digest (wsV RX5 110 RX5 yX5_allPeaks wsX5_allPeaks) := goodIn_app (goodIn_of _ (by decide +kernel)) ggX5_digest_X5_allPeaks
set_option maxRecDepth 20000 in
theorem ggX5_digest_X5_unmetNow : GoodIn wsX5_digest wsX5_unmetNow := goodIn_r _ [403, 404, 395, 396, 397, 9, 398, 71, 72, 73, 5, 74, 399, 185, 186, 187, 181, 75, 76, 77, 78, 79, 80, 81, 82, 83, 84, 85, 86, 87, 88, 89, 90, 91, 92, 93, 94, 95, 96, 97, 98, 99, 100, 101, 102, 103, 104, 105, 47, 48, 49, 106, 107, 108, 109, 15, 16, 17, 18, 19, 20, 21, 22, 23, 24, 25, 26, 207, 208, 209, 210, 211, 212, 213, 214, 45, 215, 216, 217, 34, 35, 36, 37, 218, 219, 40, 220, 221, 222, 223, 224, 147, 225, 226, 227, 228, 229, 230, 231, 232, 233, 234, 197, 158, 159, 133, 160, 161, 162, 163, 164, 235, 236, 237, 238, 239, 240, 241, 242, 243, 244, 52, 245, 246, 247, 248, 249, 250, 251, 252, 253, 254, 255, 256, 57, 58, 59, 257, 258, 259, 260, 261, 262, 61, 62, 63, 64, 65, 66, 203, 204, 205, 206, 263, 264, 265, 266, 267, 110, 111, 112, 30, 31, 32, 33, 38, 39, 41, 42, 43, 44, 46, 50, 51, 53, 54, 55, 56, 60, 342, 343, 344, 345, 346, 188, 189, 190, 191, 192, 193, 194, 195, 196, 198, 199, 200, 201, 202, 268, 269, 270, 271, 272, 273, 274, 275, 276, 277, 278, 279, 280, 281, 282, 283, 284, 285, 286, 287, 288, 289, 290, 291, 292, 293, 294, 137, 138, 139, 140, 132, 134, 141, 142, 143, 144, 295, 296, 297, 298, 299, 300, 301, 302, 303, 304, 305, 306, 307, 308, 309, 310, 311, 312, 313, 314, 315, 316, 317, 318, 319, 320, 321, 322, 323, 324, 325, 326, 327, 328, 329, 330, 331, 332, 333, 334, 335, 336, 337, 338, 339, 340, 341, 347, 348, 349, 350, 351, 352, 353, 354, 355, 356, 357, 358, 359, 360, 361, 362, 363, 364, 365, 366, 367, 368, 369, 370, 371, 372, 373, 374, 375, 376, 113, 114, 115, 116, 117, 118, 119, 120, 121, 122, 123, 124, 125, 126, 127, 128, 129, 130, 131, 135, 136, 145, 146, 148, 149, 150, 151, 152, 153, 154, 155, 156, 157, 182, 183, 184, 405, 406, 407, 408, 165, 166, 167, 168, 11, 169, 170, 171, 172, 173, 174, 175, 176, 177, 178, 179, 180, 409, 410, 411, 412, 413, 414, 415, 416, 428, 429, 430, 417, 418, 419, 420, 421, 422, 423, 431, 432, 433, 434, 424, 425, 426, 427] (by decide +kernel) (by decide +kernel)
set_option maxRecDepth 20000 in
theorem gX5_digest_X5_unmetNow : GoodIn wsX5_digest (wsV RX5 195 RX5 yX5_unmetNow wsX5_unmetNow) := goodIn_app (goodIn_of _ (by decide +kernel)) ggX5_digest_X5_unmetNow
theorem dX5_digest_0 : decode cX5_digest 0 = .ok (.aload_n 0, 1) := by decide +kernel
theorem dX5_digest_1 : decode cX5_digest 1 = .ok (.iconst 0, 1) := by decide +kernel
theorem dX5_digest_2 : decode cX5_digest 2 = .ok (.putfield 27, 3) := by decide +kernel
theorem dX5_digest_5 : decode cX5_digest 5 = .ok (.ldc2_w 214, 3) := by decide +kernel
theorem dX5_digest_8 : decode cX5_digest 8 = .ok (.lstore_n 1, 1) := by decide +kernel
theorem dX5_digest_9 : decode cX5_digest 9 = .ok (.iconst 0, 1) := by decide +kernel
theorem dX5_digest_10 : decode cX5_digest 10 = .ok (.istore_n 3, 1) := by decide +kernel
theorem dX5_digest_11 : decode cX5_digest 11 = .ok (.iload_n 3, 1) := by decide +kernel
theorem dX5_digest_12 : decode cX5_digest 12 = .ok (.iconst 4, 1) := by decide +kernel
theorem dX5_digest_13 : decode cX5_digest 13 = .ok (.if_icmp .ge 22, 3) := by decide +kernel
theorem dX5_digest_16 : decode cX5_digest 16 = .ok (.lload_n 1, 1) := by decide +kernel
theorem dX5_digest_17 : decode cX5_digest 17 = .ok (.ldc2_w 212, 3) := by decide +kernel
theorem dX5_digest_20 : decode cX5_digest 20 = .ok (.lmul, 1) := by decide +kernel
theorem dX5_digest_21 : decode cX5_digest 21 = .ok (.aload_n 0, 1) := by decide +kernel
theorem dX5_digest_22 : decode cX5_digest 22 = .ok (.iload_n 3, 1) := by decide +kernel
theorem dX5_digest_23 : decode cX5_digest 23 = .ok (.invokevirtual 208, 3) := by decide +kernel
theorem dX5_digest_26 : decode cX5_digest 26 = .ok (.i2l, 1) := by decide +kernel
theorem dX5_digest_27 : decode cX5_digest 27 = .ok (.ladd, 1) := by decide +kernel
theorem dX5_digest_28 : decode cX5_digest 28 = .ok (.lstore_n 1, 1) := by decide +kernel
theorem dX5_digest_29 : decode cX5_digest 29 = .ok (.iinc 3 1, 3) := by decide +kernel
theorem dX5_digest_32 : decode cX5_digest 32 = .ok (.goto (-21), 3) := by decide +kernel
theorem dX5_digest_35 : decode cX5_digest 35 = .ok (.aload_n 0, 1) := by decide +kernel
theorem dX5_digest_36 : decode cX5_digest 36 = .ok (.getfield 11, 3) := by decide +kernel
theorem dX5_digest_39 : decode cX5_digest 39 = .ok (.astore_n 3, 1) := by decide +kernel
theorem dX5_digest_40 : decode cX5_digest 40 = .ok (.aload_n 3, 1) := by decide +kernel
theorem dX5_digest_41 : decode cX5_digest 41 = .ok (.arraylength, 1) := by decide +kernel
theorem dX5_digest_42 : decode cX5_digest 42 = .ok (.istore 4, 2) := by decide +kernel
theorem dX5_digest_44 : decode cX5_digest 44 = .ok (.iconst 0, 1) := by decide +kernel
theorem dX5_digest_45 : decode cX5_digest 45 = .ok (.istore 5, 2) := by decide +kernel
theorem dX5_digest_47 : decode cX5_digest 47 = .ok (.iload 5, 2) := by decide +kernel
theorem dX5_digest_49 : decode cX5_digest 49 = .ok (.iload 4, 2) := by decide +kernel
theorem dX5_digest_51 : decode cX5_digest 51 = .ok (.if_icmp .ge 46, 3) := by decide +kernel
theorem dX5_digest_54 : decode cX5_digest 54 = .ok (.aload_n 3, 1) := by decide +kernel
theorem dX5_digest_55 : decode cX5_digest 55 = .ok (.iload 5, 2) := by decide +kernel
theorem dX5_digest_57 : decode cX5_digest 57 = .ok (.aaload, 1) := by decide +kernel
theorem dX5_digest_58 : decode cX5_digest 58 = .ok (.astore 6, 2) := by decide +kernel
theorem dX5_digest_60 : decode cX5_digest 60 = .ok (.lload_n 1, 1) := by decide +kernel
theorem dX5_digest_61 : decode cX5_digest 61 = .ok (.aload 6, 2) := by decide +kernel
theorem dX5_digest_63 : decode cX5_digest 63 = .ok (.invokestatic 216, 3) := by decide +kernel
theorem dX5_digest_66 : decode cX5_digest 66 = .ok (.ldc2_w 212, 3) := by decide +kernel
theorem dX5_digest_69 : decode cX5_digest 69 = .ok (.lmul, 1) := by decide +kernel
theorem dX5_digest_70 : decode cX5_digest 70 = .ok (.aload_n 0, 1) := by decide +kernel
theorem dX5_digest_71 : decode cX5_digest 71 = .ok (.aload 6, 2) := by decide +kernel
theorem dX5_digest_73 : decode cX5_digest 73 = .ok (.invokevirtual 180, 3) := by decide +kernel
theorem dX5_digest_76 : decode cX5_digest 76 = .ok (.invokevirtual 35, 3) := by decide +kernel
theorem dX5_digest_79 : decode cX5_digest 79 = .ok (.i2l, 1) := by decide +kernel
theorem dX5_digest_80 : decode cX5_digest 80 = .ok (.ladd, 1) := by decide +kernel
theorem dX5_digest_81 : decode cX5_digest 81 = .ok (.aload_n 0, 1) := by decide +kernel
theorem dX5_digest_82 : decode cX5_digest 82 = .ok (.aload 6, 2) := by decide +kernel
theorem dX5_digest_84 : decode cX5_digest 84 = .ok (.invokevirtual 103, 3) := by decide +kernel
theorem dX5_digest_87 : decode cX5_digest 87 = .ok (.invokestatic 216, 3) := by decide +kernel
theorem dX5_digest_90 : decode cX5_digest 90 = .ok (.lstore_n 1, 1) := by decide +kernel
theorem dX5_digest_91 : decode cX5_digest 91 = .ok (.iinc 5 1, 3) := by decide +kernel
theorem dX5_digest_94 : decode cX5_digest 94 = .ok (.goto (-47), 3) := by decide +kernel
theorem dX5_digest_97 : decode cX5_digest 97 = .ok (.iconst 0, 1) := by decide +kernel
theorem dX5_digest_98 : decode cX5_digest 98 = .ok (.istore_n 3, 1) := by decide +kernel
theorem dX5_digest_99 : decode cX5_digest 99 = .ok (.iload_n 3, 1) := by decide +kernel
theorem dX5_digest_100 : decode cX5_digest 100 = .ok (.aload_n 0, 1) := by decide +kernel
theorem dX5_digest_101 : decode cX5_digest 101 = .ok (.getfield 20, 3) := by decide +kernel
theorem dX5_digest_104 : decode cX5_digest 104 = .ok (.invokevirtual 35, 3) := by decide +kernel
theorem dX5_digest_107 : decode cX5_digest 107 = .ok (.if_icmp .ge 19, 3) := by decide +kernel
theorem dX5_digest_110 : decode cX5_digest 110 = .ok (.lload_n 1, 1) := by decide +kernel
theorem dX5_digest_111 : decode cX5_digest 111 = .ok (.aload_n 0, 1) := by decide +kernel
theorem dX5_digest_112 : decode cX5_digest 112 = .ok (.iload_n 3, 1) := by decide +kernel
theorem dX5_digest_113 : decode cX5_digest 113 = .ok (.invokevirtual 171, 3) := by decide +kernel
theorem dX5_digest_116 : decode cX5_digest 116 = .ok (.invokestatic 216, 3) := by decide +kernel
theorem dX5_digest_119 : decode cX5_digest 119 = .ok (.lstore_n 1, 1) := by decide +kernel
theorem dX5_digest_120 : decode cX5_digest 120 = .ok (.iinc 3 1, 3) := by decide +kernel
theorem dX5_digest_123 : decode cX5_digest 123 = .ok (.goto (-24), 3) := by decide +kernel
theorem dX5_digest_126 : decode cX5_digest 126 = .ok (.lload_n 1, 1) := by decide +kernel
theorem dX5_digest_127 : decode cX5_digest 127 = .ok (.ldc2_w 212, 3) := by decide +kernel
theorem dX5_digest_130 : decode cX5_digest 130 = .ok (.lmul, 1) := by decide +kernel
theorem dX5_digest_131 : decode cX5_digest 131 = .ok (.aload_n 0, 1) := by decide +kernel
theorem dX5_digest_132 : decode cX5_digest 132 = .ok (.invokevirtual 174, 3) := by decide +kernel
theorem dX5_digest_135 : decode cX5_digest 135 = .ok (.invokestatic 165, 3) := by decide +kernel
theorem dX5_digest_138 : decode cX5_digest 138 = .ok (.i2l, 1) := by decide +kernel
theorem dX5_digest_139 : decode cX5_digest 139 = .ok (.ladd, 1) := by decide +kernel
theorem dX5_digest_140 : decode cX5_digest 140 = .ok (.lstore_n 1, 1) := by decide +kernel
theorem dX5_digest_141 : decode cX5_digest 141 = .ok (.lload_n 1, 1) := by decide +kernel
theorem dX5_digest_142 : decode cX5_digest 142 = .ok (.ldc2_w 212, 3) := by decide +kernel
theorem dX5_digest_145 : decode cX5_digest 145 = .ok (.lmul, 1) := by decide +kernel
theorem dX5_digest_146 : decode cX5_digest 146 = .ok (.aload_n 0, 1) := by decide +kernel
theorem dX5_digest_147 : decode cX5_digest 147 = .ok (.invokevirtual 110, 3) := by decide +kernel
theorem dX5_digest_150 : decode cX5_digest 150 = .ok (.invokevirtual 35, 3) := by decide +kernel
theorem dX5_digest_153 : decode cX5_digest 153 = .ok (.i2l, 1) := by decide +kernel
theorem dX5_digest_154 : decode cX5_digest 154 = .ok (.ladd, 1) := by decide +kernel
theorem dX5_digest_155 : decode cX5_digest 155 = .ok (.lstore_n 1, 1) := by decide +kernel
theorem dX5_digest_156 : decode cX5_digest 156 = .ok (.lload_n 1, 1) := by decide +kernel
theorem dX5_digest_157 : decode cX5_digest 157 = .ok (.ldc2_w 212, 3) := by decide +kernel
theorem dX5_digest_160 : decode cX5_digest 160 = .ok (.lmul, 1) := by decide +kernel
theorem dX5_digest_161 : decode cX5_digest 161 = .ok (.aload_n 0, 1) := by decide +kernel
theorem dX5_digest_162 : decode cX5_digest 162 = .ok (.invokevirtual 195, 3) := by decide +kernel
theorem dX5_digest_165 : decode cX5_digest 165 = .ok (.i2l, 1) := by decide +kernel
theorem dX5_digest_166 : decode cX5_digest 166 = .ok (.ladd, 1) := by decide +kernel
theorem dX5_digest_167 : decode cX5_digest 167 = .ok (.lstore_n 1, 1) := by decide +kernel
theorem dX5_digest_168 : decode cX5_digest 168 = .ok (.lload_n 1, 1) := by decide +kernel
theorem dX5_digest_169 : decode cX5_digest 169 = .ok (.ldc2_w 212, 3) := by decide +kernel
theorem dX5_digest_172 : decode cX5_digest 172 = .ok (.lmul, 1) := by decide +kernel
theorem dX5_digest_173 : decode cX5_digest 173 = .ok (.lconst 1, 1) := by decide +kernel
theorem dX5_digest_174 : decode cX5_digest 174 = .ok (.ladd, 1) := by decide +kernel
theorem dX5_digest_175 : decode cX5_digest 175 = .ok (.lreturn, 1) := by decide +kernel
theorem dJ5_init_d00df_0 : decode cJ5_init_d00df 0 = .ok (.aload_n 0, 1) := by decide +kernel
theorem dJ5_init_d00df_1 : decode cJ5_init_d00df 1 = .ok (.invokespecial 3, 3) := by decide +kernel
theorem dJ5_init_d00df_4 : decode cJ5_init_d00df 4 = .ok (.getstatic 18, 3) := by decide +kernel
theorem dJ5_init_d00df_7 : decode cJ5_init_d00df 7 = .ok (.ifCond .eq 18, 3) := by decide +kernel
theorem dJ5_init_d00df_10 : decode cJ5_init_d00df 10 = .ok (.aload_n 0, 1) := by decide +kernel
theorem dJ5_init_d00df_11 : decode cJ5_init_d00df 11 = .ok (.iload_n 1, 1) := by decide +kernel
theorem dJ5_init_d00df_12 : decode cJ5_init_d00df 12 = .ok (.newarray .byte, 2) := by decide +kernel
theorem dJ5_init_d00df_14 : decode cJ5_init_d00df 14 = .ok (.putfield 15, 3) := by decide +kernel
theorem dJ5_init_d00df_17 : decode cJ5_init_d00df 17 = .ok (.aload_n 0, 1) := by decide +kernel
theorem dJ5_init_d00df_18 : decode cJ5_init_d00df 18 = .ok (.iconst 0, 1) := by decide +kernel
theorem dJ5_init_d00df_19 : decode cJ5_init_d00df 19 = .ok (.putfield 22, 3) := by decide +kernel
theorem dJ5_init_d00df_22 : decode cJ5_init_d00df 22 = .ok (.goto 16, 3) := by decide +kernel
theorem dJ5_init_d00df_25 : decode cJ5_init_d00df 25 = .ok (.aload_n 0, 1) := by decide +kernel
theorem dJ5_init_d00df_26 : decode cJ5_init_d00df 26 = .ok (.iload_n 1, 1) := by decide +kernel
theorem dJ5_init_d00df_27 : decode cJ5_init_d00df 27 = .ok (.invokestatic 26, 3) := by decide +kernel
theorem dJ5_init_d00df_30 : decode cJ5_init_d00df 30 = .ok (.putfield 15, 3) := by decide +kernel
theorem dJ5_init_d00df_33 : decode cJ5_init_d00df 33 = .ok (.aload_n 0, 1) := by decide +kernel
theorem dJ5_init_d00df_34 : decode cJ5_init_d00df 34 = .ok (.iconst 1, 1) := by decide +kernel
theorem dJ5_init_d00df_35 : decode cJ5_init_d00df 35 = .ok (.putfield 22, 3) := by decide +kernel
theorem dJ5_init_d00df_38 : decode cJ5_init_d00df 38 = .ok (.return_, 1) := by decide +kernel
theorem dJ5_length_8abf5_0 : decode cJ5_length_8abf5 0 = .ok (.aload_n 0, 1) := by decide +kernel
theorem dJ5_length_8abf5_1 : decode cJ5_length_8abf5 1 = .ok (.getfield 79, 3) := by decide +kernel
theorem dJ5_length_8abf5_4 : decode cJ5_length_8abf5 4 = .ok (.ireturn, 1) := by decide +kernel
theorem dJ5_ensureCapacityInternal_d00df_0 : decode cJ5_ensureCapacityInternal_d00df 0 = .ok (.aload_n 0, 1) := by decide +kernel
theorem dJ5_ensureCapacityInternal_d00df_1 : decode cJ5_ensureCapacityInternal_d00df 1 = .ok (.getfield 15, 3) := by decide +kernel
theorem dJ5_ensureCapacityInternal_d00df_4 : decode cJ5_ensureCapacityInternal_d00df 4 = .ok (.arraylength, 1) := by decide +kernel
theorem dJ5_ensureCapacityInternal_d00df_5 : decode cJ5_ensureCapacityInternal_d00df 5 = .ok (.aload_n 0, 1) := by decide +kernel
theorem dJ5_ensureCapacityInternal_d00df_6 : decode cJ5_ensureCapacityInternal_d00df 6 = .ok (.getfield 22, 3) := by decide +kernel
theorem dJ5_ensureCapacityInternal_d00df_9 : decode cJ5_ensureCapacityInternal_d00df 9 = .ok (.ishr, 1) := by decide +kernel
theorem dJ5_ensureCapacityInternal_d00df_10 : decode cJ5_ensureCapacityInternal_d00df 10 = .ok (.istore_n 2, 1) := by decide +kernel
theorem dJ5_ensureCapacityInternal_d00df_11 : decode cJ5_ensureCapacityInternal_d00df 11 = .ok (.iload_n 1, 1) := by decide +kernel
theorem dJ5_ensureCapacityInternal_d00df_12 : decode cJ5_ensureCapacityInternal_d00df 12 = .ok (.iload_n 2, 1) := by decide +kernel
theorem dJ5_ensureCapacityInternal_d00df_13 : decode cJ5_ensureCapacityInternal_d00df 13 = .ok (.isub, 1) := by decide +kernel
theorem dJ5_ensureCapacityInternal_d00df_14 : decode cJ5_ensureCapacityInternal_d00df 14 = .ok (.ifCond .le 24, 3) := by decide +kernel
theorem dJ5_ensureCapacityInternal_d00df_17 : decode cJ5_ensureCapacityInternal_d00df 17 = .ok (.aload_n 0, 1) := by decide +kernel
theorem dJ5_ensureCapacityInternal_d00df_18 : decode cJ5_ensureCapacityInternal_d00df 18 = .ok (.aload_n 0, 1) := by decide +kernel
theorem dJ5_ensureCapacityInternal_d00df_19 : decode cJ5_ensureCapacityInternal_d00df 19 = .ok (.getfield 15, 3) := by decide +kernel
theorem dJ5_ensureCapacityInternal_d00df_22 : decode cJ5_ensureCapacityInternal_d00df 22 = .ok (.aload_n 0, 1) := by decide +kernel
theorem dJ5_ensureCapacityInternal_d00df_23 : decode cJ5_ensureCapacityInternal_d00df 23 = .ok (.iload_n 1, 1) := by decide +kernel
theorem dJ5_ensureCapacityInternal_d00df_24 : decode cJ5_ensureCapacityInternal_d00df 24 = .ok (.invokevirtual 104, 3) := by decide +kernel
theorem dJ5_ensureCapacityInternal_d00df_27 : decode cJ5_ensureCapacityInternal_d00df 27 = .ok (.aload_n 0, 1) := by decide +kernel
theorem dJ5_ensureCapacityInternal_d00df_28 : decode cJ5_ensureCapacityInternal_d00df 28 = .ok (.getfield 22, 3) := by decide +kernel
theorem dJ5_ensureCapacityInternal_d00df_31 : decode cJ5_ensureCapacityInternal_d00df 31 = .ok (.ishl, 1) := by decide +kernel
theorem dJ5_ensureCapacityInternal_d00df_32 : decode cJ5_ensureCapacityInternal_d00df 32 = .ok (.invokestatic 108, 3) := by decide +kernel
theorem dJ5_ensureCapacityInternal_d00df_35 : decode cJ5_ensureCapacityInternal_d00df 35 = .ok (.putfield 15, 3) := by decide +kernel
theorem dJ5_ensureCapacityInternal_d00df_38 : decode cJ5_ensureCapacityInternal_d00df 38 = .ok (.return_, 1) := by decide +kernel
set_option maxRecDepth 20000 in
theorem ggJ5_append_cf1ce_J0_length_8abf5 : GoodIn wsJ5_append_cf1ce wsJ0_length_8abf5 := goodIn_r _ [85, 86, 87, 88, 89, 70, 90, 91, 92, 142, 143, 144, 145] (by decide +kernel) (by decide +kernel)
set_option maxRecDepth 20000 in
theorem gJ5_append_cf1ce_J0_length_8abf5 : GoodIn wsJ5_append_cf1ce (wsV RJ5 32 RJ0 yJ0_length_8abf5 wsJ0_length_8abf5) := goodIn_app (goodIn_of _ (by decide +kernel)) ggJ5_append_cf1ce_J0_length_8abf5
set_option maxRecDepth 20000 in
theorem ggJ5_append_cf1ce_J5_ensureCapacityInternal_d00df : GoodIn wsJ5_append_cf1ce wsJ5_ensureCapacityInternal_d00df := goodIn_r _ [13, 8, 14, 15, 16, 17, 18, 6, 19, 20, 21, 22, 23, 24, 25, 26, 27, 28, 29, 30, 31, 32, 33, 34, 35, 36, 37, 38, 39, 40, 41, 42, 43, 44, 45, 46, 47, 48, 49, 50, 138, 139, 140, 141] (by decide +kernel) (by decide +kernel)
set_option maxRecDepth 20000 in
theorem ggJ5_append_cf1ce_J5_putStringAt_47b60 : GoodIn wsJ5_append_cf1ce wsJ5_putStringAt_47b60 := goodIn_r _ [97, 8, 14, 98, 99, 100, 101, 6, 102, 56, 103, 88, 89, 70, 90, 91, 92, 104, 105, 106, 107, 108, 1, 51, 52, 53, 54, 55, 109, 110, 59, 111, 43, 112, 113, 114, 115, 116, 117, 118, 119, 120, 121, 122, 123, 124, 125, 65, 66, 67, 126, 127, 128, 72, 129, 130, 75, 131, 77, 78, 79, 61, 80, 81, 132, 133, 134, 135, 86, 136, 48, 49, 50, 87, 137, 138, 139, 140, 141, 142, 143, 144, 145] (by decide +kernel) (by decide +kernel)
theorem dJ5_append_cf1ce_0 : decode cJ5_append_cf1ce 0 = .ok (.aload_n 1, 1) := by decide +kernel
theorem dJ5_append_cf1ce_1 : decode cJ5_append_cf1ce 1 = .ok (.ifnonnull 8, 3) := by decide +kernel
theorem dJ5_append_cf1ce_4 : decode cJ5_append_cf1ce 4 = .ok (.aload_n 0, 1) := by decide +kernel
theorem dJ5_append_cf1ce_5 : decode cJ5_append_cf1ce 5 = .ok (.invokevirtual 204, 3) := by decide +kernel
theorem dJ5_append_cf1ce_8 : decode cJ5_append_cf1ce 8 = .ok (.areturn, 1) := by decide +kernel
theorem dJ5_append_cf1ce_9 : decode cJ5_append_cf1ce 9 = .ok (.aload_n 1, 1) := by decide +kernel
theorem dJ5_append_cf1ce_10 : decode cJ5_append_cf1ce 10 = .ok (.invokevirtual 32, 3) := by decide +kernel
theorem dJ5_append_cf1ce_13 : decode cJ5_append_cf1ce 13 = .ok (.istore_n 2, 1) := by decide +kernel
theorem dJ5_append_cf1ce_14 : decode cJ5_append_cf1ce 14 = .ok (.aload_n 0, 1) := by decide +kernel
theorem dJ5_append_cf1ce_15 : decode cJ5_append_cf1ce 15 = .ok (.aload_n 0, 1) := by decide +kernel
theorem dJ5_append_cf1ce_16 : decode cJ5_append_cf1ce 16 = .ok (.getfield 79, 3) := by decide +kernel
theorem dJ5_append_cf1ce_19 : decode cJ5_append_cf1ce 19 = .ok (.iload_n 2, 1) := by decide +kernel
theorem dJ5_append_cf1ce_20 : decode cJ5_append_cf1ce 20 = .ok (.iadd, 1) := by decide +kernel
theorem dJ5_append_cf1ce_21 : decode cJ5_append_cf1ce 21 = .ok (.invokevirtual 100, 3) := by decide +kernel
theorem dJ5_append_cf1ce_24 : decode cJ5_append_cf1ce 24 = .ok (.aload_n 0, 1) := by decide +kernel
theorem dJ5_append_cf1ce_25 : decode cJ5_append_cf1ce 25 = .ok (.aload_n 0, 1) := by decide +kernel
theorem dJ5_append_cf1ce_26 : decode cJ5_append_cf1ce 26 = .ok (.getfield 79, 3) := by decide +kernel
theorem dJ5_append_cf1ce_29 : decode cJ5_append_cf1ce 29 = .ok (.aload_n 1, 1) := by decide +kernel
theorem dJ5_append_cf1ce_30 : decode cJ5_append_cf1ce 30 = .ok (.invokevirtual 208, 3) := by decide +kernel
theorem dJ5_append_cf1ce_33 : decode cJ5_append_cf1ce 33 = .ok (.aload_n 0, 1) := by decide +kernel
theorem dJ5_append_cf1ce_34 : decode cJ5_append_cf1ce 34 = .ok (.dup, 1) := by decide +kernel
theorem dJ5_append_cf1ce_35 : decode cJ5_append_cf1ce 35 = .ok (.getfield 79, 3) := by decide +kernel
theorem dJ5_append_cf1ce_38 : decode cJ5_append_cf1ce 38 = .ok (.iload_n 2, 1) := by decide +kernel
theorem dJ5_append_cf1ce_39 : decode cJ5_append_cf1ce 39 = .ok (.iadd, 1) := by decide +kernel
theorem dJ5_append_cf1ce_40 : decode cJ5_append_cf1ce 40 = .ok (.putfield 79, 3) := by decide +kernel
theorem dJ5_append_cf1ce_43 : decode cJ5_append_cf1ce 43 = .ok (.aload_n 0, 1) := by decide +kernel
theorem dJ5_append_cf1ce_44 : decode cJ5_append_cf1ce 44 = .ok (.areturn, 1) := by decide +kernel
theorem dJ5_getValue_6d5f1_0 : decode cJ5_getValue_6d5f1 0 = .ok (.aload_n 0, 1) := by decide +kernel
theorem dJ5_getValue_6d5f1_1 : decode cJ5_getValue_6d5f1 1 = .ok (.getfield 15, 3) := by decide +kernel
theorem dJ5_getValue_6d5f1_4 : decode cJ5_getValue_6d5f1 4 = .ok (.areturn, 1) := by decide +kernel
theorem dJ5_isLatin1_aae02_0 : decode cJ5_isLatin1_aae02 0 = .ok (.getstatic 18, 3) := by decide +kernel
theorem dJ5_isLatin1_aae02_3 : decode cJ5_isLatin1_aae02 3 = .ok (.ifCond .eq 14, 3) := by decide +kernel
theorem dJ5_isLatin1_aae02_6 : decode cJ5_isLatin1_aae02 6 = .ok (.aload_n 0, 1) := by decide +kernel
theorem dJ5_isLatin1_aae02_7 : decode cJ5_isLatin1_aae02 7 = .ok (.getfield 22, 3) := by decide +kernel
theorem dJ5_isLatin1_aae02_10 : decode cJ5_isLatin1_aae02 10 = .ok (.ifCond .ne 7, 3) := by decide +kernel
theorem dJ5_isLatin1_aae02_13 : decode cJ5_isLatin1_aae02 13 = .ok (.iconst 1, 1) := by decide +kernel
theorem dJ5_isLatin1_aae02_14 : decode cJ5_isLatin1_aae02 14 = .ok (.goto 4, 3) := by decide +kernel
theorem dJ5_isLatin1_aae02_17 : decode cJ5_isLatin1_aae02 17 = .ok (.iconst 0, 1) := by decide +kernel
theorem dJ5_isLatin1_aae02_18 : decode cJ5_isLatin1_aae02 18 = .ok (.ireturn, 1) := by decide +kernel
set_option maxRecDepth 20000 in
theorem ggJ5_inflateIfNeededFor_a7421_J0_coder_7d493 : GoodIn wsJ5_inflateIfNeededFor_a7421 wsJ0_coder_7d493 := goodIn_r _ [7, 8, 9, 63, 64, 65, 66] (by decide +kernel) (by decide +kernel)
set_option maxRecDepth 20000 in
theorem gJ5_inflateIfNeededFor_a7421_J0_coder_7d493 : GoodIn wsJ5_inflateIfNeededFor_a7421 (wsV RJ5 40 RJ0 yJ0_coder_7d493 wsJ0_coder_7d493) := goodIn_app (goodIn_of _ (by decide +kernel)) ggJ5_inflateIfNeededFor_a7421_J0_coder_7d493
theorem dJ5_inflateIfNeededFor_a7421_0 : decode cJ5_inflateIfNeededFor_a7421 0 = .ok (.getstatic 18, 3) := by decide +kernel
theorem dJ5_inflateIfNeededFor_a7421_3 : decode cJ5_inflateIfNeededFor_a7421 3 = .ok (.ifCond .eq 18, 3) := by decide +kernel
theorem dJ5_inflateIfNeededFor_a7421_6 : decode cJ5_inflateIfNeededFor_a7421 6 = .ok (.aload_n 0, 1) := by decide +kernel
theorem dJ5_inflateIfNeededFor_a7421_7 : decode cJ5_inflateIfNeededFor_a7421 7 = .ok (.getfield 22, 3) := by decide +kernel
theorem dJ5_inflateIfNeededFor_a7421_10 : decode cJ5_inflateIfNeededFor_a7421 10 = .ok (.aload_n 1, 1) := by decide +kernel
theorem dJ5_inflateIfNeededFor_a7421_11 : decode cJ5_inflateIfNeededFor_a7421 11 = .ok (.invokevirtual 40, 3) := by decide +kernel
theorem dJ5_inflateIfNeededFor_a7421_14 : decode cJ5_inflateIfNeededFor_a7421 14 = .ok (.if_icmp .eq 7, 3) := by decide +kernel
theorem dJ5_inflateIfNeededFor_a7421_17 : decode cJ5_inflateIfNeededFor_a7421 17 = .ok (.aload_n 0, 1) := by decide +kernel
theorem dJ5_inflateIfNeededFor_a7421_18 : decode cJ5_inflateIfNeededFor_a7421 18 = .ok (.invokevirtual 195, 3) := by decide +kernel
theorem dJ5_inflateIfNeededFor_a7421_21 : decode cJ5_inflateIfNeededFor_a7421 21 = .ok (.return_, 1) := by decide +kernel
set_option maxRecDepth 20000 in
theorem ggJ5_putStringAt_47b60_J5_inflateIfNeededFor_a7421 : GoodIn wsJ5_putStringAt_47b60 wsJ5_inflateIfNeededFor_a7421 := goodIn_r _ [8, 9, 2, 10, 11, 12, 13, 14, 15, 16, 17, 18, 19, 20, 7, 21, 1, 22, 23, 24, 25, 26, 27, 28, 29, 30, 31, 32, 33, 34, 35, 36, 37, 38, 39, 40, 41, 42, 43, 44, 45, 46, 47, 48, 49, 50, 51, 52, 53, 54, 55, 56, 57, 58, 59, 60, 61, 62, 63, 75, 76, 77, 78, 79, 80, 81, 82] (by decide +kernel) (by decide +kernel)
set_option maxRecDepth 20000 in
theorem ggJ5_putStringAt_47b60_J0_getBytes_840e7 : GoodIn wsJ5_putStringAt_47b60 wsJ0_getBytes_840e7 := goodIn_r _ [67, 68, 69, 70, 71, 72, 73, 11, 12, 13, 14, 15, 16, 74, 38, 39, 40, 41, 42, 30, 43, 44, 45, 46, 47, 48, 49, 50, 51, 52, 53, 54, 55, 56, 57, 58, 59, 60, 61, 62, 63, 79, 80, 81, 82] (by decide +kernel) (by decide +kernel)
set_option maxRecDepth 20000 in
theorem gJ5_putStringAt_47b60_J0_getBytes_840e7 : GoodIn wsJ5_putStringAt_47b60 (wsV RJ5 399 RJ0 yJ0_getBytes_840e7 wsJ0_getBytes_840e7) := goodIn_app (goodIn_of _ (by decide +kernel)) ggJ5_putStringAt_47b60_J0_getBytes_840e7
theorem dJ5_putStringAt_47b60_0 : decode cJ5_putStringAt_47b60 0 = .ok (.aload_n 0, 1) := by decide +kernel
theorem dJ5_putStringAt_47b60_1 : decode cJ5_putStringAt_47b60 1 = .ok (.aload_n 2, 1) := by decide +kernel
theorem dJ5_putStringAt_47b60_2 : decode cJ5_putStringAt_47b60 2 = .ok (.invokevirtual 397, 3) := by decide +kernel
theorem dJ5_putStringAt_47b60_5 : decode cJ5_putStringAt_47b60 5 = .ok (.aload_n 2, 1) := by decide +kernel
theorem dJ5_putStringAt_47b60_6 : decode cJ5_putStringAt_47b60 6 = .ok (.aload_n 0, 1) := by decide +kernel
theorem dJ5_putStringAt_47b60_7 : decode cJ5_putStringAt_47b60 7 = .ok (.getfield 15, 3) := by decide +kernel
theorem dJ5_putStringAt_47b60_10 : decode cJ5_putStringAt_47b60 10 = .ok (.iload_n 1, 1) := by decide +kernel
theorem dJ5_putStringAt_47b60_11 : decode cJ5_putStringAt_47b60 11 = .ok (.aload_n 0, 1) := by decide +kernel
theorem dJ5_putStringAt_47b60_12 : decode cJ5_putStringAt_47b60 12 = .ok (.getfield 22, 3) := by decide +kernel
theorem dJ5_putStringAt_47b60_15 : decode cJ5_putStringAt_47b60 15 = .ok (.invokevirtual 399, 3) := by decide +kernel
theorem dJ5_putStringAt_47b60_18 : decode cJ5_putStringAt_47b60 18 = .ok (.return_, 1) := by decide +kernel
theorem dJ6_valueOf_2dffe_0 : decode cJ6_valueOf_2dffe 0 = .ok (.iload_n 0, 1) := by decide +kernel
theorem dJ6_valueOf_2dffe_1 : decode cJ6_valueOf_2dffe 1 = .ok (.bipush (-128), 2) := by decide +kernel
theorem dJ6_valueOf_2dffe_3 : decode cJ6_valueOf_2dffe 3 = .ok (.if_icmp .lt 20, 3) := by decide +kernel
theorem dJ6_valueOf_2dffe_6 : decode cJ6_valueOf_2dffe 6 = .ok (.iload_n 0, 1) := by decide +kernel
theorem dJ6_valueOf_2dffe_7 : decode cJ6_valueOf_2dffe 7 = .ok (.getstatic 191, 3) := by decide +kernel
theorem dJ6_valueOf_2dffe_10 : decode cJ6_valueOf_2dffe 10 = .ok (.if_icmp .gt 13, 3) := by decide +kernel
theorem dJ6_valueOf_2dffe_13 : decode cJ6_valueOf_2dffe 13 = .ok (.getstatic 195, 3) := by decide +kernel
theorem dJ6_valueOf_2dffe_16 : decode cJ6_valueOf_2dffe 16 = .ok (.iload_n 0, 1) := by decide +kernel
theorem dJ6_valueOf_2dffe_17 : decode cJ6_valueOf_2dffe 17 = .ok (.sipush 128, 3) := by decide +kernel
theorem dJ6_valueOf_2dffe_20 : decode cJ6_valueOf_2dffe 20 = .ok (.iadd, 1) := by decide +kernel
theorem dJ6_valueOf_2dffe_21 : decode cJ6_valueOf_2dffe 21 = .ok (.aaload, 1) := by decide +kernel
theorem dJ6_valueOf_2dffe_22 : decode cJ6_valueOf_2dffe 22 = .ok (.areturn, 1) := by decide +kernel
theorem dJ6_valueOf_2dffe_23 : decode cJ6_valueOf_2dffe 23 = .ok (.new 1, 3) := by decide +kernel
theorem dJ6_valueOf_2dffe_26 : decode cJ6_valueOf_2dffe 26 = .ok (.dup, 1) := by decide +kernel
theorem dJ6_valueOf_2dffe_27 : decode cJ6_valueOf_2dffe 27 = .ok (.iload_n 0, 1) := by decide +kernel
theorem dJ6_valueOf_2dffe_28 : decode cJ6_valueOf_2dffe 28 = .ok (.invokespecial 199, 3) := by decide +kernel
theorem dJ6_valueOf_2dffe_31 : decode cJ6_valueOf_2dffe 31 = .ok (.areturn, 1) := by decide +kernel
theorem dJ6_intValue_8abf5_0 : decode cJ6_intValue_8abf5 0 = .ok (.aload_n 0, 1) := by decide +kernel
theorem dJ6_intValue_8abf5_1 : decode cJ6_intValue_8abf5 1 = .ok (.getfield 205, 3) := by decide +kernel
theorem dJ6_intValue_8abf5_4 : decode cJ6_intValue_8abf5 4 = .ok (.ireturn, 1) := by decide +kernel
set_option maxRecDepth 20000 in
theorem ggJ0_init_81219_J0_init_db425 : GoodIn wsJ0_init_81219 wsJ0_init_db425 := goodIn_r _ [4, 5, 6, 7, 8, 9, 10, 11, 12, 13, 14, 15, 16, 17, 18, 19, 20, 21, 22, 23, 24, 25, 26, 27, 28, 29, 30, 31, 32, 33, 34, 35, 36, 37, 38, 39, 40, 41, 42, 43, 44, 45, 46, 47, 48, 49, 50, 51, 52, 53, 54, 55, 56, 57, 58, 59, 60, 61, 62, 63, 64, 65, 66, 67, 68, 69, 70, 71, 72, 73, 74, 75, 76, 77, 78, 79, 3, 80, 81, 82, 83, 84, 85, 86, 87, 88, 89, 90, 91, 92, 93, 94, 95, 96, 97, 98, 99, 100, 101, 102, 103, 104, 105, 106, 107] (by decide +kernel) (by decide +kernel)
set_option maxRecDepth 20000 in
theorem gJ0_init_81219_J0_init_db425 : GoodIn wsJ0_init_81219 (wsJ0_init_db425) := ggJ0_init_81219_J0_init_db425
theorem dJ0_init_81219_0 : decode cJ0_init_81219 0 = .ok (.aload_n 0, 1) := by decide +kernel
theorem dJ0_init_81219_1 : decode cJ0_init_81219 1 = .ok (.aload_n 1, 1) := by decide +kernel
theorem dJ0_init_81219_2 : decode cJ0_init_81219 2 = .ok (.aconst_null, 1) := by decide +kernel
theorem dJ0_init_81219_3 : decode cJ0_init_81219 3 = .ok (.invokespecial 489, 3) := by decide +kernel
theorem dJ0_init_81219_6 : decode cJ0_init_81219 6 = .ok (.return_, 1) := by decide +kernel
set_option maxRecDepth 20000 in
theorem ggJ0_length_8abf5_J0_coder_7d493 : GoodIn wsJ0_length_8abf5 wsJ0_coder_7d493 := goodIn_r _ [6, 7, 8, 9, 10, 11, 12] (by decide +kernel) (by decide +kernel)
set_option maxRecDepth 20000 in
theorem gJ0_length_8abf5_J0_coder_7d493 : GoodIn wsJ0_length_8abf5 (wsV RJ0 335 RJ0 yJ0_coder_7d493 wsJ0_coder_7d493) := goodIn_app (goodIn_of _ (by decide +kernel)) ggJ0_length_8abf5_J0_coder_7d493
theorem dJ0_length_8abf5_0 : decode cJ0_length_8abf5 0 = .ok (.aload_n 0, 1) := by decide +kernel
theorem dJ0_length_8abf5_1 : decode cJ0_length_8abf5 1 = .ok (.getfield 9, 3) := by decide +kernel
theorem dJ0_length_8abf5_4 : decode cJ0_length_8abf5 4 = .ok (.arraylength, 1) := by decide +kernel
theorem dJ0_length_8abf5_5 : decode cJ0_length_8abf5 5 = .ok (.aload_n 0, 1) := by decide +kernel
theorem dJ0_length_8abf5_6 : decode cJ0_length_8abf5 6 = .ok (.invokevirtual 335, 3) := by decide +kernel
theorem dJ0_length_8abf5_9 : decode cJ0_length_8abf5 9 = .ok (.ishr, 1) := by decide +kernel
theorem dJ0_length_8abf5_10 : decode cJ0_length_8abf5 10 = .ok (.ireturn, 1) := by decide +kernel
theorem dJ0_isEmpty_aae02_0 : decode cJ0_isEmpty_aae02 0 = .ok (.aload_n 0, 1) := by decide +kernel
theorem dJ0_isEmpty_aae02_1 : decode cJ0_isEmpty_aae02 1 = .ok (.getfield 9, 3) := by decide +kernel
theorem dJ0_isEmpty_aae02_4 : decode cJ0_isEmpty_aae02 4 = .ok (.arraylength, 1) := by decide +kernel
theorem dJ0_isEmpty_aae02_5 : decode cJ0_isEmpty_aae02 5 = .ok (.ifCond .ne 7, 3) := by decide +kernel
theorem dJ0_isEmpty_aae02_8 : decode cJ0_isEmpty_aae02 8 = .ok (.iconst 1, 1) := by decide +kernel
theorem dJ0_isEmpty_aae02_9 : decode cJ0_isEmpty_aae02 9 = .ok (.goto 4, 3) := by decide +kernel
theorem dJ0_isEmpty_aae02_12 : decode cJ0_isEmpty_aae02 12 = .ok (.iconst 0, 1) := by decide +kernel
theorem dJ0_isEmpty_aae02_13 : decode cJ0_isEmpty_aae02 13 = .ok (.ireturn, 1) := by decide +kernel
set_option maxRecDepth 20000 in
theorem ggJ0_equals_9ea2d_J1_equals_b5fdf : GoodIn wsJ0_equals_9ea2d wsJ1_equals_b5fdf := goodIn_r _ [8] (by decide +kernel) (by decide +kernel)
set_option maxRecDepth 20000 in
theorem gJ0_equals_9ea2d_J1_equals_b5fdf : GoodIn wsJ0_equals_9ea2d (va_wsS RJ0 541 yJ1_equals_b5fdf wsJ1_equals_b5fdf) := goodIn_app (goodIn_of _ (by decide +kernel)) ggJ0_equals_9ea2d_J1_equals_b5fdf
theorem dJ0_equals_9ea2d_0 : decode cJ0_equals_9ea2d 0 = .ok (.aload_n 0, 1) := by decide +kernel
theorem dJ0_equals_9ea2d_1 : decode cJ0_equals_9ea2d 1 = .ok (.aload_n 1, 1) := by decide +kernel
theorem dJ0_equals_9ea2d_2 : decode cJ0_equals_9ea2d 2 = .ok (.if_acmp .ne 5, 3) := by decide +kernel
theorem dJ0_equals_9ea2d_5 : decode cJ0_equals_9ea2d 5 = .ok (.iconst 1, 1) := by decide +kernel
theorem dJ0_equals_9ea2d_6 : decode cJ0_equals_9ea2d 6 = .ok (.ireturn, 1) := by decide +kernel
theorem dJ0_equals_9ea2d_7 : decode cJ0_equals_9ea2d 7 = .ok (.aload_n 1, 1) := by decide +kernel
theorem dJ0_equals_9ea2d_8 : decode cJ0_equals_9ea2d 8 = .ok (.instanceof 10, 3) := by decide +kernel
theorem dJ0_equals_9ea2d_11 : decode cJ0_equals_9ea2d 11 = .ok (.ifCond .eq 43, 3) := by decide +kernel
theorem dJ0_equals_9ea2d_14 : decode cJ0_equals_9ea2d 14 = .ok (.aload_n 1, 1) := by decide +kernel
theorem dJ0_equals_9ea2d_15 : decode cJ0_equals_9ea2d 15 = .ok (.checkcast 10, 3) := by decide +kernel
theorem dJ0_equals_9ea2d_18 : decode cJ0_equals_9ea2d 18 = .ok (.astore_n 2, 1) := by decide +kernel
theorem dJ0_equals_9ea2d_19 : decode cJ0_equals_9ea2d 19 = .ok (.getstatic 38, 3) := by decide +kernel
theorem dJ0_equals_9ea2d_22 : decode cJ0_equals_9ea2d 22 = .ok (.ifCond .eq 14, 3) := by decide +kernel
theorem dJ0_equals_9ea2d_25 : decode cJ0_equals_9ea2d 25 = .ok (.aload_n 0, 1) := by decide +kernel
theorem dJ0_equals_9ea2d_26 : decode cJ0_equals_9ea2d 26 = .ok (.getfield 15, 3) := by decide +kernel
theorem dJ0_equals_9ea2d_29 : decode cJ0_equals_9ea2d 29 = .ok (.aload_n 2, 1) := by decide +kernel
theorem dJ0_equals_9ea2d_30 : decode cJ0_equals_9ea2d 30 = .ok (.getfield 15, 3) := by decide +kernel
theorem dJ0_equals_9ea2d_33 : decode cJ0_equals_9ea2d 33 = .ok (.if_icmp .ne 21, 3) := by decide +kernel
theorem dJ0_equals_9ea2d_36 : decode cJ0_equals_9ea2d 36 = .ok (.aload_n 0, 1) := by decide +kernel
theorem dJ0_equals_9ea2d_37 : decode cJ0_equals_9ea2d 37 = .ok (.getfield 9, 3) := by decide +kernel
theorem dJ0_equals_9ea2d_40 : decode cJ0_equals_9ea2d 40 = .ok (.aload_n 2, 1) := by decide +kernel
theorem dJ0_equals_9ea2d_41 : decode cJ0_equals_9ea2d 41 = .ok (.getfield 9, 3) := by decide +kernel
theorem dJ0_equals_9ea2d_44 : decode cJ0_equals_9ea2d 44 = .ok (.invokestatic 541, 3) := by decide +kernel
theorem dJ0_equals_9ea2d_47 : decode cJ0_equals_9ea2d 47 = .ok (.ifCond .eq 7, 3) := by decide +kernel
theorem dJ0_equals_9ea2d_50 : decode cJ0_equals_9ea2d 50 = .ok (.iconst 1, 1) := by decide +kernel
theorem dJ0_equals_9ea2d_51 : decode cJ0_equals_9ea2d 51 = .ok (.goto 4, 3) := by decide +kernel
theorem dJ0_equals_9ea2d_54 : decode cJ0_equals_9ea2d 54 = .ok (.iconst 0, 1) := by decide +kernel
theorem dJ0_equals_9ea2d_55 : decode cJ0_equals_9ea2d 55 = .ok (.ireturn, 1) := by decide +kernel
set_option maxRecDepth 20000 in
theorem ggJ0_substring_b52d3_J0_length_8abf5 : GoodIn wsJ0_substring_b52d3 wsJ0_length_8abf5 := goodIn_r _ [5, 6, 7, 8, 9, 4, 10, 11, 12, 108, 109, 110, 111] (by decide +kernel) (by decide +kernel)
set_option maxRecDepth 20000 in
theorem gJ0_substring_b52d3_J0_length_8abf5 : GoodIn wsJ0_substring_b52d3 (wsV RJ0 505 RJ0 yJ0_length_8abf5 wsJ0_length_8abf5) := goodIn_app (goodIn_of _ (by decide +kernel)) ggJ0_substring_b52d3_J0_length_8abf5
set_option maxRecDepth 20000 in
theorem ggJ0_substring_b52d3_J0_substring_37a41 : GoodIn wsJ0_substring_b52d3 wsJ0_substring_37a41 := goodIn_r _ [16, 6, 1, 2, 3, 4, 5, 7, 8, 9, 10, 11, 12, 17, 18, 19, 20, 21, 22, 23, 24, 25, 26, 27, 28, 29, 30, 31, 32, 33, 34, 35, 36, 37, 38, 39, 40, 41, 42, 43, 44, 45, 46, 47, 48, 49, 50, 51, 52, 53, 54, 55, 56, 57, 58, 59, 60, 61, 62, 63, 64, 65, 66, 67, 68, 69, 70, 71, 72, 73, 74, 75, 76, 77, 78, 79, 80, 81, 82, 83, 84, 85, 86, 87, 88, 89, 90, 91, 92, 93, 94, 95, 96, 97, 98, 99, 100, 101, 102, 103, 104, 105, 106, 107, 108, 109, 110, 111, 112, 113, 114, 115] (by decide +kernel) (by decide +kernel)
set_option maxRecDepth 20000 in
theorem gJ0_substring_b52d3_J0_substring_37a41 : GoodIn wsJ0_substring_b52d3 (wsV RJ0 681 RJ0 yJ0_substring_37a41 wsJ0_substring_37a41) := goodIn_app (goodIn_of _ (by decide +kernel)) ggJ0_substring_b52d3_J0_substring_37a41
theorem dJ0_substring_b52d3_0 : decode cJ0_substring_b52d3 0 = .ok (.aload_n 0, 1) := by decide +kernel
theorem dJ0_substring_b52d3_1 : decode cJ0_substring_b52d3 1 = .ok (.iload_n 1, 1) := by decide +kernel
theorem dJ0_substring_b52d3_2 : decode cJ0_substring_b52d3 2 = .ok (.aload_n 0, 1) := by decide +kernel
theorem dJ0_substring_b52d3_3 : decode cJ0_substring_b52d3 3 = .ok (.invokevirtual 505, 3) := by decide +kernel
theorem dJ0_substring_b52d3_6 : decode cJ0_substring_b52d3 6 = .ok (.invokevirtual 681, 3) := by decide +kernel
theorem dJ0_substring_b52d3_9 : decode cJ0_substring_b52d3 9 = .ok (.areturn, 1) := by decide +kernel
set_option maxRecDepth 20000 in
theorem ggJ0_substring_37a41_J0_length_8abf5 : GoodIn wsJ0_substring_37a41 wsJ0_length_8abf5 := goodIn_r _ [6, 1, 7, 8, 9, 5, 10, 11, 12, 104, 105, 106, 107] (by decide +kernel) (by decide +kernel)
set_option maxRecDepth 20000 in
theorem gJ0_substring_37a41_J0_length_8abf5 : GoodIn wsJ0_substring_37a41 (wsV RJ0 505 RJ0 yJ0_length_8abf5 wsJ0_length_8abf5) := goodIn_app (goodIn_of _ (by decide +kernel)) ggJ0_substring_37a41_J0_length_8abf5
set_option maxRecDepth 20000 in
theorem ggJ0_substring_37a41_J0_checkBoundsBeginEnd_23922 : GoodIn wsJ0_substring_37a41 wsJ0_checkBoundsBeginEnd_23922 := goodIn_r _ [15, 16, 17, 18, 19, 20] (by decide +kernel) (by decide +kernel)
set_option maxRecDepth 20000 in
theorem gJ0_substring_37a41_J0_checkBoundsBeginEnd_23922 : GoodIn wsJ0_substring_37a41 (va_wsS RJ0 521 yJ0_checkBoundsBeginEnd_23922 wsJ0_checkBoundsBeginEnd_23922) := goodIn_app (goodIn_of _ (by decide +kernel)) ggJ0_substring_37a41_J0_checkBoundsBeginEnd_23922
theorem dJ0_substring_37a41_0 : decode cJ0_substring_37a41 0 = .ok (.aload_n 0, 1) := by decide +kernel
theorem dJ0_substring_37a41_1 : decode cJ0_substring_37a41 1 = .ok (.invokevirtual 505, 3) := by decide +kernel
theorem dJ0_substring_37a41_4 : decode cJ0_substring_37a41 4 = .ok (.istore_n 3, 1) := by decide +kernel
theorem dJ0_substring_37a41_5 : decode cJ0_substring_37a41 5 = .ok (.iload_n 1, 1) := by decide +kernel
theorem dJ0_substring_37a41_6 : decode cJ0_substring_37a41 6 = .ok (.iload_n 2, 1) := by decide +kernel
theorem dJ0_substring_37a41_7 : decode cJ0_substring_37a41 7 = .ok (.iload_n 3, 1) := by decide +kernel
theorem dJ0_substring_37a41_8 : decode cJ0_substring_37a41 8 = .ok (.invokestatic 521, 3) := by decide +kernel
theorem dJ0_substring_37a41_11 : decode cJ0_substring_37a41 11 = .ok (.iload_n 1, 1) := by decide +kernel
theorem dJ0_substring_37a41_12 : decode cJ0_substring_37a41 12 = .ok (.ifCond .ne 10, 3) := by decide +kernel
theorem dJ0_substring_37a41_15 : decode cJ0_substring_37a41 15 = .ok (.iload_n 2, 1) := by decide +kernel
theorem dJ0_substring_37a41_16 : decode cJ0_substring_37a41 16 = .ok (.iload_n 3, 1) := by decide +kernel
theorem dJ0_substring_37a41_17 : decode cJ0_substring_37a41 17 = .ok (.if_icmp .ne 5, 3) := by decide +kernel
theorem dJ0_substring_37a41_20 : decode cJ0_substring_37a41 20 = .ok (.aload_n 0, 1) := by decide +kernel
theorem dJ0_substring_37a41_21 : decode cJ0_substring_37a41 21 = .ok (.areturn, 1) := by decide +kernel
theorem dJ0_substring_37a41_22 : decode cJ0_substring_37a41 22 = .ok (.iload_n 2, 1) := by decide +kernel
theorem dJ0_substring_37a41_23 : decode cJ0_substring_37a41 23 = .ok (.iload_n 1, 1) := by decide +kernel
theorem dJ0_substring_37a41_24 : decode cJ0_substring_37a41 24 = .ok (.isub, 1) := by decide +kernel
theorem dJ0_substring_37a41_25 : decode cJ0_substring_37a41 25 = .ok (.istore 4, 2) := by decide +kernel
theorem dJ0_substring_37a41_27 : decode cJ0_substring_37a41 27 = .ok (.aload_n 0, 1) := by decide +kernel
theorem dJ0_substring_37a41_28 : decode cJ0_substring_37a41 28 = .ok (.invokevirtual 492, 3) := by decide +kernel
theorem dJ0_substring_37a41_31 : decode cJ0_substring_37a41 31 = .ok (.ifCond .eq 16, 3) := by decide +kernel
theorem dJ0_substring_37a41_34 : decode cJ0_substring_37a41 34 = .ok (.aload_n 0, 1) := by decide +kernel
theorem dJ0_substring_37a41_35 : decode cJ0_substring_37a41 35 = .ok (.getfield 9, 3) := by decide +kernel
theorem dJ0_substring_37a41_38 : decode cJ0_substring_37a41 38 = .ok (.iload_n 1, 1) := by decide +kernel
theorem dJ0_substring_37a41_39 : decode cJ0_substring_37a41 39 = .ok (.iload 4, 2) := by decide +kernel
theorem dJ0_substring_37a41_41 : decode cJ0_substring_37a41 41 = .ok (.invokestatic 685, 3) := by decide +kernel
theorem dJ0_substring_37a41_44 : decode cJ0_substring_37a41 44 = .ok (.goto 13, 3) := by decide +kernel
theorem dJ0_substring_37a41_47 : decode cJ0_substring_37a41 47 = .ok (.aload_n 0, 1) := by decide +kernel
theorem dJ0_substring_37a41_48 : decode cJ0_substring_37a41 48 = .ok (.getfield 9, 3) := by decide +kernel
theorem dJ0_substring_37a41_51 : decode cJ0_substring_37a41 51 = .ok (.iload_n 1, 1) := by decide +kernel
theorem dJ0_substring_37a41_52 : decode cJ0_substring_37a41 52 = .ok (.iload 4, 2) := by decide +kernel
theorem dJ0_substring_37a41_54 : decode cJ0_substring_37a41 54 = .ok (.invokestatic 689, 3) := by decide +kernel
theorem dJ0_substring_37a41_57 : decode cJ0_substring_37a41 57 = .ok (.areturn, 1) := by decide +kernel
set_option maxRecDepth 20000 in
theorem ggJ0_getBytes_840e7_J0_coder_7d493 : GoodIn wsJ0_getBytes_840e7 wsJ0_coder_7d493 := goodIn_r _ [10, 11, 12, 41, 42, 43, 44] (by decide +kernel) (by decide +kernel)
set_option maxRecDepth 20000 in
theorem gJ0_getBytes_840e7_J0_coder_7d493 : GoodIn wsJ0_getBytes_840e7 (wsV RJ0 335 RJ0 yJ0_coder_7d493 wsJ0_coder_7d493) := goodIn_app (goodIn_of _ (by decide +kernel)) ggJ0_getBytes_840e7_J0_coder_7d493
theorem dJ0_getBytes_840e7_0 : decode cJ0_getBytes_840e7 0 = .ok (.aload_n 0, 1) := by decide +kernel
theorem dJ0_getBytes_840e7_1 : decode cJ0_getBytes_840e7 1 = .ok (.invokevirtual 335, 3) := by decide +kernel
theorem dJ0_getBytes_840e7_4 : decode cJ0_getBytes_840e7 4 = .ok (.iload_n 3, 1) := by decide +kernel
theorem dJ0_getBytes_840e7_5 : decode cJ0_getBytes_840e7 5 = .ok (.if_icmp .ne 23, 3) := by decide +kernel
theorem dJ0_getBytes_840e7_8 : decode cJ0_getBytes_840e7 8 = .ok (.aload_n 0, 1) := by decide +kernel
theorem dJ0_getBytes_840e7_9 : decode cJ0_getBytes_840e7 9 = .ok (.getfield 9, 3) := by decide +kernel
theorem dJ0_getBytes_840e7_12 : decode cJ0_getBytes_840e7 12 = .ok (.iconst 0, 1) := by decide +kernel
theorem dJ0_getBytes_840e7_13 : decode cJ0_getBytes_840e7 13 = .ok (.aload_n 1, 1) := by decide +kernel
theorem dJ0_getBytes_840e7_14 : decode cJ0_getBytes_840e7 14 = .ok (.iload_n 2, 1) := by decide +kernel
theorem dJ0_getBytes_840e7_15 : decode cJ0_getBytes_840e7 15 = .ok (.iload_n 3, 1) := by decide +kernel
theorem dJ0_getBytes_840e7_16 : decode cJ0_getBytes_840e7 16 = .ok (.ishl, 1) := by decide +kernel
theorem dJ0_getBytes_840e7_17 : decode cJ0_getBytes_840e7 17 = .ok (.aload_n 0, 1) := by decide +kernel
theorem dJ0_getBytes_840e7_18 : decode cJ0_getBytes_840e7 18 = .ok (.getfield 9, 3) := by decide +kernel
theorem dJ0_getBytes_840e7_21 : decode cJ0_getBytes_840e7 21 = .ok (.arraylength, 1) := by decide +kernel
theorem dJ0_getBytes_840e7_22 : decode cJ0_getBytes_840e7 22 = .ok (.invokestatic 212, 3) := by decide +kernel
theorem dJ0_getBytes_840e7_25 : decode cJ0_getBytes_840e7 25 = .ok (.goto 18, 3) := by decide +kernel
theorem dJ0_getBytes_840e7_28 : decode cJ0_getBytes_840e7 28 = .ok (.aload_n 0, 1) := by decide +kernel
theorem dJ0_getBytes_840e7_29 : decode cJ0_getBytes_840e7 29 = .ok (.getfield 9, 3) := by decide +kernel
theorem dJ0_getBytes_840e7_32 : decode cJ0_getBytes_840e7 32 = .ok (.iconst 0, 1) := by decide +kernel
theorem dJ0_getBytes_840e7_33 : decode cJ0_getBytes_840e7 33 = .ok (.aload_n 1, 1) := by decide +kernel
theorem dJ0_getBytes_840e7_34 : decode cJ0_getBytes_840e7 34 = .ok (.iload_n 2, 1) := by decide +kernel
theorem dJ0_getBytes_840e7_35 : decode cJ0_getBytes_840e7 35 = .ok (.aload_n 0, 1) := by decide +kernel
theorem dJ0_getBytes_840e7_36 : decode cJ0_getBytes_840e7 36 = .ok (.getfield 9, 3) := by decide +kernel
theorem dJ0_getBytes_840e7_39 : decode cJ0_getBytes_840e7 39 = .ok (.arraylength, 1) := by decide +kernel
theorem dJ0_getBytes_840e7_40 : decode cJ0_getBytes_840e7 40 = .ok (.invokestatic 106, 3) := by decide +kernel
theorem dJ0_getBytes_840e7_43 : decode cJ0_getBytes_840e7 43 = .ok (.return_, 1) := by decide +kernel
set_option maxRecDepth 20000 in
theorem ggJ0_init_db425_J5_getValue_6d5f1 : GoodIn wsJ0_init_db425 wsJ5_getValue_6d5f1 := goodIn_r _ [13, 14, 101, 102, 103, 104] (by decide +kernel) (by decide +kernel)
set_option maxRecDepth 20000 in
theorem ggJ0_init_db425_J4_length_8abf5 : GoodIn wsJ0_init_db425 wsJ4_length_8abf5 := goodIn_r _ [21, 22, 16, 23, 24, 12, 25, 26, 101, 102, 103, 104] (by decide +kernel) (by decide +kernel)
set_option maxRecDepth 20000 in
theorem ggJ0_init_db425_J5_isLatin1_aae02 : GoodIn wsJ0_init_db425 wsJ5_isLatin1_aae02 := goodIn_r _ [31, 32, 33, 101, 102, 103, 104] (by decide +kernel) (by decide +kernel)
set_option maxRecDepth 20000 in
theorem ggJ0_init_db425_J7_copyOfRange_39247 : GoodIn wsJ0_init_db425 wsJ7_copyOfRange_39247 := goodIn_r _ [37, 38, 39, 40, 41, 42, 43, 44, 45, 36, 46, 47, 48, 49, 50, 51, 52, 53, 54, 55, 56, 57, 58, 59, 60, 20, 101, 102, 103, 104] (by decide +kernel) (by decide +kernel)
set_option maxRecDepth 20000 in
theorem gJ0_init_db425_J7_copyOfRange_39247 : GoodIn wsJ0_init_db425 (va_wsS RJ0 54 yJ7_copyOfRange_39247 wsJ7_copyOfRange_39247) := goodIn_app (goodIn_of _ (by decide +kernel)) ggJ0_init_db425_J7_copyOfRange_39247
theorem dJ0_init_db425_0 : decode cJ0_init_db425 0 = .ok (.aload_n 0, 1) := by decide +kernel
theorem dJ0_init_db425_1 : decode cJ0_init_db425 1 = .ok (.invokespecial 1, 3) := by decide +kernel
theorem dJ0_init_db425_4 : decode cJ0_init_db425 4 = .ok (.aload_n 1, 1) := by decide +kernel
theorem dJ0_init_db425_5 : decode cJ0_init_db425 5 = .ok (.invokevirtual 552, 3) := by decide +kernel
theorem dJ0_init_db425_8 : decode cJ0_init_db425 8 = .ok (.astore_n 3, 1) := by decide +kernel
theorem dJ0_init_db425_9 : decode cJ0_init_db425 9 = .ok (.aload_n 1, 1) := by decide +kernel
theorem dJ0_init_db425_10 : decode cJ0_init_db425 10 = .ok (.invokevirtual 549, 3) := by decide +kernel
theorem dJ0_init_db425_13 : decode cJ0_init_db425 13 = .ok (.istore 4, 2) := by decide +kernel
theorem dJ0_init_db425_15 : decode cJ0_init_db425 15 = .ok (.aload_n 1, 1) := by decide +kernel
theorem dJ0_init_db425_16 : decode cJ0_init_db425 16 = .ok (.invokevirtual 1047, 3) := by decide +kernel
theorem dJ0_init_db425_19 : decode cJ0_init_db425 19 = .ok (.ifCond .eq 22, 3) := by decide +kernel
theorem dJ0_init_db425_22 : decode cJ0_init_db425 22 = .ok (.aload_n 0, 1) := by decide +kernel
theorem dJ0_init_db425_23 : decode cJ0_init_db425 23 = .ok (.iconst 0, 1) := by decide +kernel
theorem dJ0_init_db425_24 : decode cJ0_init_db425 24 = .ok (.putfield 15, 3) := by decide +kernel
theorem dJ0_init_db425_27 : decode cJ0_init_db425 27 = .ok (.aload_n 0, 1) := by decide +kernel
theorem dJ0_init_db425_28 : decode cJ0_init_db425 28 = .ok (.aload_n 3, 1) := by decide +kernel
theorem dJ0_init_db425_29 : decode cJ0_init_db425 29 = .ok (.iconst 0, 1) := by decide +kernel
theorem dJ0_init_db425_30 : decode cJ0_init_db425 30 = .ok (.iload 4, 2) := by decide +kernel
theorem dJ0_init_db425_32 : decode cJ0_init_db425 32 = .ok (.invokestatic 54, 3) := by decide +kernel
theorem dJ0_init_db425_35 : decode cJ0_init_db425 35 = .ok (.putfield 9, 3) := by decide +kernel
theorem dJ0_init_db425_38 : decode cJ0_init_db425 38 = .ok (.goto 59, 3) := by decide +kernel
theorem dJ0_init_db425_41 : decode cJ0_init_db425 41 = .ok (.getstatic 38, 3) := by decide +kernel
theorem dJ0_init_db425_44 : decode cJ0_init_db425 44 = .ok (.ifCond .eq 35, 3) := by decide +kernel
theorem dJ0_init_db425_47 : decode cJ0_init_db425 47 = .ok (.aload_n 1, 1) := by decide +kernel
theorem dJ0_init_db425_48 : decode cJ0_init_db425 48 = .ok (.getfield 1048, 3) := by decide +kernel
theorem dJ0_init_db425_51 : decode cJ0_init_db425 51 = .ok (.ifCond .eq 28, 3) := by decide +kernel
theorem dJ0_init_db425_54 : decode cJ0_init_db425 54 = .ok (.aload_n 0, 1) := by decide +kernel
theorem dJ0_init_db425_55 : decode cJ0_init_db425 55 = .ok (.aload_n 3, 1) := by decide +kernel
theorem dJ0_init_db425_56 : decode cJ0_init_db425 56 = .ok (.iconst 0, 1) := by decide +kernel
theorem dJ0_init_db425_57 : decode cJ0_init_db425 57 = .ok (.iload 4, 2) := by decide +kernel
theorem dJ0_init_db425_59 : decode cJ0_init_db425 59 = .ok (.invokestatic 1051, 3) := by decide +kernel
theorem dJ0_init_db425_62 : decode cJ0_init_db425 62 = .ok (.putfield 9, 3) := by decide +kernel
theorem dJ0_init_db425_65 : decode cJ0_init_db425 65 = .ok (.aload_n 0, 1) := by decide +kernel
theorem dJ0_init_db425_66 : decode cJ0_init_db425 66 = .ok (.aload_n 0, 1) := by decide +kernel
theorem dJ0_init_db425_67 : decode cJ0_init_db425 67 = .ok (.getfield 9, 3) := by decide +kernel
theorem dJ0_init_db425_70 : decode cJ0_init_db425 70 = .ok (.iload 4, 2) := by decide +kernel
theorem dJ0_init_db425_72 : decode cJ0_init_db425 72 = .ok (.invokestatic 47, 3) := by decide +kernel
theorem dJ0_init_db425_75 : decode cJ0_init_db425 75 = .ok (.putfield 15, 3) := by decide +kernel
theorem dJ0_init_db425_78 : decode cJ0_init_db425 78 = .ok (.return_, 1) := by decide +kernel
theorem dJ0_init_db425_79 : decode cJ0_init_db425 79 = .ok (.aload_n 0, 1) := by decide +kernel
theorem dJ0_init_db425_80 : decode cJ0_init_db425 80 = .ok (.iconst 1, 1) := by decide +kernel
theorem dJ0_init_db425_81 : decode cJ0_init_db425 81 = .ok (.putfield 15, 3) := by decide +kernel
theorem dJ0_init_db425_84 : decode cJ0_init_db425 84 = .ok (.aload_n 0, 1) := by decide +kernel
theorem dJ0_init_db425_85 : decode cJ0_init_db425 85 = .ok (.aload_n 3, 1) := by decide +kernel
theorem dJ0_init_db425_86 : decode cJ0_init_db425 86 = .ok (.iconst 0, 1) := by decide +kernel
theorem dJ0_init_db425_87 : decode cJ0_init_db425 87 = .ok (.iload 4, 2) := by decide +kernel
theorem dJ0_init_db425_89 : decode cJ0_init_db425 89 = .ok (.iconst 1, 1) := by decide +kernel
theorem dJ0_init_db425_90 : decode cJ0_init_db425 90 = .ok (.ishl, 1) := by decide +kernel
theorem dJ0_init_db425_91 : decode cJ0_init_db425 91 = .ok (.invokestatic 54, 3) := by decide +kernel
theorem dJ0_init_db425_94 : decode cJ0_init_db425 94 = .ok (.putfield 9, 3) := by decide +kernel
theorem dJ0_init_db425_97 : decode cJ0_init_db425 97 = .ok (.return_, 1) := by decide +kernel
theorem dJ0_coder_7d493_0 : decode cJ0_coder_7d493 0 = .ok (.getstatic 38, 3) := by decide +kernel
theorem dJ0_coder_7d493_3 : decode cJ0_coder_7d493 3 = .ok (.ifCond .eq 10, 3) := by decide +kernel
theorem dJ0_coder_7d493_6 : decode cJ0_coder_7d493 6 = .ok (.aload_n 0, 1) := by decide +kernel
theorem dJ0_coder_7d493_7 : decode cJ0_coder_7d493 7 = .ok (.getfield 15, 3) := by decide +kernel
theorem dJ0_coder_7d493_10 : decode cJ0_coder_7d493 10 = .ok (.goto 4, 3) := by decide +kernel
theorem dJ0_coder_7d493_13 : decode cJ0_coder_7d493 13 = .ok (.iconst 1, 1) := by decide +kernel
theorem dJ0_coder_7d493_14 : decode cJ0_coder_7d493 14 = .ok (.ireturn, 1) := by decide +kernel
set_option maxRecDepth 20000 in
theorem ggJ0_checkBoundsBeginEnd_23922_J3_checkFromToIndex_8c36e : GoodIn wsJ0_checkBoundsBeginEnd_23922 wsJ3_checkFromToIndex_8c36e := goodIn_r _ [5] (by decide +kernel) (by decide +kernel)
set_option maxRecDepth 20000 in
theorem gJ0_checkBoundsBeginEnd_23922_J3_checkFromToIndex_8c36e : GoodIn wsJ0_checkBoundsBeginEnd_23922 (va_wsS RJ0 1062 yJ3_checkFromToIndex_8c36e wsJ3_checkFromToIndex_8c36e) := goodIn_app (goodIn_of _ (by decide +kernel)) ggJ0_checkBoundsBeginEnd_23922_J3_checkFromToIndex_8c36e
theorem dJ0_checkBoundsBeginEnd_23922_0 : decode cJ0_checkBoundsBeginEnd_23922 0 = .ok (.iload_n 0, 1) := by decide +kernel
theorem dJ0_checkBoundsBeginEnd_23922_1 : decode cJ0_checkBoundsBeginEnd_23922 1 = .ok (.iload_n 1, 1) := by decide +kernel
theorem dJ0_checkBoundsBeginEnd_23922_2 : decode cJ0_checkBoundsBeginEnd_23922 2 = .ok (.iload_n 2, 1) := by decide +kernel
theorem dJ0_checkBoundsBeginEnd_23922_3 : decode cJ0_checkBoundsBeginEnd_23922 3 = .ok (.getstatic 1053, 3) := by decide +kernel
theorem dJ0_checkBoundsBeginEnd_23922_6 : decode cJ0_checkBoundsBeginEnd_23922 6 = .ok (.invokestatic 1062, 3) := by decide +kernel
theorem dJ0_checkBoundsBeginEnd_23922_9 : decode cJ0_checkBoundsBeginEnd_23922 9 = .ok (.pop, 1) := by decide +kernel
theorem dJ0_checkBoundsBeginEnd_23922_10 : decode cJ0_checkBoundsBeginEnd_23922 10 = .ok (.return_, 1) := by decide +kernel
set_option maxRecDepth 20000 in
theorem ggJ4_init_da8c8_J5_init_d00df : GoodIn wsJ4_init_da8c8 wsJ5_init_d00df := goodIn_r _ [4, 5, 6, 7, 8, 9, 10, 11, 12, 13, 14, 15, 16, 17, 18, 19, 20, 21, 22, 23] (by decide +kernel) (by decide +kernel)
set_option maxRecDepth 20000 in
theorem gJ4_init_da8c8_J5_init_d00df : GoodIn wsJ4_init_da8c8 (wsJ5_init_d00df) := ggJ4_init_da8c8_J5_init_d00df
theorem dJ4_init_da8c8_0 : decode cJ4_init_da8c8 0 = .ok (.aload_n 0, 1) := by decide +kernel
theorem dJ4_init_da8c8_1 : decode cJ4_init_da8c8 1 = .ok (.bipush 16, 2) := by decide +kernel
theorem dJ4_init_da8c8_3 : decode cJ4_init_da8c8 3 = .ok (.invokespecial 1, 3) := by decide +kernel
theorem dJ4_init_da8c8_6 : decode cJ4_init_da8c8 6 = .ok (.return_, 1) := by decide +kernel
set_option maxRecDepth 20000 in
theorem ggJ4_append_15ec4_J5_append_cf1ce : GoodIn wsJ4_append_15ec4 wsJ5_append_cf1ce := goodIn_r _ [6, 7, 8, 9, 10, 11, 5, 12, 13, 14, 15, 16, 17, 18, 19, 20, 21, 22, 23, 24, 25, 26, 27, 28, 29, 30, 31, 32, 33, 34, 35, 36, 37, 38, 39, 40, 41, 42, 43, 44, 45, 46, 47, 48, 49, 50, 51, 52, 53, 54, 55, 56, 57, 58, 59, 60, 61, 62, 63, 64, 65, 66, 67, 68, 69, 70, 71, 72, 73, 74, 75, 76, 77, 78, 79, 80, 81, 82, 83, 84, 85, 86, 87, 88, 89, 90, 91, 92, 93, 94, 95, 96, 97, 98, 99, 100, 101, 102, 103, 104, 105, 106, 107, 108, 109, 110, 111, 112, 113, 114, 115, 116, 117, 118, 119, 120, 121, 122, 123, 124, 125, 126, 127, 128, 129, 130, 131, 132, 133, 134, 135, 136, 137, 138, 139, 140, 141, 142, 143, 144, 145, 146, 147, 148, 149, 150] (by decide +kernel) (by decide +kernel)
theorem dJ4_append_15ec4_0 : decode cJ4_append_15ec4 0 = .ok (.aload_n 0, 1) := by decide +kernel
theorem dJ4_append_15ec4_1 : decode cJ4_append_15ec4 1 = .ok (.aload_n 1, 1) := by decide +kernel
theorem dJ4_append_15ec4_2 : decode cJ4_append_15ec4 2 = .ok (.invokespecial 29, 3) := by decide +kernel
theorem dJ4_append_15ec4_5 : decode cJ4_append_15ec4 5 = .ok (.pop, 1) := by decide +kernel
theorem dJ4_append_15ec4_6 : decode cJ4_append_15ec4 6 = .ok (.aload_n 0, 1) := by decide +kernel
theorem dJ4_append_15ec4_7 : decode cJ4_append_15ec4 7 = .ok (.areturn, 1) := by decide +kernel
set_option maxRecDepth 20000 in
theorem ggJ4_toString_0e30d_J0_init_81219 : GoodIn wsJ4_toString_0e30d wsJ0_init_81219 := goodIn_r _ [6, 7, 8, 3, 9, 10, 11, 12, 13, 14, 15, 16, 17, 18, 19, 20, 21, 22, 23, 24, 25, 26, 27, 28, 29, 30, 31, 32, 33, 34, 35, 36, 37, 38, 39, 40, 41, 42, 43, 44, 45, 46, 47, 48, 49, 50, 51, 52, 53, 54, 55, 56, 57, 58, 59, 60, 61, 62, 63, 64, 65, 66, 67, 68, 69, 70, 71, 72, 73, 74, 75, 76, 77, 78, 79, 80, 81, 82, 83, 84, 85, 86, 87, 88, 89, 90, 91, 92, 93, 94, 95, 96, 97, 98, 99, 100, 101, 102, 103, 104, 105, 106, 107, 108, 109, 110, 111, 112] (by decide +kernel) (by decide +kernel)
set_option maxRecDepth 20000 in
theorem gJ4_toString_0e30d_J0_init_81219 : GoodIn wsJ4_toString_0e30d (wsJ0_init_81219) := ggJ4_toString_0e30d_J0_init_81219
theorem dJ4_toString_0e30d_0 : decode cJ4_toString_0e30d 0 = .ok (.new 18, 3) := by decide +kernel
theorem dJ4_toString_0e30d_3 : decode cJ4_toString_0e30d 3 = .ok (.dup, 1) := by decide +kernel
theorem dJ4_toString_0e30d_4 : decode cJ4_toString_0e30d 4 = .ok (.aload_n 0, 1) := by decide +kernel
theorem dJ4_toString_0e30d_5 : decode cJ4_toString_0e30d 5 = .ok (.invokespecial 137, 3) := by decide +kernel
theorem dJ4_toString_0e30d_8 : decode cJ4_toString_0e30d 8 = .ok (.areturn, 1) := by decide +kernel
set_option maxRecDepth 20000 in
theorem ggJ4_length_8abf5_J5_length_8abf5 : GoodIn wsJ4_length_8abf5 wsJ5_length_8abf5 := goodIn_r _ [6, 7, 8, 9, 10, 11] (by decide +kernel) (by decide +kernel)
theorem dJ4_length_8abf5_0 : decode cJ4_length_8abf5 0 = .ok (.aload_n 0, 1) := by decide +kernel
theorem dJ4_length_8abf5_1 : decode cJ4_length_8abf5 1 = .ok (.invokespecial 343, 3) := by decide +kernel
theorem dJ4_length_8abf5_4 : decode cJ4_length_8abf5 4 = .ok (.ireturn, 1) := by decide +kernel
theorem dJ1_equals_b5fdf_0 : decode cJ1_equals_b5fdf 0 = .ok (.aload_n 0, 1) := by decide +kernel
theorem dJ1_equals_b5fdf_1 : decode cJ1_equals_b5fdf 1 = .ok (.arraylength, 1) := by decide +kernel
theorem dJ1_equals_b5fdf_2 : decode cJ1_equals_b5fdf 2 = .ok (.aload_n 1, 1) := by decide +kernel
theorem dJ1_equals_b5fdf_3 : decode cJ1_equals_b5fdf 3 = .ok (.arraylength, 1) := by decide +kernel
theorem dJ1_equals_b5fdf_4 : decode cJ1_equals_b5fdf 4 = .ok (.if_icmp .ne 30, 3) := by decide +kernel
theorem dJ1_equals_b5fdf_7 : decode cJ1_equals_b5fdf 7 = .ok (.iconst 0, 1) := by decide +kernel
theorem dJ1_equals_b5fdf_8 : decode cJ1_equals_b5fdf 8 = .ok (.istore_n 2, 1) := by decide +kernel
theorem dJ1_equals_b5fdf_9 : decode cJ1_equals_b5fdf 9 = .ok (.iload_n 2, 1) := by decide +kernel
theorem dJ1_equals_b5fdf_10 : decode cJ1_equals_b5fdf 10 = .ok (.aload_n 0, 1) := by decide +kernel
theorem dJ1_equals_b5fdf_11 : decode cJ1_equals_b5fdf 11 = .ok (.arraylength, 1) := by decide +kernel
theorem dJ1_equals_b5fdf_12 : decode cJ1_equals_b5fdf 12 = .ok (.if_icmp .ge 20, 3) := by decide +kernel
theorem dJ1_equals_b5fdf_15 : decode cJ1_equals_b5fdf 15 = .ok (.aload_n 0, 1) := by decide +kernel
theorem dJ1_equals_b5fdf_16 : decode cJ1_equals_b5fdf 16 = .ok (.iload_n 2, 1) := by decide +kernel
theorem dJ1_equals_b5fdf_17 : decode cJ1_equals_b5fdf 17 = .ok (.baload, 1) := by decide +kernel
theorem dJ1_equals_b5fdf_18 : decode cJ1_equals_b5fdf 18 = .ok (.aload_n 1, 1) := by decide +kernel
theorem dJ1_equals_b5fdf_19 : decode cJ1_equals_b5fdf 19 = .ok (.iload_n 2, 1) := by decide +kernel
theorem dJ1_equals_b5fdf_20 : decode cJ1_equals_b5fdf 20 = .ok (.baload, 1) := by decide +kernel
theorem dJ1_equals_b5fdf_21 : decode cJ1_equals_b5fdf 21 = .ok (.if_icmp .eq 5, 3) := by decide +kernel
theorem dJ1_equals_b5fdf_24 : decode cJ1_equals_b5fdf 24 = .ok (.iconst 0, 1) := by decide +kernel
theorem dJ1_equals_b5fdf_25 : decode cJ1_equals_b5fdf 25 = .ok (.ireturn, 1) := by decide +kernel
theorem dJ1_equals_b5fdf_26 : decode cJ1_equals_b5fdf 26 = .ok (.iinc 2 1, 3) := by decide +kernel
theorem dJ1_equals_b5fdf_29 : decode cJ1_equals_b5fdf 29 = .ok (.goto (-20), 3) := by decide +kernel
theorem dJ1_equals_b5fdf_32 : decode cJ1_equals_b5fdf 32 = .ok (.iconst 1, 1) := by decide +kernel
theorem dJ1_equals_b5fdf_33 : decode cJ1_equals_b5fdf 33 = .ok (.ireturn, 1) := by decide +kernel
theorem dJ1_equals_b5fdf_34 : decode cJ1_equals_b5fdf 34 = .ok (.iconst 0, 1) := by decide +kernel
theorem dJ1_equals_b5fdf_35 : decode cJ1_equals_b5fdf 35 = .ok (.ireturn, 1) := by decide +kernel
theorem dJxa1e45_init_da8c8_0 : decode cJxa1e45_init_da8c8 0 = .ok (.aload_n 0, 1) := by decide +kernel
theorem dJxa1e45_init_da8c8_1 : decode cJxa1e45_init_da8c8 1 = .ok (.invokespecial 1, 3) := by decide +kernel
theorem dJxa1e45_init_da8c8_4 : decode cJxa1e45_init_da8c8 4 = .ok (.return_, 1) := by decide +kernel
set_option maxRecDepth 20000 in
theorem ggJxc12de_init_da8c8_Jxa1e45_init_da8c8 : GoodIn wsJxc12de_init_da8c8 wsJxa1e45_init_da8c8 := goodIn_r _ [5, 6, 7, 8] (by decide +kernel) (by decide +kernel)
set_option maxRecDepth 20000 in
theorem gJxc12de_init_da8c8_Jxa1e45_init_da8c8 : GoodIn wsJxc12de_init_da8c8 (wsJxa1e45_init_da8c8) := ggJxc12de_init_da8c8_Jxa1e45_init_da8c8
theorem dJxc12de_init_da8c8_0 : decode cJxc12de_init_da8c8 0 = .ok (.aload_n 0, 1) := by decide +kernel
theorem dJxc12de_init_da8c8_1 : decode cJxc12de_init_da8c8 1 = .ok (.invokespecial 1, 3) := by decide +kernel
theorem dJxc12de_init_da8c8_4 : decode cJxc12de_init_da8c8 4 = .ok (.aload_n 0, 1) := by decide +kernel
theorem dJxc12de_init_da8c8_5 : decode cJxc12de_init_da8c8 5 = .ok (.iconst 0, 1) := by decide +kernel
theorem dJxc12de_init_da8c8_6 : decode cJxc12de_init_da8c8 6 = .ok (.putfield 7, 3) := by decide +kernel
theorem dJxc12de_init_da8c8_9 : decode cJxc12de_init_da8c8 9 = .ok (.return_, 1) := by decide +kernel
set_option maxRecDepth 20000 in
theorem ggJx4a65c_init_da8c8_Jxc12de_init_da8c8 : GoodIn wsJx4a65c_init_da8c8 wsJxc12de_init_da8c8 := goodIn_r _ [6, 7, 8, 9, 10, 11, 12, 13, 14, 15, 16, 17] (by decide +kernel) (by decide +kernel)
set_option maxRecDepth 20000 in
theorem gJx4a65c_init_da8c8_Jxc12de_init_da8c8 : GoodIn wsJx4a65c_init_da8c8 (wsJxc12de_init_da8c8) := ggJx4a65c_init_da8c8_Jxc12de_init_da8c8
theorem dJx4a65c_init_da8c8_0 : decode cJx4a65c_init_da8c8 0 = .ok (.aload_n 0, 1) := by decide +kernel
theorem dJx4a65c_init_da8c8_1 : decode cJx4a65c_init_da8c8 1 = .ok (.invokespecial 1, 3) := by decide +kernel
theorem dJx4a65c_init_da8c8_4 : decode cJx4a65c_init_da8c8 4 = .ok (.aload_n 0, 1) := by decide +kernel
theorem dJx4a65c_init_da8c8_5 : decode cJx4a65c_init_da8c8 5 = .ok (.getstatic 39, 3) := by decide +kernel
theorem dJx4a65c_init_da8c8_8 : decode cJx4a65c_init_da8c8 8 = .ok (.putfield 9, 3) := by decide +kernel
theorem dJx4a65c_init_da8c8_11 : decode cJx4a65c_init_da8c8 11 = .ok (.return_, 1) := by decide +kernel
theorem dJx4a65c_grow_92f84_0 : decode cJx4a65c_grow_92f84 0 = .ok (.aload_n 0, 1) := by decide +kernel
theorem dJx4a65c_grow_92f84_1 : decode cJx4a65c_grow_92f84 1 = .ok (.getfield 9, 3) := by decide +kernel
theorem dJx4a65c_grow_92f84_4 : decode cJx4a65c_grow_92f84 4 = .ok (.arraylength, 1) := by decide +kernel
theorem dJx4a65c_grow_92f84_5 : decode cJx4a65c_grow_92f84 5 = .ok (.istore_n 2, 1) := by decide +kernel
theorem dJx4a65c_grow_92f84_6 : decode cJx4a65c_grow_92f84 6 = .ok (.iload_n 2, 1) := by decide +kernel
theorem dJx4a65c_grow_92f84_7 : decode cJx4a65c_grow_92f84 7 = .ok (.ifCond .gt 13, 3) := by decide +kernel
theorem dJx4a65c_grow_92f84_10 : decode cJx4a65c_grow_92f84 10 = .ok (.aload_n 0, 1) := by decide +kernel
theorem dJx4a65c_grow_92f84_11 : decode cJx4a65c_grow_92f84 11 = .ok (.getfield 9, 3) := by decide +kernel
theorem dJx4a65c_grow_92f84_14 : decode cJx4a65c_grow_92f84 14 = .ok (.getstatic 39, 3) := by decide +kernel
theorem dJx4a65c_grow_92f84_17 : decode cJx4a65c_grow_92f84 17 = .ok (.if_acmp .eq 28, 3) := by decide +kernel
theorem dJx4a65c_grow_92f84_20 : decode cJx4a65c_grow_92f84 20 = .ok (.iload_n 2, 1) := by decide +kernel
theorem dJx4a65c_grow_92f84_21 : decode cJx4a65c_grow_92f84 21 = .ok (.iload_n 1, 1) := by decide +kernel
theorem dJx4a65c_grow_92f84_22 : decode cJx4a65c_grow_92f84 22 = .ok (.iload_n 2, 1) := by decide +kernel
theorem dJx4a65c_grow_92f84_23 : decode cJx4a65c_grow_92f84 23 = .ok (.isub, 1) := by decide +kernel
theorem dJx4a65c_grow_92f84_24 : decode cJx4a65c_grow_92f84 24 = .ok (.iload_n 2, 1) := by decide +kernel
theorem dJx4a65c_grow_92f84_25 : decode cJx4a65c_grow_92f84 25 = .ok (.iconst 1, 1) := by decide +kernel
theorem dJx4a65c_grow_92f84_26 : decode cJx4a65c_grow_92f84 26 = .ok (.ishr, 1) := by decide +kernel
theorem dJx4a65c_grow_92f84_27 : decode cJx4a65c_grow_92f84 27 = .ok (.invokestatic 73, 3) := by decide +kernel
theorem dJx4a65c_grow_92f84_30 : decode cJx4a65c_grow_92f84 30 = .ok (.istore_n 3, 1) := by decide +kernel
theorem dJx4a65c_grow_92f84_31 : decode cJx4a65c_grow_92f84 31 = .ok (.aload_n 0, 1) := by decide +kernel
theorem dJx4a65c_grow_92f84_32 : decode cJx4a65c_grow_92f84 32 = .ok (.aload_n 0, 1) := by decide +kernel
theorem dJx4a65c_grow_92f84_33 : decode cJx4a65c_grow_92f84 33 = .ok (.getfield 9, 3) := by decide +kernel
theorem dJx4a65c_grow_92f84_36 : decode cJx4a65c_grow_92f84 36 = .ok (.iload_n 3, 1) := by decide +kernel
theorem dJx4a65c_grow_92f84_37 : decode cJx4a65c_grow_92f84 37 = .ok (.invokestatic 66, 3) := by decide +kernel
theorem dJx4a65c_grow_92f84_40 : decode cJx4a65c_grow_92f84 40 = .ok (.dup_x1, 1) := by decide +kernel
theorem dJx4a65c_grow_92f84_41 : decode cJx4a65c_grow_92f84 41 = .ok (.putfield 9, 3) := by decide +kernel
theorem dJx4a65c_grow_92f84_44 : decode cJx4a65c_grow_92f84 44 = .ok (.areturn, 1) := by decide +kernel
theorem dJx4a65c_grow_92f84_45 : decode cJx4a65c_grow_92f84 45 = .ok (.aload_n 0, 1) := by decide +kernel
theorem dJx4a65c_grow_92f84_46 : decode cJx4a65c_grow_92f84 46 = .ok (.bipush 10, 2) := by decide +kernel
theorem dJx4a65c_grow_92f84_48 : decode cJx4a65c_grow_92f84 48 = .ok (.iload_n 1, 1) := by decide +kernel
theorem dJx4a65c_grow_92f84_49 : decode cJx4a65c_grow_92f84 49 = .ok (.invokestatic 79, 3) := by decide +kernel
theorem dJx4a65c_grow_92f84_52 : decode cJx4a65c_grow_92f84 52 = .ok (.anewarray 7, 3) := by decide +kernel
theorem dJx4a65c_grow_92f84_55 : decode cJx4a65c_grow_92f84 55 = .ok (.dup_x1, 1) := by decide +kernel
theorem dJx4a65c_grow_92f84_56 : decode cJx4a65c_grow_92f84 56 = .ok (.putfield 9, 3) := by decide +kernel
theorem dJx4a65c_grow_92f84_59 : decode cJx4a65c_grow_92f84 59 = .ok (.areturn, 1) := by decide +kernel
set_option maxRecDepth 20000 in
theorem ggJx4a65c_grow_d5877_Jx4a65c_grow_92f84 : GoodIn wsJx4a65c_grow_d5877 wsJx4a65c_grow_92f84 := goodIn_r _ [6, 7, 8, 9, 10, 11, 12, 13, 14, 15, 16, 17, 18, 19, 20, 21, 22, 23, 24, 25, 26, 27, 28, 29, 30, 31, 32, 33, 34, 35, 36, 37, 38, 39, 40, 41, 42, 43, 44, 45] (by decide +kernel) (by decide +kernel)
set_option maxRecDepth 20000 in
theorem gJx4a65c_grow_d5877_Jx4a65c_grow_92f84 : GoodIn wsJx4a65c_grow_d5877 (wsV RJx4a65c 69 RJx4a65c yJx4a65c_grow_92f84 wsJx4a65c_grow_92f84) := goodIn_app (goodIn_of _ (by decide +kernel)) ggJx4a65c_grow_d5877_Jx4a65c_grow_92f84
theorem dJx4a65c_grow_d5877_0 : decode cJx4a65c_grow_d5877 0 = .ok (.aload_n 0, 1) := by decide +kernel
theorem dJx4a65c_grow_d5877_1 : decode cJx4a65c_grow_d5877 1 = .ok (.aload_n 0, 1) := by decide +kernel
theorem dJx4a65c_grow_d5877_2 : decode cJx4a65c_grow_d5877 2 = .ok (.getfield 48, 3) := by decide +kernel
theorem dJx4a65c_grow_d5877_5 : decode cJx4a65c_grow_d5877 5 = .ok (.iconst 1, 1) := by decide +kernel
theorem dJx4a65c_grow_d5877_6 : decode cJx4a65c_grow_d5877 6 = .ok (.iadd, 1) := by decide +kernel
theorem dJx4a65c_grow_d5877_7 : decode cJx4a65c_grow_d5877 7 = .ok (.invokevirtual 69, 3) := by decide +kernel
theorem dJx4a65c_grow_d5877_10 : decode cJx4a65c_grow_d5877 10 = .ok (.areturn, 1) := by decide +kernel
theorem dJx4a65c_size_8abf5_0 : decode cJx4a65c_size_8abf5 0 = .ok (.aload_n 0, 1) := by decide +kernel
theorem dJx4a65c_size_8abf5_1 : decode cJx4a65c_size_8abf5 1 = .ok (.getfield 48, 3) := by decide +kernel
theorem dJx4a65c_size_8abf5_4 : decode cJx4a65c_size_8abf5 4 = .ok (.ireturn, 1) := by decide +kernel
theorem dJx4a65c_isEmpty_aae02_0 : decode cJx4a65c_isEmpty_aae02 0 = .ok (.aload_n 0, 1) := by decide +kernel
theorem dJx4a65c_isEmpty_aae02_1 : decode cJx4a65c_isEmpty_aae02 1 = .ok (.getfield 48, 3) := by decide +kernel
theorem dJx4a65c_isEmpty_aae02_4 : decode cJx4a65c_isEmpty_aae02 4 = .ok (.ifCond .ne 7, 3) := by decide +kernel
theorem dJx4a65c_isEmpty_aae02_7 : decode cJx4a65c_isEmpty_aae02 7 = .ok (.iconst 1, 1) := by decide +kernel
theorem dJx4a65c_isEmpty_aae02_8 : decode cJx4a65c_isEmpty_aae02 8 = .ok (.goto 4, 3) := by decide +kernel
theorem dJx4a65c_isEmpty_aae02_11 : decode cJx4a65c_isEmpty_aae02 11 = .ok (.iconst 0, 1) := by decide +kernel
theorem dJx4a65c_isEmpty_aae02_12 : decode cJx4a65c_isEmpty_aae02 12 = .ok (.ireturn, 1) := by decide +kernel
theorem dJx4a65c_elementData_915e3_0 : decode cJx4a65c_elementData_915e3 0 = .ok (.aload_n 0, 1) := by decide +kernel
theorem dJx4a65c_elementData_915e3_1 : decode cJx4a65c_elementData_915e3 1 = .ok (.getfield 9, 3) := by decide +kernel
theorem dJx4a65c_elementData_915e3_4 : decode cJx4a65c_elementData_915e3 4 = .ok (.iload_n 1, 1) := by decide +kernel
theorem dJx4a65c_elementData_915e3_5 : decode cJx4a65c_elementData_915e3 5 = .ok (.aaload, 1) := by decide +kernel
theorem dJx4a65c_elementData_915e3_6 : decode cJx4a65c_elementData_915e3 6 = .ok (.areturn, 1) := by decide +kernel
set_option maxRecDepth 20000 in
theorem ggJx4a65c_get_915e3_J15_checkIndex_7cf53 : GoodIn wsJx4a65c_get_915e3 wsJ15_checkIndex_7cf53 := goodIn_r _ [5, 6, 7, 8, 9] (by decide +kernel) (by decide +kernel)
set_option maxRecDepth 20000 in
theorem gJx4a65c_get_915e3_J15_checkIndex_7cf53 : GoodIn wsJx4a65c_get_915e3 (va_wsS RJx4a65c 118 yJ15_checkIndex_7cf53 wsJ15_checkIndex_7cf53) := goodIn_app (goodIn_of _ (by decide +kernel)) ggJx4a65c_get_915e3_J15_checkIndex_7cf53
set_option maxRecDepth 20000 in
theorem ggJx4a65c_get_915e3_Jx4a65c_elementData_915e3 : GoodIn wsJx4a65c_get_915e3 wsJx4a65c_elementData_915e3 := goodIn_r _ [14, 15, 16, 17, 18] (by decide +kernel) (by decide +kernel)
set_option maxRecDepth 20000 in
theorem gJx4a65c_get_915e3_Jx4a65c_elementData_915e3 : GoodIn wsJx4a65c_get_915e3 (wsV RJx4a65c 123 RJx4a65c yJx4a65c_elementData_915e3 wsJx4a65c_elementData_915e3) := goodIn_app (goodIn_of _ (by decide +kernel)) ggJx4a65c_get_915e3_Jx4a65c_elementData_915e3
theorem dJx4a65c_get_915e3_0 : decode cJx4a65c_get_915e3 0 = .ok (.iload_n 1, 1) := by decide +kernel
theorem dJx4a65c_get_915e3_1 : decode cJx4a65c_get_915e3 1 = .ok (.aload_n 0, 1) := by decide +kernel
theorem dJx4a65c_get_915e3_2 : decode cJx4a65c_get_915e3 2 = .ok (.getfield 48, 3) := by decide +kernel
theorem dJx4a65c_get_915e3_5 : decode cJx4a65c_get_915e3 5 = .ok (.invokestatic 118, 3) := by decide +kernel
theorem dJx4a65c_get_915e3_8 : decode cJx4a65c_get_915e3 8 = .ok (.pop, 1) := by decide +kernel
theorem dJx4a65c_get_915e3_9 : decode cJx4a65c_get_915e3 9 = .ok (.aload_n 0, 1) := by decide +kernel
theorem dJx4a65c_get_915e3_10 : decode cJx4a65c_get_915e3 10 = .ok (.iload_n 1, 1) := by decide +kernel
theorem dJx4a65c_get_915e3_11 : decode cJx4a65c_get_915e3 11 = .ok (.invokevirtual 123, 3) := by decide +kernel
theorem dJx4a65c_get_915e3_14 : decode cJx4a65c_get_915e3 14 = .ok (.areturn, 1) := by decide +kernel
set_option maxRecDepth 20000 in
theorem ggJx4a65c_add_72be8_Jx4a65c_grow_d5877 : GoodIn wsJx4a65c_add_72be8 wsJx4a65c_grow_d5877 := goodIn_r _ [6, 1, 7, 8, 9, 5, 10, 11, 12, 13, 14, 15, 16, 17, 18, 19, 20, 21, 22, 23, 24, 25, 26, 27, 28, 29, 30, 31, 32, 33, 34, 35, 36, 37, 38, 39, 40, 41, 42, 43, 44, 45, 46, 47, 48, 49] (by decide +kernel) (by decide +kernel)
set_option maxRecDepth 20000 in
theorem gJx4a65c_add_72be8_Jx4a65c_grow_d5877 : GoodIn wsJx4a65c_add_72be8 (wsV RJx4a65c 129 RJx4a65c yJx4a65c_grow_d5877 wsJx4a65c_grow_d5877) := goodIn_app (goodIn_of _ (by decide +kernel)) ggJx4a65c_add_72be8_Jx4a65c_grow_d5877
theorem dJx4a65c_add_72be8_0 : decode cJx4a65c_add_72be8 0 = .ok (.iload_n 3, 1) := by decide +kernel
theorem dJx4a65c_add_72be8_1 : decode cJx4a65c_add_72be8 1 = .ok (.aload_n 2, 1) := by decide +kernel
theorem dJx4a65c_add_72be8_2 : decode cJx4a65c_add_72be8 2 = .ok (.arraylength, 1) := by decide +kernel
theorem dJx4a65c_add_72be8_3 : decode cJx4a65c_add_72be8 3 = .ok (.if_icmp .ne 8, 3) := by decide +kernel
theorem dJx4a65c_add_72be8_6 : decode cJx4a65c_add_72be8 6 = .ok (.aload_n 0, 1) := by decide +kernel
theorem dJx4a65c_add_72be8_7 : decode cJx4a65c_add_72be8 7 = .ok (.invokevirtual 129, 3) := by decide +kernel
theorem dJx4a65c_add_72be8_10 : decode cJx4a65c_add_72be8 10 = .ok (.astore_n 2, 1) := by decide +kernel
theorem dJx4a65c_add_72be8_11 : decode cJx4a65c_add_72be8 11 = .ok (.aload_n 2, 1) := by decide +kernel
theorem dJx4a65c_add_72be8_12 : decode cJx4a65c_add_72be8 12 = .ok (.iload_n 3, 1) := by decide +kernel
theorem dJx4a65c_add_72be8_13 : decode cJx4a65c_add_72be8 13 = .ok (.aload_n 1, 1) := by decide +kernel
theorem dJx4a65c_add_72be8_14 : decode cJx4a65c_add_72be8 14 = .ok (.aastore, 1) := by decide +kernel
theorem dJx4a65c_add_72be8_15 : decode cJx4a65c_add_72be8 15 = .ok (.aload_n 0, 1) := by decide +kernel
theorem dJx4a65c_add_72be8_16 : decode cJx4a65c_add_72be8 16 = .ok (.iload_n 3, 1) := by decide +kernel
theorem dJx4a65c_add_72be8_17 : decode cJx4a65c_add_72be8 17 = .ok (.iconst 1, 1) := by decide +kernel
theorem dJx4a65c_add_72be8_18 : decode cJx4a65c_add_72be8 18 = .ok (.iadd, 1) := by decide +kernel
theorem dJx4a65c_add_72be8_19 : decode cJx4a65c_add_72be8 19 = .ok (.putfield 48, 3) := by decide +kernel
theorem dJx4a65c_add_72be8_22 : decode cJx4a65c_add_72be8 22 = .ok (.return_, 1) := by decide +kernel
set_option maxRecDepth 20000 in
theorem ggJx4a65c_add_9ea2d_Jx4a65c_add_72be8 : GoodIn wsJx4a65c_add_9ea2d wsJx4a65c_add_72be8 := goodIn_r _ [9, 4, 10, 11, 12, 8, 13, 14, 15, 16, 17, 3, 18, 19, 20, 21, 22, 23, 24, 25, 26, 27, 28, 29, 30, 31, 32, 33, 34, 35, 36, 37, 38, 39, 40, 41, 42, 43, 44, 45, 46, 47, 48, 49, 50, 51, 52, 53, 54, 55] (by decide +kernel) (by decide +kernel)
set_option maxRecDepth 20000 in
theorem gJx4a65c_add_9ea2d_Jx4a65c_add_72be8 : GoodIn wsJx4a65c_add_9ea2d (wsV RJx4a65c 131 RJx4a65c yJx4a65c_add_72be8 wsJx4a65c_add_72be8) := goodIn_app (goodIn_of _ (by decide +kernel)) ggJx4a65c_add_9ea2d_Jx4a65c_add_72be8
theorem dJx4a65c_add_9ea2d_0 : decode cJx4a65c_add_9ea2d 0 = .ok (.aload_n 0, 1) := by decide +kernel
theorem dJx4a65c_add_9ea2d_1 : decode cJx4a65c_add_9ea2d 1 = .ok (.dup, 1) := by decide +kernel
theorem dJx4a65c_add_9ea2d_2 : decode cJx4a65c_add_9ea2d 2 = .ok (.getfield 63, 3) := by decide +kernel
theorem dJx4a65c_add_9ea2d_5 : decode cJx4a65c_add_9ea2d 5 = .ok (.iconst 1, 1) := by decide +kernel
theorem dJx4a65c_add_9ea2d_6 : decode cJx4a65c_add_9ea2d 6 = .ok (.iadd, 1) := by decide +kernel
theorem dJx4a65c_add_9ea2d_7 : decode cJx4a65c_add_9ea2d 7 = .ok (.putfield 63, 3) := by decide +kernel
theorem dJx4a65c_add_9ea2d_10 : decode cJx4a65c_add_9ea2d 10 = .ok (.aload_n 0, 1) := by decide +kernel
theorem dJx4a65c_add_9ea2d_11 : decode cJx4a65c_add_9ea2d 11 = .ok (.aload_n 1, 1) := by decide +kernel
theorem dJx4a65c_add_9ea2d_12 : decode cJx4a65c_add_9ea2d 12 = .ok (.aload_n 0, 1) := by decide +kernel
theorem dJx4a65c_add_9ea2d_13 : decode cJx4a65c_add_9ea2d 13 = .ok (.getfield 9, 3) := by decide +kernel
theorem dJx4a65c_add_9ea2d_16 : decode cJx4a65c_add_9ea2d 16 = .ok (.aload_n 0, 1) := by decide +kernel
theorem dJx4a65c_add_9ea2d_17 : decode cJx4a65c_add_9ea2d 17 = .ok (.getfield 48, 3) := by decide +kernel
theorem dJx4a65c_add_9ea2d_20 : decode cJx4a65c_add_9ea2d 20 = .ok (.invokevirtual 131, 3) := by decide +kernel
theorem dJx4a65c_add_9ea2d_23 : decode cJx4a65c_add_9ea2d 23 = .ok (.iconst 1, 1) := by decide +kernel
theorem dJx4a65c_add_9ea2d_24 : decode cJx4a65c_add_9ea2d 24 = .ok (.ireturn, 1) := by decide +kernel
theorem dJ7_checkLength_df160_0 : decode cJ7_checkLength_df160 0 = .ok (.iload_n 1, 1) := by decide +kernel
theorem dJ7_checkLength_df160_1 : decode cJ7_checkLength_df160 1 = .ok (.iload_n 0, 1) := by decide +kernel
theorem dJ7_checkLength_df160_2 : decode cJ7_checkLength_df160 2 = .ok (.if_icmp .ge 35, 3) := by decide +kernel
theorem dJ7_checkLength_df160_5 : decode cJ7_checkLength_df160 5 = .ok (.new 43, 3) := by decide +kernel
theorem dJ7_checkLength_df160_8 : decode cJ7_checkLength_df160 8 = .ok (.dup, 1) := by decide +kernel
theorem dJ7_checkLength_df160_9 : decode cJ7_checkLength_df160 9 = .ok (.new 45, 3) := by decide +kernel
theorem dJ7_checkLength_df160_12 : decode cJ7_checkLength_df160 12 = .ok (.dup, 1) := by decide +kernel
theorem dJ7_checkLength_df160_13 : decode cJ7_checkLength_df160 13 = .ok (.invokespecial 47, 3) := by decide +kernel
theorem dJ7_checkLength_df160_16 : decode cJ7_checkLength_df160 16 = .ok (.iload_n 0, 1) := by decide +kernel
theorem dJ7_checkLength_df160_17 : decode cJ7_checkLength_df160 17 = .ok (.invokevirtual 54, 3) := by decide +kernel
theorem dJ7_checkLength_df160_20 : decode cJ7_checkLength_df160 20 = .ok (.ldc_w 337, 3) := by decide +kernel
theorem dJ7_checkLength_df160_23 : decode cJ7_checkLength_df160 23 = .ok (.invokevirtual 50, 3) := by decide +kernel
theorem dJ7_checkLength_df160_26 : decode cJ7_checkLength_df160 26 = .ok (.iload_n 1, 1) := by decide +kernel
theorem dJ7_checkLength_df160_27 : decode cJ7_checkLength_df160 27 = .ok (.invokevirtual 54, 3) := by decide +kernel
theorem dJ7_checkLength_df160_30 : decode cJ7_checkLength_df160 30 = .ok (.invokevirtual 61, 3) := by decide +kernel
theorem dJ7_checkLength_df160_33 : decode cJ7_checkLength_df160 33 = .ok (.invokespecial 65, 3) := by decide +kernel
theorem dJ7_checkLength_df160_36 : decode cJ7_checkLength_df160 36 = .ok (.athrow, 1) := by decide +kernel
theorem dJ7_checkLength_df160_37 : decode cJ7_checkLength_df160 37 = .ok (.return_, 1) := by decide +kernel
set_option maxRecDepth 20000 in
theorem ggJ7_copyOfRange_39247_J7_copyOfRangeByte_39247 : GoodIn wsJ7_copyOfRange_39247 wsJ7_copyOfRangeByte_39247 := goodIn_r _ [10, 11, 12, 13, 14, 15, 16, 17, 18, 19, 20, 21, 9, 22, 23, 24, 25, 26, 27, 28, 29] (by decide +kernel) (by decide +kernel)
set_option maxRecDepth 20000 in
theorem gJ7_copyOfRange_39247_J7_copyOfRangeByte_39247 : GoodIn wsJ7_copyOfRange_39247 (va_wsS RJ7 339 yJ7_copyOfRangeByte_39247 wsJ7_copyOfRangeByte_39247) := goodIn_app (goodIn_of _ (by decide +kernel)) ggJ7_copyOfRange_39247_J7_copyOfRangeByte_39247
theorem dJ7_copyOfRange_39247_0 : decode cJ7_copyOfRange_39247 0 = .ok (.iload_n 1, 1) := by decide +kernel
theorem dJ7_copyOfRange_39247_1 : decode cJ7_copyOfRange_39247 1 = .ok (.ifCond .ne 9, 3) := by decide +kernel
theorem dJ7_copyOfRange_39247_4 : decode cJ7_copyOfRange_39247 4 = .ok (.iload_n 2, 1) := by decide +kernel
theorem dJ7_copyOfRange_39247_5 : decode cJ7_copyOfRange_39247 5 = .ok (.aload_n 0, 1) := by decide +kernel
theorem dJ7_copyOfRange_39247_6 : decode cJ7_copyOfRange_39247 6 = .ok (.arraylength, 1) := by decide +kernel
theorem dJ7_copyOfRange_39247_7 : decode cJ7_copyOfRange_39247 7 = .ok (.if_icmp .eq 10, 3) := by decide +kernel
theorem dJ7_copyOfRange_39247_10 : decode cJ7_copyOfRange_39247 10 = .ok (.aload_n 0, 1) := by decide +kernel
theorem dJ7_copyOfRange_39247_11 : decode cJ7_copyOfRange_39247 11 = .ok (.iload_n 1, 1) := by decide +kernel
theorem dJ7_copyOfRange_39247_12 : decode cJ7_copyOfRange_39247 12 = .ok (.iload_n 2, 1) := by decide +kernel
theorem dJ7_copyOfRange_39247_13 : decode cJ7_copyOfRange_39247 13 = .ok (.invokestatic 339, 3) := by decide +kernel
theorem dJ7_copyOfRange_39247_16 : decode cJ7_copyOfRange_39247 16 = .ok (.areturn, 1) := by decide +kernel
theorem dJ7_copyOfRange_39247_17 : decode cJ7_copyOfRange_39247 17 = .ok (.aload_n 0, 1) := by decide +kernel
theorem dJ7_copyOfRange_39247_18 : decode cJ7_copyOfRange_39247 18 = .ok (.invokevirtual 310, 3) := by decide +kernel
theorem dJ7_copyOfRange_39247_21 : decode cJ7_copyOfRange_39247 21 = .ok (.checkcast 311, 3) := by decide +kernel
theorem dJ7_copyOfRange_39247_24 : decode cJ7_copyOfRange_39247 24 = .ok (.areturn, 1) := by decide +kernel
set_option maxRecDepth 20000 in
theorem ggJ7_copyOfRangeByte_39247_J7_checkLength_df160 : GoodIn wsJ7_copyOfRangeByte_39247 wsJ7_checkLength_df160 := goodIn_r _ [13, 14, 15, 16, 17, 18, 19, 20] (by decide +kernel) (by decide +kernel)
set_option maxRecDepth 20000 in
theorem gJ7_copyOfRangeByte_39247_J7_checkLength_df160 : GoodIn wsJ7_copyOfRangeByte_39247 (va_wsS RJ7 343 yJ7_checkLength_df160 wsJ7_checkLength_df160) := goodIn_app (goodIn_of _ (by decide +kernel)) ggJ7_copyOfRangeByte_39247_J7_checkLength_df160
theorem dJ7_copyOfRangeByte_39247_0 : decode cJ7_copyOfRangeByte_39247 0 = .ok (.iload_n 1, 1) := by decide +kernel
theorem dJ7_copyOfRangeByte_39247_1 : decode cJ7_copyOfRangeByte_39247 1 = .ok (.iload_n 2, 1) := by decide +kernel
theorem dJ7_copyOfRangeByte_39247_2 : decode cJ7_copyOfRangeByte_39247 2 = .ok (.invokestatic 343, 3) := by decide +kernel
theorem dJ7_copyOfRangeByte_39247_5 : decode cJ7_copyOfRangeByte_39247 5 = .ok (.iload_n 2, 1) := by decide +kernel
theorem dJ7_copyOfRangeByte_39247_6 : decode cJ7_copyOfRangeByte_39247 6 = .ok (.iload_n 1, 1) := by decide +kernel
theorem dJ7_copyOfRangeByte_39247_7 : decode cJ7_copyOfRangeByte_39247 7 = .ok (.isub, 1) := by decide +kernel
theorem dJ7_copyOfRangeByte_39247_8 : decode cJ7_copyOfRangeByte_39247 8 = .ok (.istore_n 3, 1) := by decide +kernel
theorem dJ7_copyOfRangeByte_39247_9 : decode cJ7_copyOfRangeByte_39247 9 = .ok (.iload_n 3, 1) := by decide +kernel
theorem dJ7_copyOfRangeByte_39247_10 : decode cJ7_copyOfRangeByte_39247 10 = .ok (.newarray .byte, 2) := by decide +kernel
theorem dJ7_copyOfRangeByte_39247_12 : decode cJ7_copyOfRangeByte_39247 12 = .ok (.astore 4, 2) := by decide +kernel
theorem dJ7_copyOfRangeByte_39247_14 : decode cJ7_copyOfRangeByte_39247 14 = .ok (.aload_n 0, 1) := by decide +kernel
theorem dJ7_copyOfRangeByte_39247_15 : decode cJ7_copyOfRangeByte_39247 15 = .ok (.iload_n 1, 1) := by decide +kernel
theorem dJ7_copyOfRangeByte_39247_16 : decode cJ7_copyOfRangeByte_39247 16 = .ok (.aload 4, 2) := by decide +kernel
theorem dJ7_copyOfRangeByte_39247_18 : decode cJ7_copyOfRangeByte_39247 18 = .ok (.iconst 0, 1) := by decide +kernel
theorem dJ7_copyOfRangeByte_39247_19 : decode cJ7_copyOfRangeByte_39247 19 = .ok (.aload_n 0, 1) := by decide +kernel
theorem dJ7_copyOfRangeByte_39247_20 : decode cJ7_copyOfRangeByte_39247 20 = .ok (.arraylength, 1) := by decide +kernel
theorem dJ7_copyOfRangeByte_39247_21 : decode cJ7_copyOfRangeByte_39247 21 = .ok (.iload_n 1, 1) := by decide +kernel
theorem dJ7_copyOfRangeByte_39247_22 : decode cJ7_copyOfRangeByte_39247 22 = .ok (.isub, 1) := by decide +kernel
theorem dJ7_copyOfRangeByte_39247_23 : decode cJ7_copyOfRangeByte_39247 23 = .ok (.iload_n 3, 1) := by decide +kernel
theorem dJ7_copyOfRangeByte_39247_24 : decode cJ7_copyOfRangeByte_39247 24 = .ok (.invokestatic 304, 3) := by decide +kernel
theorem dJ7_copyOfRangeByte_39247_27 : decode cJ7_copyOfRangeByte_39247 27 = .ok (.invokestatic 150, 3) := by decide +kernel
theorem dJ7_copyOfRangeByte_39247_30 : decode cJ7_copyOfRangeByte_39247 30 = .ok (.aload 4, 2) := by decide +kernel
theorem dJ7_copyOfRangeByte_39247_32 : decode cJ7_copyOfRangeByte_39247 32 = .ok (.areturn, 1) := by decide +kernel
set_option maxRecDepth 20000 in
theorem ggJ15_checkIndex_7cf53_J3_checkIndex_8e157 : GoodIn wsJ15_checkIndex_7cf53 wsJ3_checkIndex_8e157 := goodIn_r _ [4] (by decide +kernel) (by decide +kernel)
set_option maxRecDepth 20000 in
theorem gJ15_checkIndex_7cf53_J3_checkIndex_8e157 : GoodIn wsJ15_checkIndex_7cf53 (va_wsS RJ15 105 yJ3_checkIndex_8e157 wsJ3_checkIndex_8e157) := goodIn_app (goodIn_of _ (by decide +kernel)) ggJ15_checkIndex_7cf53_J3_checkIndex_8e157
theorem dJ15_checkIndex_7cf53_0 : decode cJ15_checkIndex_7cf53 0 = .ok (.iload_n 0, 1) := by decide +kernel
theorem dJ15_checkIndex_7cf53_1 : decode cJ15_checkIndex_7cf53 1 = .ok (.iload_n 1, 1) := by decide +kernel
theorem dJ15_checkIndex_7cf53_2 : decode cJ15_checkIndex_7cf53 2 = .ok (.aconst_null, 1) := by decide +kernel
theorem dJ15_checkIndex_7cf53_3 : decode cJ15_checkIndex_7cf53 3 = .ok (.invokestatic 105, 3) := by decide +kernel
theorem dJ15_checkIndex_7cf53_6 : decode cJ15_checkIndex_7cf53 6 = .ok (.ireturn, 1) := by decide +kernel
theorem dJ3_checkIndex_8e157_0 : decode cJ3_checkIndex_8e157 0 = .ok (.iload_n 0, 1) := by decide +kernel
theorem dJ3_checkIndex_8e157_1 : decode cJ3_checkIndex_8e157 1 = .ok (.ifCond .lt 8, 3) := by decide +kernel
theorem dJ3_checkIndex_8e157_4 : decode cJ3_checkIndex_8e157 4 = .ok (.iload_n 0, 1) := by decide +kernel
theorem dJ3_checkIndex_8e157_5 : decode cJ3_checkIndex_8e157 5 = .ok (.iload_n 1, 1) := by decide +kernel
theorem dJ3_checkIndex_8e157_6 : decode cJ3_checkIndex_8e157 6 = .ok (.if_icmp .lt 10, 3) := by decide +kernel
theorem dJ3_checkIndex_8e157_9 : decode cJ3_checkIndex_8e157 9 = .ok (.aload_n 2, 1) := by decide +kernel
theorem dJ3_checkIndex_8e157_10 : decode cJ3_checkIndex_8e157 10 = .ok (.iload_n 0, 1) := by decide +kernel
theorem dJ3_checkIndex_8e157_11 : decode cJ3_checkIndex_8e157 11 = .ok (.iload_n 1, 1) := by decide +kernel
theorem dJ3_checkIndex_8e157_12 : decode cJ3_checkIndex_8e157 12 = .ok (.invokestatic 95, 3) := by decide +kernel
theorem dJ3_checkIndex_8e157_15 : decode cJ3_checkIndex_8e157 15 = .ok (.athrow, 1) := by decide +kernel
theorem dJ3_checkIndex_8e157_16 : decode cJ3_checkIndex_8e157 16 = .ok (.iload_n 0, 1) := by decide +kernel
theorem dJ3_checkIndex_8e157_17 : decode cJ3_checkIndex_8e157 17 = .ok (.ireturn, 1) := by decide +kernel
theorem dJ3_checkFromToIndex_8c36e_0 : decode cJ3_checkFromToIndex_8c36e 0 = .ok (.iload_n 0, 1) := by decide +kernel
theorem dJ3_checkFromToIndex_8c36e_1 : decode cJ3_checkFromToIndex_8c36e 1 = .ok (.ifCond .lt 13, 3) := by decide +kernel
theorem dJ3_checkFromToIndex_8c36e_4 : decode cJ3_checkFromToIndex_8c36e 4 = .ok (.iload_n 0, 1) := by decide +kernel
theorem dJ3_checkFromToIndex_8c36e_5 : decode cJ3_checkFromToIndex_8c36e 5 = .ok (.iload_n 1, 1) := by decide +kernel
theorem dJ3_checkFromToIndex_8c36e_6 : decode cJ3_checkFromToIndex_8c36e 6 = .ok (.if_icmp .gt 8, 3) := by decide +kernel
theorem dJ3_checkFromToIndex_8c36e_9 : decode cJ3_checkFromToIndex_8c36e 9 = .ok (.iload_n 1, 1) := by decide +kernel
theorem dJ3_checkFromToIndex_8c36e_10 : decode cJ3_checkFromToIndex_8c36e 10 = .ok (.iload_n 2, 1) := by decide +kernel
theorem dJ3_checkFromToIndex_8c36e_11 : decode cJ3_checkFromToIndex_8c36e 11 = .ok (.if_icmp .le 11, 3) := by decide +kernel
theorem dJ3_checkFromToIndex_8c36e_14 : decode cJ3_checkFromToIndex_8c36e 14 = .ok (.aload_n 3, 1) := by decide +kernel
theorem dJ3_checkFromToIndex_8c36e_15 : decode cJ3_checkFromToIndex_8c36e 15 = .ok (.iload_n 0, 1) := by decide +kernel
theorem dJ3_checkFromToIndex_8c36e_16 : decode cJ3_checkFromToIndex_8c36e 16 = .ok (.iload_n 1, 1) := by decide +kernel
theorem dJ3_checkFromToIndex_8c36e_17 : decode cJ3_checkFromToIndex_8c36e 17 = .ok (.iload_n 2, 1) := by decide +kernel
theorem dJ3_checkFromToIndex_8c36e_18 : decode cJ3_checkFromToIndex_8c36e 18 = .ok (.invokestatic 99, 3) := by decide +kernel
theorem dJ3_checkFromToIndex_8c36e_21 : decode cJ3_checkFromToIndex_8c36e 21 = .ok (.athrow, 1) := by decide +kernel
theorem dJ3_checkFromToIndex_8c36e_22 : decode cJ3_checkFromToIndex_8c36e 22 = .ok (.iload_n 0, 1) := by decide +kernel
theorem dJ3_checkFromToIndex_8c36e_23 : decode cJ3_checkFromToIndex_8c36e 23 = .ok (.ireturn, 1) := by decide +kernel
set_option maxRecDepth 20000 in
theorem ggL_clear_X3_clear : GoodIn wsL_clear wsX3_clear := goodIn_ca (goodIn_r _ [6, 7, 8, 9, 10, 5, 11, 12, 13, 14, 15, 16, 17, 18, 19, 22, 23, 24, 25, 26, 27, 28, 29, 30, 31, 32] (by decide +kernel) (by decide +kernel)) (goodIn_sub (fun _ h => List.mem_cons_of_mem _ (List.mem_append_right _ h)) (by decide +kernel))
set_option maxRecDepth 20000 in
theorem gL_clear_X3_clear : GoodIn wsL_clear (wsV RL 25 RX3 yX3_clear wsX3_clear) := goodIn_app (goodIn_of _ (by decide +kernel)) ggL_clear_X3_clear
theorem dL_clear_0 : decode cL_clear 0 = .ok (.aload_n 2, 1) := by decide +kernel
theorem dL_clear_1 : decode cL_clear 1 = .ok (.aload_n 0, 1) := by decide +kernel
theorem dL_clear_2 : decode cL_clear 2 = .ok (.iload_n 1, 1) := by decide +kernel
theorem dL_clear_3 : decode cL_clear 3 = .ok (.invokevirtual 25, 3) := by decide +kernel
theorem dL_clear_6 : decode cL_clear 6 = .ok (.i2l, 1) := by decide +kernel
theorem dL_clear_7 : decode cL_clear 7 = .ok (.putfield 13, 3) := by decide +kernel
theorem dL_clear_10 : decode cL_clear 10 = .ok (.goto 6, 3) := by decide +kernel
theorem dL_clear_13 : decode cL_clear 13 = .ok (.astore_n 3, 1) := by decide +kernel
theorem dL_clear_14 : decode cL_clear 14 = .ok (.iconst 1, 1) := by decide +kernel
theorem dL_clear_15 : decode cL_clear 15 = .ok (.ireturn, 1) := by decide +kernel
theorem dL_clear_16 : decode cL_clear 16 = .ok (.iconst 0, 1) := by decide +kernel
theorem dL_clear_17 : decode cL_clear 17 = .ok (.ireturn, 1) := by decide +kernel
set_option maxRecDepth 20000 in
theorem ggL_copy_X3_copy : GoodIn wsL_copy wsX3_copy := goodIn_ca (goodIn_r _ [6, 7, 8, 9, 10, 5, 11, 12, 13, 14, 15, 16, 17, 18, 19, 20, 21, 22, 23, 24, 27, 28, 29, 30, 31, 32, 33, 34, 35, 36, 37] (by decide +kernel) (by decide +kernel)) (goodIn_sub (fun _ h => List.mem_cons_of_mem _ (List.mem_append_right _ h)) (by decide +kernel))
set_option maxRecDepth 20000 in
theorem gL_copy_X3_copy : GoodIn wsL_copy (wsV RL 29 RX3 yX3_copy wsX3_copy) := goodIn_app (goodIn_of _ (by decide +kernel)) ggL_copy_X3_copy
theorem dL_copy_0 : decode cL_copy 0 = .ok (.aload_n 3, 1) := by decide +kernel
theorem dL_copy_1 : decode cL_copy 1 = .ok (.aload_n 0, 1) := by decide +kernel
theorem dL_copy_2 : decode cL_copy 2 = .ok (.iload_n 1, 1) := by decide +kernel
theorem dL_copy_3 : decode cL_copy 3 = .ok (.iload_n 2, 1) := by decide +kernel
theorem dL_copy_4 : decode cL_copy 4 = .ok (.invokevirtual 29, 3) := by decide +kernel
theorem dL_copy_7 : decode cL_copy 7 = .ok (.i2l, 1) := by decide +kernel
theorem dL_copy_8 : decode cL_copy 8 = .ok (.putfield 13, 3) := by decide +kernel
theorem dL_copy_11 : decode cL_copy 11 = .ok (.goto 7, 3) := by decide +kernel
theorem dL_copy_14 : decode cL_copy 14 = .ok (.astore 4, 2) := by decide +kernel
theorem dL_copy_16 : decode cL_copy 16 = .ok (.iconst 1, 1) := by decide +kernel
theorem dL_copy_17 : decode cL_copy 17 = .ok (.ireturn, 1) := by decide +kernel
theorem dL_copy_18 : decode cL_copy 18 = .ok (.iconst 0, 1) := by decide +kernel
theorem dL_copy_19 : decode cL_copy 19 = .ok (.ireturn, 1) := by decide +kernel
set_option maxRecDepth 20000 in
theorem ggL_lay_X3_lay : GoodIn wsL_lay wsX3_lay := goodIn_ca (goodIn_r _ [6, 7, 8, 9, 10, 11, 5, 12, 13, 14, 15, 16, 17, 18, 19, 20, 21, 22, 23, 24, 25, 26, 27, 28, 29, 30, 31, 32, 33, 34, 35, 36, 37, 40, 41, 42, 43, 44, 45, 46, 47, 48, 49, 50] (by decide +kernel) (by decide +kernel)) (goodIn_sub (fun _ h => List.mem_cons_of_mem _ (List.mem_append_right _ h)) (by decide +kernel))
set_option maxRecDepth 20000 in
theorem gL_lay_X3_lay : GoodIn wsL_lay (wsV RL 33 RX3 yX3_lay wsX3_lay) := goodIn_app (goodIn_of _ (by decide +kernel)) ggL_lay_X3_lay
theorem dL_lay_0 : decode cL_lay 0 = .ok (.aload 4, 2) := by decide +kernel
theorem dL_lay_2 : decode cL_lay 2 = .ok (.aload_n 0, 1) := by decide +kernel
theorem dL_lay_3 : decode cL_lay 3 = .ok (.iload_n 1, 1) := by decide +kernel
theorem dL_lay_4 : decode cL_lay 4 = .ok (.iload_n 2, 1) := by decide +kernel
theorem dL_lay_5 : decode cL_lay 5 = .ok (.iload_n 3, 1) := by decide +kernel
theorem dL_lay_6 : decode cL_lay 6 = .ok (.invokevirtual 33, 3) := by decide +kernel
theorem dL_lay_9 : decode cL_lay 9 = .ok (.i2l, 1) := by decide +kernel
theorem dL_lay_10 : decode cL_lay 10 = .ok (.putfield 13, 3) := by decide +kernel
theorem dL_lay_13 : decode cL_lay 13 = .ok (.goto 7, 3) := by decide +kernel
theorem dL_lay_16 : decode cL_lay 16 = .ok (.astore 5, 2) := by decide +kernel
theorem dL_lay_18 : decode cL_lay 18 = .ok (.iconst 1, 1) := by decide +kernel
theorem dL_lay_19 : decode cL_lay 19 = .ok (.ireturn, 1) := by decide +kernel
theorem dL_lay_20 : decode cL_lay 20 = .ok (.iconst 0, 1) := by decide +kernel
theorem dL_lay_21 : decode cL_lay 21 = .ok (.ireturn, 1) := by decide +kernel
set_option maxRecDepth 20000 in
theorem ggL_cut_X3_cut : GoodIn wsL_cut wsX3_cut := goodIn_ca (goodIn_ca (goodIn_r _ [7, 8, 9, 10, 11, 12, 13, 14, 6, 15, 16, 17, 18, 19, 20, 21, 22, 23, 24, 25, 26, 27, 28, 29, 30, 31, 32, 33, 34, 35, 38, 39, 40, 41, 42, 43, 44, 45, 46, 47, 48] (by decide +kernel) (by decide +kernel)) (goodIn_sub (fun _ h => List.mem_cons_of_mem _ (List.mem_append_left _ (List.mem_append_right _ h))) (by decide +kernel))) (goodIn_sub (fun _ h => List.mem_cons_of_mem _ (List.mem_append_right _ h)) (by decide +kernel))
set_option maxRecDepth 20000 in
theorem gL_cut_X3_cut : GoodIn wsL_cut (wsV RL 37 RX3 yX3_cut wsX3_cut) := goodIn_app (goodIn_of _ (by decide +kernel)) ggL_cut_X3_cut
theorem dL_cut_0 : decode cL_cut 0 = .ok (.aload 4, 2) := by decide +kernel
theorem dL_cut_2 : decode cL_cut 2 = .ok (.aload_n 0, 1) := by decide +kernel
theorem dL_cut_3 : decode cL_cut 3 = .ok (.iload_n 1, 1) := by decide +kernel
theorem dL_cut_4 : decode cL_cut 4 = .ok (.iload_n 2, 1) := by decide +kernel
theorem dL_cut_5 : decode cL_cut 5 = .ok (.iload_n 3, 1) := by decide +kernel
theorem dL_cut_6 : decode cL_cut 6 = .ok (.invokevirtual 37, 3) := by decide +kernel
theorem dL_cut_9 : decode cL_cut 9 = .ok (.i2l, 1) := by decide +kernel
theorem dL_cut_10 : decode cL_cut 10 = .ok (.putfield 13, 3) := by decide +kernel
theorem dL_cut_13 : decode cL_cut 13 = .ok (.goto 11, 3) := by decide +kernel
theorem dL_cut_16 : decode cL_cut 16 = .ok (.astore 5, 2) := by decide +kernel
theorem dL_cut_18 : decode cL_cut 18 = .ok (.iconst 1, 1) := by decide +kernel
theorem dL_cut_19 : decode cL_cut 19 = .ok (.ireturn, 1) := by decide +kernel
theorem dL_cut_20 : decode cL_cut 20 = .ok (.astore 5, 2) := by decide +kernel
theorem dL_cut_22 : decode cL_cut 22 = .ok (.iconst 2, 1) := by decide +kernel
theorem dL_cut_23 : decode cL_cut 23 = .ok (.ireturn, 1) := by decide +kernel
theorem dL_cut_24 : decode cL_cut 24 = .ok (.iconst 0, 1) := by decide +kernel
theorem dL_cut_25 : decode cL_cut 25 = .ok (.ireturn, 1) := by decide +kernel
set_option maxRecDepth 20000 in
theorem ggL_turn_X3_turn : GoodIn wsL_turn wsX3_turn := goodIn_ca (goodIn_r _ [6, 7, 8, 9, 10, 5, 11, 12, 13, 14, 15, 16, 17, 18, 19, 20, 23, 24, 25, 26, 27, 28, 29, 30, 31, 32, 33] (by decide +kernel) (by decide +kernel)) (goodIn_sub (fun _ h => List.mem_cons_of_mem _ (List.mem_append_right _ h)) (by decide +kernel))
set_option maxRecDepth 20000 in
theorem gL_turn_X3_turn : GoodIn wsL_turn (wsV RL 40 RX3 yX3_turn wsX3_turn) := goodIn_app (goodIn_of _ (by decide +kernel)) ggL_turn_X3_turn
theorem dL_turn_0 : decode cL_turn 0 = .ok (.aload_n 2, 1) := by decide +kernel
theorem dL_turn_1 : decode cL_turn 1 = .ok (.aload_n 0, 1) := by decide +kernel
theorem dL_turn_2 : decode cL_turn 2 = .ok (.iload_n 1, 1) := by decide +kernel
theorem dL_turn_3 : decode cL_turn 3 = .ok (.invokevirtual 40, 3) := by decide +kernel
theorem dL_turn_6 : decode cL_turn 6 = .ok (.i2l, 1) := by decide +kernel
theorem dL_turn_7 : decode cL_turn 7 = .ok (.putfield 13, 3) := by decide +kernel
theorem dL_turn_10 : decode cL_turn 10 = .ok (.goto 6, 3) := by decide +kernel
theorem dL_turn_13 : decode cL_turn 13 = .ok (.astore_n 3, 1) := by decide +kernel
theorem dL_turn_14 : decode cL_turn 14 = .ok (.iconst 1, 1) := by decide +kernel
theorem dL_turn_15 : decode cL_turn 15 = .ok (.ireturn, 1) := by decide +kernel
theorem dL_turn_16 : decode cL_turn 16 = .ok (.iconst 0, 1) := by decide +kernel
theorem dL_turn_17 : decode cL_turn 17 = .ok (.ireturn, 1) := by decide +kernel
set_option maxRecDepth 20000 in
theorem ggL_text_X3_text : GoodIn wsL_text wsX3_text := goodIn_ca (goodIn_r _ [6, 7, 8, 9, 5, 10, 11, 12, 13, 14, 15, 16, 17, 18, 19, 20, 21, 22, 23, 24, 25, 26, 27, 28, 29, 30, 31, 32, 33, 34, 35, 36, 37, 38, 39, 40, 41, 42, 43, 44, 45, 46, 47, 48, 49, 50, 51, 52, 53, 54, 55, 56, 57, 58, 59, 60, 61, 62, 63, 64, 65, 66, 67, 68, 69, 70, 71, 72, 73, 74, 75, 76, 77, 78, 79, 80, 81, 82, 83, 84, 85, 86, 87, 88, 89, 90, 91, 92, 93, 94, 95, 96, 97, 98, 99, 100, 101, 102, 103, 104, 105, 106, 107, 108, 109, 110, 111, 112, 113, 114, 115, 116, 117, 118, 119, 120, 121, 122, 123, 124, 125, 126, 127, 128, 129, 130, 131, 132, 133, 134, 135, 136, 137, 138, 139, 140, 141, 142, 143, 144, 145, 146, 147, 148, 149, 150, 151, 152, 153, 154, 155, 156, 157, 158, 159, 160, 161, 162, 163, 164, 165, 166, 167, 168, 169, 170, 171, 172, 173, 174, 175, 176, 177, 178, 179, 180, 181, 182, 183, 184, 185, 186, 187, 188, 189, 190, 191, 192, 193, 194, 195, 196, 197, 198, 199, 200, 201, 202, 203, 204, 205, 206, 209, 210, 211, 212, 213, 214, 215, 216, 217, 218, 219, 220, 221, 222, 223, 224, 225, 226, 227] (by decide +kernel) (by decide +kernel)) (goodIn_sub (fun _ h => List.mem_cons_of_mem _ (List.mem_append_right _ h)) (by decide +kernel))
set_option maxRecDepth 20000 in
theorem gL_text_X3_text : GoodIn wsL_text (wsV RL 43 RX3 yX3_text wsX3_text) := goodIn_app (goodIn_of _ (by decide +kernel)) ggL_text_X3_text
theorem dL_text_0 : decode cL_text 0 = .ok (.aload_n 2, 1) := by decide +kernel
theorem dL_text_1 : decode cL_text 1 = .ok (.aload_n 0, 1) := by decide +kernel
theorem dL_text_2 : decode cL_text 2 = .ok (.iload_n 1, 1) := by decide +kernel
theorem dL_text_3 : decode cL_text 3 = .ok (.invokevirtual 43, 3) := by decide +kernel
theorem dL_text_6 : decode cL_text 6 = .ok (.putfield 47, 3) := by decide +kernel
theorem dL_text_9 : decode cL_text 9 = .ok (.goto 6, 3) := by decide +kernel
theorem dL_text_12 : decode cL_text 12 = .ok (.astore_n 3, 1) := by decide +kernel
theorem dL_text_13 : decode cL_text 13 = .ok (.iconst 1, 1) := by decide +kernel
theorem dL_text_14 : decode cL_text 14 = .ok (.ireturn, 1) := by decide +kernel
theorem dL_text_15 : decode cL_text 15 = .ok (.iconst 0, 1) := by decide +kernel
theorem dL_text_16 : decode cL_text 16 = .ok (.ireturn, 1) := by decide +kernel
set_option maxRecDepth 20000 in
theorem ggL_order_X3_order : GoodIn wsL_order wsX3_order := goodIn_ca (goodIn_r _ [6, 7, 8, 9, 5, 10, 11, 12, 13, 14, 15, 16, 17, 18, 19, 22, 23, 24, 25, 26, 27, 28, 29, 30, 31, 32] (by decide +kernel) (by decide +kernel)) (goodIn_sub (fun _ h => List.mem_cons_of_mem _ (List.mem_append_right _ h)) (by decide +kernel))
set_option maxRecDepth 20000 in
theorem gL_order_X3_order : GoodIn wsL_order (wsV RL 51 RX3 yX3_order wsX3_order) := goodIn_app (goodIn_of _ (by decide +kernel)) ggL_order_X3_order
theorem dL_order_0 : decode cL_order 0 = .ok (.aload_n 3, 1) := by decide +kernel
theorem dL_order_1 : decode cL_order 1 = .ok (.aload_n 0, 1) := by decide +kernel
theorem dL_order_2 : decode cL_order 2 = .ok (.iload_n 1, 1) := by decide +kernel
theorem dL_order_3 : decode cL_order 3 = .ok (.iload_n 2, 1) := by decide +kernel
theorem dL_order_4 : decode cL_order 4 = .ok (.invokevirtual 51, 3) := by decide +kernel
theorem dL_order_7 : decode cL_order 7 = .ok (.i2l, 1) := by decide +kernel
theorem dL_order_8 : decode cL_order 8 = .ok (.putfield 13, 3) := by decide +kernel
theorem dL_order_11 : decode cL_order 11 = .ok (.goto 7, 3) := by decide +kernel
theorem dL_order_14 : decode cL_order 14 = .ok (.astore 4, 2) := by decide +kernel
theorem dL_order_16 : decode cL_order 16 = .ok (.iconst 1, 1) := by decide +kernel
theorem dL_order_17 : decode cL_order 17 = .ok (.ireturn, 1) := by decide +kernel
theorem dL_order_18 : decode cL_order 18 = .ok (.iconst 0, 1) := by decide +kernel
theorem dL_order_19 : decode cL_order 19 = .ok (.ireturn, 1) := by decide +kernel
set_option maxRecDepth 20000 in
theorem ggL_count_X3_count : GoodIn wsL_count wsX3_count := goodIn_ca (goodIn_r _ [6, 7, 8, 9, 10, 5, 11, 12, 13, 14, 15, 16, 17, 18, 19, 20, 23, 24, 25, 26, 27, 28, 29, 30, 31, 32, 33] (by decide +kernel) (by decide +kernel)) (goodIn_sub (fun _ h => List.mem_cons_of_mem _ (List.mem_append_right _ h)) (by decide +kernel))
set_option maxRecDepth 20000 in
theorem gL_count_X3_count : GoodIn wsL_count (wsV RL 54 RX3 yX3_count wsX3_count) := goodIn_app (goodIn_of _ (by decide +kernel)) ggL_count_X3_count
theorem dL_count_0 : decode cL_count 0 = .ok (.aload_n 3, 1) := by decide +kernel
theorem dL_count_1 : decode cL_count 1 = .ok (.aload_n 0, 1) := by decide +kernel
theorem dL_count_2 : decode cL_count 2 = .ok (.iload_n 1, 1) := by decide +kernel
theorem dL_count_3 : decode cL_count 3 = .ok (.iload_n 2, 1) := by decide +kernel
theorem dL_count_4 : decode cL_count 4 = .ok (.invokevirtual 54, 3) := by decide +kernel
theorem dL_count_7 : decode cL_count 7 = .ok (.i2l, 1) := by decide +kernel
theorem dL_count_8 : decode cL_count 8 = .ok (.putfield 13, 3) := by decide +kernel
theorem dL_count_11 : decode cL_count 11 = .ok (.goto 7, 3) := by decide +kernel
theorem dL_count_14 : decode cL_count 14 = .ok (.astore 4, 2) := by decide +kernel
theorem dL_count_16 : decode cL_count 16 = .ok (.iconst 1, 1) := by decide +kernel
theorem dL_count_17 : decode cL_count 17 = .ok (.ireturn, 1) := by decide +kernel
theorem dL_count_18 : decode cL_count 18 = .ok (.iconst 0, 1) := by decide +kernel
theorem dL_count_19 : decode cL_count 19 = .ok (.ireturn, 1) := by decide +kernel
set_option maxRecDepth 20000 in
theorem ggL_find_X3_find : GoodIn wsL_find wsX3_find := goodIn_ca (goodIn_r _ [6, 7, 8, 9, 10, 5, 11, 12, 13, 14, 15, 16, 17, 18, 19, 20, 23, 24, 25, 26, 27, 28, 29, 30, 31, 32, 33] (by decide +kernel) (by decide +kernel)) (goodIn_sub (fun _ h => List.mem_cons_of_mem _ (List.mem_append_right _ h)) (by decide +kernel))
set_option maxRecDepth 20000 in
theorem gL_find_X3_find : GoodIn wsL_find (wsV RL 57 RX3 yX3_find wsX3_find) := goodIn_app (goodIn_of _ (by decide +kernel)) ggL_find_X3_find
theorem dL_find_0 : decode cL_find 0 = .ok (.aload 4, 2) := by decide +kernel
theorem dL_find_2 : decode cL_find 2 = .ok (.aload_n 0, 1) := by decide +kernel
theorem dL_find_3 : decode cL_find 3 = .ok (.iload_n 1, 1) := by decide +kernel
theorem dL_find_4 : decode cL_find 4 = .ok (.iload_n 2, 1) := by decide +kernel
theorem dL_find_5 : decode cL_find 5 = .ok (.iload_n 3, 1) := by decide +kernel
theorem dL_find_6 : decode cL_find 6 = .ok (.invokevirtual 57, 3) := by decide +kernel
theorem dL_find_9 : decode cL_find 9 = .ok (.i2l, 1) := by decide +kernel
theorem dL_find_10 : decode cL_find 10 = .ok (.putfield 13, 3) := by decide +kernel
theorem dL_find_13 : decode cL_find 13 = .ok (.goto 7, 3) := by decide +kernel
theorem dL_find_16 : decode cL_find 16 = .ok (.astore 5, 2) := by decide +kernel
theorem dL_find_18 : decode cL_find 18 = .ok (.iconst 1, 1) := by decide +kernel
theorem dL_find_19 : decode cL_find 19 = .ok (.ireturn, 1) := by decide +kernel
theorem dL_find_20 : decode cL_find 20 = .ok (.iconst 0, 1) := by decide +kernel
theorem dL_find_21 : decode cL_find 21 = .ok (.ireturn, 1) := by decide +kernel
set_option maxRecDepth 20000 in
theorem ggL_rule_X3_rule : GoodIn wsL_rule wsX3_rule := goodIn_ca (goodIn_r _ [6, 7, 8, 9, 5, 10, 11, 12, 13, 14, 15, 16, 17, 18, 19, 20, 21, 22, 23, 24, 25, 26, 27, 28, 29, 30, 31, 32, 33, 34, 35, 36, 37, 38, 39, 40, 41, 42, 43, 44, 47, 48, 49, 50, 51, 52, 53, 54, 55, 56, 57, 58, 59, 60, 61, 62, 63, 64, 65] (by decide +kernel) (by decide +kernel)) (goodIn_sub (fun _ h => List.mem_cons_of_mem _ (List.mem_append_right _ h)) (by decide +kernel))
set_option maxRecDepth 20000 in
theorem gL_rule_X3_rule : GoodIn wsL_rule (wsV RL 61 RX3 yX3_rule wsX3_rule) := goodIn_app (goodIn_of _ (by decide +kernel)) ggL_rule_X3_rule
theorem dL_rule_0 : decode cL_rule 0 = .ok (.aload_n 3, 1) := by decide +kernel
theorem dL_rule_1 : decode cL_rule 1 = .ok (.aload_n 0, 1) := by decide +kernel
theorem dL_rule_2 : decode cL_rule 2 = .ok (.iload_n 1, 1) := by decide +kernel
theorem dL_rule_3 : decode cL_rule 3 = .ok (.iload_n 2, 1) := by decide +kernel
theorem dL_rule_4 : decode cL_rule 4 = .ok (.invokevirtual 61, 3) := by decide +kernel
theorem dL_rule_7 : decode cL_rule 7 = .ok (.i2l, 1) := by decide +kernel
theorem dL_rule_8 : decode cL_rule 8 = .ok (.putfield 13, 3) := by decide +kernel
theorem dL_rule_11 : decode cL_rule 11 = .ok (.goto 7, 3) := by decide +kernel
theorem dL_rule_14 : decode cL_rule 14 = .ok (.astore 4, 2) := by decide +kernel
theorem dL_rule_16 : decode cL_rule 16 = .ok (.iconst 1, 1) := by decide +kernel
theorem dL_rule_17 : decode cL_rule 17 = .ok (.ireturn, 1) := by decide +kernel
theorem dL_rule_18 : decode cL_rule 18 = .ok (.iconst 0, 1) := by decide +kernel
theorem dL_rule_19 : decode cL_rule 19 = .ok (.ireturn, 1) := by decide +kernel
set_option maxRecDepth 20000 in
theorem ggL_falling_X3_falling : GoodIn wsL_falling wsX3_falling := goodIn_ca (goodIn_r _ [6, 7, 8, 9, 5, 10, 11, 12, 13, 14, 15, 16, 17, 18, 19, 20, 21, 22, 23, 24, 25, 26, 27, 28, 29, 30, 31, 32, 33, 34, 35, 36, 37, 38, 39, 40, 41, 42, 43, 44, 45, 46, 47, 48, 49, 50, 51, 52, 55, 56, 57, 58, 59, 60, 61, 62, 63, 64, 65, 66, 67, 68, 69, 70, 71, 72, 73] (by decide +kernel) (by decide +kernel)) (goodIn_sub (fun _ h => List.mem_cons_of_mem _ (List.mem_append_right _ h)) (by decide +kernel))
set_option maxRecDepth 20000 in
theorem gL_falling_X3_falling : GoodIn wsL_falling (wsV RL 64 RX3 yX3_falling wsX3_falling) := goodIn_app (goodIn_of _ (by decide +kernel)) ggL_falling_X3_falling
theorem dL_falling_0 : decode cL_falling 0 = .ok (.aload_n 3, 1) := by decide +kernel
theorem dL_falling_1 : decode cL_falling 1 = .ok (.aload_n 0, 1) := by decide +kernel
theorem dL_falling_2 : decode cL_falling 2 = .ok (.iload_n 1, 1) := by decide +kernel
theorem dL_falling_3 : decode cL_falling 3 = .ok (.iload_n 2, 1) := by decide +kernel
theorem dL_falling_4 : decode cL_falling 4 = .ok (.invokevirtual 64, 3) := by decide +kernel
theorem dL_falling_7 : decode cL_falling 7 = .ok (.i2l, 1) := by decide +kernel
theorem dL_falling_8 : decode cL_falling 8 = .ok (.putfield 13, 3) := by decide +kernel
theorem dL_falling_11 : decode cL_falling 11 = .ok (.goto 7, 3) := by decide +kernel
theorem dL_falling_14 : decode cL_falling 14 = .ok (.astore 4, 2) := by decide +kernel
theorem dL_falling_16 : decode cL_falling 16 = .ok (.iconst 1, 1) := by decide +kernel
theorem dL_falling_17 : decode cL_falling 17 = .ok (.ireturn, 1) := by decide +kernel
theorem dL_falling_18 : decode cL_falling 18 = .ok (.iconst 0, 1) := by decide +kernel
theorem dL_falling_19 : decode cL_falling 19 = .ok (.ireturn, 1) := by decide +kernel
set_option maxRecDepth 20000 in
theorem ggL_drop_X3_drop : GoodIn wsL_drop wsX3_drop := goodIn_ca (goodIn_r _ [6, 7, 8, 9, 10, 11, 5, 12, 13, 14, 15, 16, 17, 18, 19, 20, 21, 22, 23, 24, 25, 26, 27, 28, 29, 30, 31, 32, 33, 34, 37, 38, 39, 40, 41, 42, 43, 44, 45, 46, 47, 48, 49, 50, 51, 52, 53, 54, 55] (by decide +kernel) (by decide +kernel)) (goodIn_sub (fun _ h => List.mem_cons_of_mem _ (List.mem_append_right _ h)) (by decide +kernel))
set_option maxRecDepth 20000 in
theorem gL_drop_X3_drop : GoodIn wsL_drop (wsV RL 67 RX3 yX3_drop wsX3_drop) := goodIn_app (goodIn_of _ (by decide +kernel)) ggL_drop_X3_drop
theorem dL_drop_0 : decode cL_drop 0 = .ok (.aload_n 2, 1) := by decide +kernel
theorem dL_drop_1 : decode cL_drop 1 = .ok (.aload_n 0, 1) := by decide +kernel
theorem dL_drop_2 : decode cL_drop 2 = .ok (.iload_n 1, 1) := by decide +kernel
theorem dL_drop_3 : decode cL_drop 3 = .ok (.invokevirtual 67, 3) := by decide +kernel
theorem dL_drop_6 : decode cL_drop 6 = .ok (.i2l, 1) := by decide +kernel
theorem dL_drop_7 : decode cL_drop 7 = .ok (.putfield 13, 3) := by decide +kernel
theorem dL_drop_10 : decode cL_drop 10 = .ok (.goto 6, 3) := by decide +kernel
theorem dL_drop_13 : decode cL_drop 13 = .ok (.astore_n 3, 1) := by decide +kernel
theorem dL_drop_14 : decode cL_drop 14 = .ok (.iconst 1, 1) := by decide +kernel
theorem dL_drop_15 : decode cL_drop 15 = .ok (.ireturn, 1) := by decide +kernel
theorem dL_drop_16 : decode cL_drop 16 = .ok (.iconst 0, 1) := by decide +kernel
theorem dL_drop_17 : decode cL_drop 17 = .ok (.ireturn, 1) := by decide +kernel
set_option maxRecDepth 20000 in
theorem ggL_flip_X3_flip : GoodIn wsL_flip wsX3_flip := goodIn_ca (goodIn_r _ [6, 7, 8, 9, 10, 11, 12, 5, 13, 14, 15, 16, 17, 18, 19, 20, 21, 22, 23, 24, 25, 26, 27, 28, 29, 30, 31, 32, 33, 34, 35, 36, 37, 38, 39, 40, 41, 42, 43, 44, 45, 46, 47, 48, 49, 52, 53, 54, 55, 56, 57, 58, 59, 60, 61, 62, 63, 64, 65, 66, 67, 68, 69, 70] (by decide +kernel) (by decide +kernel)) (goodIn_sub (fun _ h => List.mem_cons_of_mem _ (List.mem_append_right _ h)) (by decide +kernel))
set_option maxRecDepth 20000 in
theorem gL_flip_X3_flip : GoodIn wsL_flip (wsV RL 70 RX3 yX3_flip wsX3_flip) := goodIn_app (goodIn_of _ (by decide +kernel)) ggL_flip_X3_flip
theorem dL_flip_0 : decode cL_flip 0 = .ok (.aload_n 2, 1) := by decide +kernel
theorem dL_flip_1 : decode cL_flip 1 = .ok (.aload_n 0, 1) := by decide +kernel
theorem dL_flip_2 : decode cL_flip 2 = .ok (.iload_n 1, 1) := by decide +kernel
theorem dL_flip_3 : decode cL_flip 3 = .ok (.invokevirtual 70, 3) := by decide +kernel
theorem dL_flip_6 : decode cL_flip 6 = .ok (.i2l, 1) := by decide +kernel
theorem dL_flip_7 : decode cL_flip 7 = .ok (.putfield 13, 3) := by decide +kernel
theorem dL_flip_10 : decode cL_flip 10 = .ok (.goto 6, 3) := by decide +kernel
theorem dL_flip_13 : decode cL_flip 13 = .ok (.astore_n 3, 1) := by decide +kernel
theorem dL_flip_14 : decode cL_flip 14 = .ok (.iconst 1, 1) := by decide +kernel
theorem dL_flip_15 : decode cL_flip 15 = .ok (.ireturn, 1) := by decide +kernel
theorem dL_flip_16 : decode cL_flip 16 = .ok (.iconst 0, 1) := by decide +kernel
theorem dL_flip_17 : decode cL_flip 17 = .ok (.ireturn, 1) := by decide +kernel
set_option maxRecDepth 20000 in
theorem ggL_side_X3_side : GoodIn wsL_side wsX3_side := goodIn_ca (goodIn_r _ [6, 7, 8, 9, 10, 11, 12, 13, 5, 14, 15, 16, 17, 18, 19, 20, 21, 22, 23, 24, 25, 26, 27, 28, 29, 30, 31, 32, 35, 36, 37, 38, 39, 40, 41, 42, 43, 44, 45, 46, 47, 48, 49, 50, 51, 52, 53] (by decide +kernel) (by decide +kernel)) (goodIn_sub (fun _ h => List.mem_cons_of_mem _ (List.mem_append_right _ h)) (by decide +kernel))
set_option maxRecDepth 20000 in
theorem gL_side_X3_side : GoodIn wsL_side (wsV RL 73 RX3 yX3_side wsX3_side) := goodIn_app (goodIn_of _ (by decide +kernel)) ggL_side_X3_side
theorem dL_side_0 : decode cL_side 0 = .ok (.aload 4, 2) := by decide +kernel
theorem dL_side_2 : decode cL_side 2 = .ok (.aload_n 0, 1) := by decide +kernel
theorem dL_side_3 : decode cL_side 3 = .ok (.iload_n 1, 1) := by decide +kernel
theorem dL_side_4 : decode cL_side 4 = .ok (.iload_n 2, 1) := by decide +kernel
theorem dL_side_5 : decode cL_side 5 = .ok (.iload_n 3, 1) := by decide +kernel
theorem dL_side_6 : decode cL_side 6 = .ok (.invokevirtual 73, 3) := by decide +kernel
theorem dL_side_9 : decode cL_side 9 = .ok (.i2l, 1) := by decide +kernel
theorem dL_side_10 : decode cL_side 10 = .ok (.putfield 13, 3) := by decide +kernel
theorem dL_side_13 : decode cL_side 13 = .ok (.goto 7, 3) := by decide +kernel
theorem dL_side_16 : decode cL_side 16 = .ok (.astore 5, 2) := by decide +kernel
theorem dL_side_18 : decode cL_side 18 = .ok (.iconst 1, 1) := by decide +kernel
theorem dL_side_19 : decode cL_side 19 = .ok (.ireturn, 1) := by decide +kernel
theorem dL_side_20 : decode cL_side 20 = .ok (.iconst 0, 1) := by decide +kernel
theorem dL_side_21 : decode cL_side 21 = .ok (.ireturn, 1) := by decide +kernel
set_option maxRecDepth 20000 in
theorem ggL_ruleText_X3_ruleText : GoodIn wsL_ruleText wsX3_ruleText := goodIn_ca (goodIn_r _ [6, 7, 8, 9, 10, 11, 12, 13, 14, 15, 5, 16, 17, 18, 19, 20, 21, 22, 23, 24, 25, 26, 27, 28, 29, 30, 31, 32, 33, 34, 35, 36, 37, 38, 39, 40, 41, 42, 43, 44, 45, 46, 47, 48, 49, 50, 51, 52, 53, 54, 55, 56, 57, 58, 59, 60, 61, 62, 63, 64, 65, 66, 67, 68, 69, 70, 71, 72, 73, 74, 75, 76, 77, 78, 79, 80, 81, 82, 83, 84, 85, 86, 87, 88, 89, 90, 91, 92, 93, 94, 95, 96, 97, 98, 99, 100, 101, 102, 103, 104, 105, 106, 107, 108, 109, 110, 111, 112, 113, 114, 115, 116, 117, 118, 119, 120, 121, 122, 123, 124, 125, 126, 127, 128, 129, 130, 131, 132, 133, 134, 135, 136, 137, 138, 139, 140, 141, 142, 143, 144, 145, 146, 147, 148, 149, 150, 151, 152, 153, 154, 155, 156, 157, 158, 159, 160, 161, 162, 163, 164, 165, 166, 167, 168, 169, 170, 171, 172, 173, 174, 175, 176, 177, 178, 179, 180, 181, 182, 183, 184, 185, 186, 187, 188, 189, 190, 191, 192, 193, 194, 195, 196, 197, 198, 199, 200, 201, 202, 203, 204, 205, 206, 207, 210, 211, 212, 213, 214, 215, 216, 217, 218, 219, 220, 221, 222, 223, 224, 225, 226, 227, 228, 229, 230, 231, 232, 233, 234, 235, 236] (by decide +kernel) (by decide +kernel)) (goodIn_sub (fun _ h => List.mem_cons_of_mem _ (List.mem_append_right _ h)) (by decide +kernel))
set_option maxRecDepth 20000 in
theorem gL_ruleText_X3_ruleText : GoodIn wsL_ruleText (wsV RL 76 RX3 yX3_ruleText wsX3_ruleText) := goodIn_app (goodIn_of _ (by decide +kernel)) ggL_ruleText_X3_ruleText
theorem dL_ruleText_0 : decode cL_ruleText 0 = .ok (.aload_n 2, 1) := by decide +kernel
theorem dL_ruleText_1 : decode cL_ruleText 1 = .ok (.aload_n 0, 1) := by decide +kernel
theorem dL_ruleText_2 : decode cL_ruleText 2 = .ok (.iload_n 1, 1) := by decide +kernel
theorem dL_ruleText_3 : decode cL_ruleText 3 = .ok (.invokevirtual 76, 3) := by decide +kernel
theorem dL_ruleText_6 : decode cL_ruleText 6 = .ok (.putfield 47, 3) := by decide +kernel
theorem dL_ruleText_9 : decode cL_ruleText 9 = .ok (.goto 6, 3) := by decide +kernel
theorem dL_ruleText_12 : decode cL_ruleText 12 = .ok (.astore_n 3, 1) := by decide +kernel
theorem dL_ruleText_13 : decode cL_ruleText 13 = .ok (.iconst 1, 1) := by decide +kernel
theorem dL_ruleText_14 : decode cL_ruleText 14 = .ok (.ireturn, 1) := by decide +kernel
theorem dL_ruleText_15 : decode cL_ruleText 15 = .ok (.iconst 0, 1) := by decide +kernel
theorem dL_ruleText_16 : decode cL_ruleText 16 = .ok (.ireturn, 1) := by decide +kernel
set_option maxRecDepth 20000 in
theorem ggL_falls_X3_falls : GoodIn wsL_falls wsX3_falls := goodIn_ca (goodIn_r _ [6, 7, 8, 9, 10, 5, 11, 12, 13, 14, 15, 16, 17, 18, 19, 20, 21, 22, 23, 24, 25, 26, 27, 28, 31, 32, 33, 34, 35, 36, 37, 38, 39, 40, 41, 42, 43, 44, 45, 46, 47, 48, 49] (by decide +kernel) (by decide +kernel)) (goodIn_sub (fun _ h => List.mem_cons_of_mem _ (List.mem_append_right _ h)) (by decide +kernel))
set_option maxRecDepth 20000 in
theorem gL_falls_X3_falls : GoodIn wsL_falls (wsV RL 79 RX3 yX3_falls wsX3_falls) := goodIn_app (goodIn_of _ (by decide +kernel)) ggL_falls_X3_falls
theorem dL_falls_0 : decode cL_falls 0 = .ok (.aload_n 2, 1) := by decide +kernel
theorem dL_falls_1 : decode cL_falls 1 = .ok (.aload_n 0, 1) := by decide +kernel
theorem dL_falls_2 : decode cL_falls 2 = .ok (.iload_n 1, 1) := by decide +kernel
theorem dL_falls_3 : decode cL_falls 3 = .ok (.invokevirtual 79, 3) := by decide +kernel
theorem dL_falls_6 : decode cL_falls 6 = .ok (.ifCond .eq 7, 3) := by decide +kernel
theorem dL_falls_9 : decode cL_falls 9 = .ok (.lconst 1, 1) := by decide +kernel
theorem dL_falls_10 : decode cL_falls 10 = .ok (.goto 4, 3) := by decide +kernel
theorem dL_falls_13 : decode cL_falls 13 = .ok (.lconst 0, 1) := by decide +kernel
theorem dL_falls_14 : decode cL_falls 14 = .ok (.putfield 13, 3) := by decide +kernel
theorem dL_falls_17 : decode cL_falls 17 = .ok (.goto 6, 3) := by decide +kernel
theorem dL_falls_20 : decode cL_falls 20 = .ok (.astore_n 3, 1) := by decide +kernel
theorem dL_falls_21 : decode cL_falls 21 = .ok (.iconst 1, 1) := by decide +kernel
theorem dL_falls_22 : decode cL_falls 22 = .ok (.ireturn, 1) := by decide +kernel
theorem dL_falls_23 : decode cL_falls 23 = .ok (.iconst 0, 1) := by decide +kernel
theorem dL_falls_24 : decode cL_falls 24 = .ok (.ireturn, 1) := by decide +kernel
set_option maxRecDepth 20000 in
theorem ggL_step_X3_step : GoodIn wsL_step wsX3_step := goodIn_ca (goodIn_ca (goodIn_r _ [7, 8, 9, 10, 11, 6, 12, 13, 14, 15, 16, 17, 18, 19, 20, 21, 22, 23, 24, 25, 26, 27, 28, 29, 30, 31, 32, 33, 34, 35, 36, 37, 38, 39, 40, 41, 42, 43, 44, 45, 46, 47, 48, 49, 50, 51, 52, 53, 54, 55, 56, 57, 58, 59, 60, 61, 62, 63, 64, 65, 66, 67, 68, 69, 70, 71, 72, 73, 74, 75, 76, 77, 78, 79, 80, 83, 84, 85, 86, 87, 88, 89, 90, 91, 92, 93, 94, 95, 96, 97, 98, 99, 100, 101] (by decide +kernel) (by decide +kernel)) (goodIn_sub (fun _ h => List.mem_cons_of_mem _ (List.mem_append_left _ (List.mem_append_right _ h))) (by decide +kernel))) (goodIn_sub (fun _ h => List.mem_cons_of_mem _ (List.mem_append_right _ h)) (by decide +kernel))
set_option maxRecDepth 20000 in
theorem gL_step_X3_step : GoodIn wsL_step (wsV RL 83 RX3 yX3_step wsX3_step) := goodIn_app (goodIn_of _ (by decide +kernel)) ggL_step_X3_step
theorem dL_step_0 : decode cL_step 0 = .ok (.aload_n 3, 1) := by decide +kernel
theorem dL_step_1 : decode cL_step 1 = .ok (.aload_n 0, 1) := by decide +kernel
theorem dL_step_2 : decode cL_step 2 = .ok (.iload_n 1, 1) := by decide +kernel
theorem dL_step_3 : decode cL_step 3 = .ok (.iload_n 2, 1) := by decide +kernel
theorem dL_step_4 : decode cL_step 4 = .ok (.invokevirtual 83, 3) := by decide +kernel
theorem dL_step_7 : decode cL_step 7 = .ok (.i2l, 1) := by decide +kernel
theorem dL_step_8 : decode cL_step 8 = .ok (.putfield 13, 3) := by decide +kernel
theorem dL_step_11 : decode cL_step 11 = .ok (.goto 11, 3) := by decide +kernel
theorem dL_step_14 : decode cL_step 14 = .ok (.astore 4, 2) := by decide +kernel
theorem dL_step_16 : decode cL_step 16 = .ok (.iconst 1, 1) := by decide +kernel
theorem dL_step_17 : decode cL_step 17 = .ok (.ireturn, 1) := by decide +kernel
theorem dL_step_18 : decode cL_step 18 = .ok (.astore 4, 2) := by decide +kernel
theorem dL_step_20 : decode cL_step 20 = .ok (.iconst 2, 1) := by decide +kernel
theorem dL_step_21 : decode cL_step 21 = .ok (.ireturn, 1) := by decide +kernel
theorem dL_step_22 : decode cL_step 22 = .ok (.iconst 0, 1) := by decide +kernel
theorem dL_step_23 : decode cL_step 23 = .ok (.ireturn, 1) := by decide +kernel
set_option maxRecDepth 20000 in
theorem ggL_run_X3_run : GoodIn wsL_run wsX3_run := goodIn_ca (goodIn_ca (goodIn_r _ [7, 8, 9, 10, 11, 12, 13, 14, 6, 15, 16, 17, 18, 19, 20, 21, 22, 23, 24, 25, 26, 27, 28, 29, 30, 31, 32, 33, 34, 35, 36, 37, 38, 39, 40, 41, 42, 43, 44, 45, 46, 47, 48, 49, 50, 51, 52, 53, 54, 55, 56, 57, 58, 59, 60, 61, 62, 63, 64, 65, 66, 67, 68, 69, 70, 71, 72, 73, 74, 77, 78, 79, 80, 81, 82, 83, 84, 85, 86, 87, 88, 89, 90, 91, 92, 93, 94, 95] (by decide +kernel) (by decide +kernel)) (goodIn_sub (fun _ h => List.mem_cons_of_mem _ (List.mem_append_left _ (List.mem_append_right _ h))) (by decide +kernel))) (goodIn_sub (fun _ h => List.mem_cons_of_mem _ (List.mem_append_right _ h)) (by decide +kernel))
set_option maxRecDepth 20000 in
theorem gL_run_X3_run : GoodIn wsL_run (wsV RL 86 RX3 yX3_run wsX3_run) := goodIn_app (goodIn_of _ (by decide +kernel)) ggL_run_X3_run
theorem dL_run_0 : decode cL_run 0 = .ok (.aload 4, 2) := by decide +kernel
theorem dL_run_2 : decode cL_run 2 = .ok (.aload_n 0, 1) := by decide +kernel
theorem dL_run_3 : decode cL_run 3 = .ok (.iload_n 1, 1) := by decide +kernel
theorem dL_run_4 : decode cL_run 4 = .ok (.iload_n 2, 1) := by decide +kernel
theorem dL_run_5 : decode cL_run 5 = .ok (.iload_n 3, 1) := by decide +kernel
theorem dL_run_6 : decode cL_run 6 = .ok (.invokevirtual 86, 3) := by decide +kernel
theorem dL_run_9 : decode cL_run 9 = .ok (.i2l, 1) := by decide +kernel
theorem dL_run_10 : decode cL_run 10 = .ok (.putfield 13, 3) := by decide +kernel
theorem dL_run_13 : decode cL_run 13 = .ok (.goto 11, 3) := by decide +kernel
theorem dL_run_16 : decode cL_run 16 = .ok (.astore 5, 2) := by decide +kernel
theorem dL_run_18 : decode cL_run 18 = .ok (.iconst 1, 1) := by decide +kernel
theorem dL_run_19 : decode cL_run 19 = .ok (.ireturn, 1) := by decide +kernel
theorem dL_run_20 : decode cL_run 20 = .ok (.astore 5, 2) := by decide +kernel
theorem dL_run_22 : decode cL_run 22 = .ok (.iconst 2, 1) := by decide +kernel
theorem dL_run_23 : decode cL_run 23 = .ok (.ireturn, 1) := by decide +kernel
theorem dL_run_24 : decode cL_run 24 = .ok (.iconst 0, 1) := by decide +kernel
theorem dL_run_25 : decode cL_run 25 = .ok (.ireturn, 1) := by decide +kernel
set_option maxRecDepth 20000 in
theorem ggL_pick_X3_pick : GoodIn wsL_pick wsX3_pick := goodIn_ca (goodIn_r _ [6, 7, 8, 9, 10, 11, 5, 12, 13, 14, 15, 16, 17, 18, 19, 20, 21, 22, 23, 24, 25, 26, 27, 28, 29, 30, 31, 32, 33, 34, 35, 36, 37, 38, 39, 40, 41, 42, 43, 44, 45, 46, 47, 48, 49, 50, 51, 52, 53, 54, 55, 56, 57, 58, 59, 60, 61, 62, 63, 64, 65, 66, 69, 70, 71, 72, 73, 74, 75, 76, 77, 78, 79, 80, 81, 82, 83, 84, 85, 86, 87] (by decide +kernel) (by decide +kernel)) (goodIn_sub (fun _ h => List.mem_cons_of_mem _ (List.mem_append_right _ h)) (by decide +kernel))
set_option maxRecDepth 20000 in
theorem gL_pick_X3_pick : GoodIn wsL_pick (wsV RL 89 RX3 yX3_pick wsX3_pick) := goodIn_app (goodIn_of _ (by decide +kernel)) ggL_pick_X3_pick
theorem dL_pick_0 : decode cL_pick 0 = .ok (.aload_n 3, 1) := by decide +kernel
theorem dL_pick_1 : decode cL_pick 1 = .ok (.aload_n 0, 1) := by decide +kernel
theorem dL_pick_2 : decode cL_pick 2 = .ok (.iload_n 1, 1) := by decide +kernel
theorem dL_pick_3 : decode cL_pick 3 = .ok (.iload_n 2, 1) := by decide +kernel
theorem dL_pick_4 : decode cL_pick 4 = .ok (.invokevirtual 89, 3) := by decide +kernel
theorem dL_pick_7 : decode cL_pick 7 = .ok (.i2l, 1) := by decide +kernel
theorem dL_pick_8 : decode cL_pick 8 = .ok (.putfield 13, 3) := by decide +kernel
theorem dL_pick_11 : decode cL_pick 11 = .ok (.goto 7, 3) := by decide +kernel
theorem dL_pick_14 : decode cL_pick 14 = .ok (.astore 4, 2) := by decide +kernel
theorem dL_pick_16 : decode cL_pick 16 = .ok (.iconst 1, 1) := by decide +kernel
theorem dL_pick_17 : decode cL_pick 17 = .ok (.ireturn, 1) := by decide +kernel
theorem dL_pick_18 : decode cL_pick 18 = .ok (.iconst 0, 1) := by decide +kernel
theorem dL_pick_19 : decode cL_pick 19 = .ok (.ireturn, 1) := by decide +kernel
set_option maxRecDepth 20000 in
theorem ggL_unwind_X3_unwind : GoodIn wsL_unwind wsX3_unwind := goodIn_ca (goodIn_r _ [6, 7, 8, 9, 10, 11, 12, 13, 5, 14, 15, 16, 17, 18, 19, 20, 21, 22, 23, 24, 25, 26, 27, 28, 29, 30, 31, 32, 33, 34, 35, 36, 37, 38, 39, 40, 41, 42, 43, 44, 45, 48, 49, 50, 51, 52, 53, 54, 55, 56, 57, 58, 59, 60, 61, 62, 63, 64, 65, 66] (by decide +kernel) (by decide +kernel)) (goodIn_sub (fun _ h => List.mem_cons_of_mem _ (List.mem_append_right _ h)) (by decide +kernel))
set_option maxRecDepth 20000 in
theorem gL_unwind_X3_unwind : GoodIn wsL_unwind (wsV RL 92 RX3 yX3_unwind wsX3_unwind) := goodIn_app (goodIn_of _ (by decide +kernel)) ggL_unwind_X3_unwind
theorem dL_unwind_0 : decode cL_unwind 0 = .ok (.aload 4, 2) := by decide +kernel
theorem dL_unwind_2 : decode cL_unwind 2 = .ok (.aload_n 0, 1) := by decide +kernel
theorem dL_unwind_3 : decode cL_unwind 3 = .ok (.iload_n 1, 1) := by decide +kernel
theorem dL_unwind_4 : decode cL_unwind 4 = .ok (.iload_n 2, 1) := by decide +kernel
theorem dL_unwind_5 : decode cL_unwind 5 = .ok (.iload_n 3, 1) := by decide +kernel
theorem dL_unwind_6 : decode cL_unwind 6 = .ok (.invokevirtual 92, 3) := by decide +kernel
theorem dL_unwind_9 : decode cL_unwind 9 = .ok (.i2l, 1) := by decide +kernel
theorem dL_unwind_10 : decode cL_unwind 10 = .ok (.putfield 13, 3) := by decide +kernel
theorem dL_unwind_13 : decode cL_unwind 13 = .ok (.goto 7, 3) := by decide +kernel
theorem dL_unwind_16 : decode cL_unwind 16 = .ok (.astore 5, 2) := by decide +kernel
theorem dL_unwind_18 : decode cL_unwind 18 = .ok (.iconst 1, 1) := by decide +kernel
theorem dL_unwind_19 : decode cL_unwind 19 = .ok (.ireturn, 1) := by decide +kernel
theorem dL_unwind_20 : decode cL_unwind 20 = .ok (.iconst 0, 1) := by decide +kernel
theorem dL_unwind_21 : decode cL_unwind 21 = .ok (.ireturn, 1) := by decide +kernel
set_option maxRecDepth 20000 in
theorem ggL_spots_X3_spots : GoodIn wsL_spots wsX3_spots := goodIn_ca (goodIn_r _ [6, 7, 8, 9, 10, 5, 11, 12, 13, 14, 15, 16, 17, 18, 19, 20, 21, 22, 23, 24, 25, 26, 27, 28, 31, 32, 33, 34, 35, 36, 37, 38, 39, 40, 41, 42, 43, 44, 45, 46, 47, 48, 49] (by decide +kernel) (by decide +kernel)) (goodIn_sub (fun _ h => List.mem_cons_of_mem _ (List.mem_append_right _ h)) (by decide +kernel))
set_option maxRecDepth 20000 in
theorem gL_spots_X3_spots : GoodIn wsL_spots (wsV RL 95 RX3 yX3_spots wsX3_spots) := goodIn_app (goodIn_of _ (by decide +kernel)) ggL_spots_X3_spots
theorem dL_spots_0 : decode cL_spots 0 = .ok (.aload_n 2, 1) := by decide +kernel
theorem dL_spots_1 : decode cL_spots 1 = .ok (.aload_n 0, 1) := by decide +kernel
theorem dL_spots_2 : decode cL_spots 2 = .ok (.iload_n 1, 1) := by decide +kernel
theorem dL_spots_3 : decode cL_spots 3 = .ok (.invokevirtual 95, 3) := by decide +kernel
theorem dL_spots_6 : decode cL_spots 6 = .ok (.i2l, 1) := by decide +kernel
theorem dL_spots_7 : decode cL_spots 7 = .ok (.putfield 13, 3) := by decide +kernel
theorem dL_spots_10 : decode cL_spots 10 = .ok (.goto 6, 3) := by decide +kernel
theorem dL_spots_13 : decode cL_spots 13 = .ok (.astore_n 3, 1) := by decide +kernel
theorem dL_spots_14 : decode cL_spots 14 = .ok (.iconst 1, 1) := by decide +kernel
theorem dL_spots_15 : decode cL_spots 15 = .ok (.ireturn, 1) := by decide +kernel
theorem dL_spots_16 : decode cL_spots 16 = .ok (.iconst 0, 1) := by decide +kernel
theorem dL_spots_17 : decode cL_spots 17 = .ok (.ireturn, 1) := by decide +kernel
set_option maxRecDepth 20000 in
theorem ggL_spot_X3_spot : GoodIn wsL_spot wsX3_spot := goodIn_ca (goodIn_r _ [6, 7, 8, 9, 10, 11, 12, 13, 14, 5, 15, 16, 17, 18, 19, 20, 21, 22, 23, 24, 25, 26, 27, 28, 29, 30, 31, 32, 33, 34, 35, 36, 37, 38, 39, 40, 41, 42, 43, 44, 45, 46, 47, 48, 49, 50, 51, 52, 53, 54, 55, 56, 57, 58, 59, 60, 61, 62, 63, 64, 65, 66, 67, 68, 69, 70, 71, 72, 73, 74, 75, 76, 77, 78, 79, 80, 81, 82, 83, 84, 85, 86, 87, 88, 89, 90, 91, 92, 93, 94, 95, 96, 97, 98, 99, 100, 101, 102, 103, 104, 105, 106, 107, 108, 109, 110, 111, 112, 113, 114, 115, 116, 117, 118, 119, 120, 121, 122, 123, 124, 125, 126, 127, 128, 129, 130, 131, 132, 133, 134, 135, 136, 137, 138, 139, 140, 141, 142, 143, 144, 145, 146, 147, 148, 149, 150, 151, 152, 153, 154, 155, 156, 157, 158, 159, 160, 161, 162, 163, 164, 165, 166, 167, 168, 169, 170, 171, 172, 173, 174, 175, 176, 177, 178, 179, 180, 181, 182, 183, 184, 185, 186, 187, 188, 189, 190, 191, 192, 193, 194, 195, 196, 197, 198, 199, 200, 201, 202, 203, 204, 205, 206, 207, 208, 209, 210, 211, 212, 213, 214, 215, 216, 217, 218, 219, 220, 221, 222, 223, 224, 225, 226, 227, 228, 229, 230, 231, 232, 233, 234, 235, 236, 237, 238, 239, 240, 241, 242, 243, 244, 245, 246, 247, 248, 249, 250, 251, 252, 253, 254, 255, 256, 257, 258, 259, 260, 261, 262, 263, 264, 265, 266, 267, 268, 269, 270, 271, 272, 273, 274, 275, 276, 277, 280, 281, 282, 283, 284, 285, 286, 287, 288, 289, 290, 291, 292, 293, 294, 295, 296, 297, 298, 299, 300, 301, 302, 303, 304, 305, 306] (by decide +kernel) (by decide +kernel)) (goodIn_sub (fun _ h => List.mem_cons_of_mem _ (List.mem_append_right _ h)) (by decide +kernel))
set_option maxRecDepth 20000 in
theorem gL_spot_X3_spot : GoodIn wsL_spot (wsV RL 98 RX3 yX3_spot wsX3_spot) := goodIn_app (goodIn_of _ (by decide +kernel)) ggL_spot_X3_spot
theorem dL_spot_0 : decode cL_spot 0 = .ok (.aload_n 3, 1) := by decide +kernel
theorem dL_spot_1 : decode cL_spot 1 = .ok (.aload_n 0, 1) := by decide +kernel
theorem dL_spot_2 : decode cL_spot 2 = .ok (.iload_n 1, 1) := by decide +kernel
theorem dL_spot_3 : decode cL_spot 3 = .ok (.iload_n 2, 1) := by decide +kernel
theorem dL_spot_4 : decode cL_spot 4 = .ok (.invokevirtual 98, 3) := by decide +kernel
theorem dL_spot_7 : decode cL_spot 7 = .ok (.putfield 47, 3) := by decide +kernel
theorem dL_spot_10 : decode cL_spot 10 = .ok (.goto 7, 3) := by decide +kernel
theorem dL_spot_13 : decode cL_spot 13 = .ok (.astore 4, 2) := by decide +kernel
theorem dL_spot_15 : decode cL_spot 15 = .ok (.iconst 1, 1) := by decide +kernel
theorem dL_spot_16 : decode cL_spot 16 = .ok (.ireturn, 1) := by decide +kernel
theorem dL_spot_17 : decode cL_spot 17 = .ok (.iconst 0, 1) := by decide +kernel
theorem dL_spot_18 : decode cL_spot 18 = .ok (.ireturn, 1) := by decide +kernel
set_option maxRecDepth 20000 in
theorem ggL_isEnd_X3_isEnd : GoodIn wsL_isEnd wsX3_isEnd := goodIn_ca (goodIn_r _ [6, 7, 8, 9, 10, 5, 11, 12, 13, 14, 15, 16, 17, 18, 19, 20, 21, 22, 23, 24, 25, 26, 27, 28, 29, 30, 31, 32, 33, 34, 35, 36, 37, 38, 41, 42, 43, 44, 45, 46, 47, 48, 49, 50, 51, 52, 53, 54, 55, 56, 57, 58, 59] (by decide +kernel) (by decide +kernel)) (goodIn_sub (fun _ h => List.mem_cons_of_mem _ (List.mem_append_right _ h)) (by decide +kernel))
set_option maxRecDepth 20000 in
theorem gL_isEnd_X3_isEnd : GoodIn wsL_isEnd (wsV RL 102 RX3 yX3_isEnd wsX3_isEnd) := goodIn_app (goodIn_of _ (by decide +kernel)) ggL_isEnd_X3_isEnd
theorem dL_isEnd_0 : decode cL_isEnd 0 = .ok (.aload_n 2, 1) := by decide +kernel
theorem dL_isEnd_1 : decode cL_isEnd 1 = .ok (.aload_n 0, 1) := by decide +kernel
theorem dL_isEnd_2 : decode cL_isEnd 2 = .ok (.iload_n 1, 1) := by decide +kernel
theorem dL_isEnd_3 : decode cL_isEnd 3 = .ok (.invokevirtual 102, 3) := by decide +kernel
theorem dL_isEnd_6 : decode cL_isEnd 6 = .ok (.ifCond .eq 7, 3) := by decide +kernel
theorem dL_isEnd_9 : decode cL_isEnd 9 = .ok (.lconst 1, 1) := by decide +kernel
theorem dL_isEnd_10 : decode cL_isEnd 10 = .ok (.goto 4, 3) := by decide +kernel
theorem dL_isEnd_13 : decode cL_isEnd 13 = .ok (.lconst 0, 1) := by decide +kernel
theorem dL_isEnd_14 : decode cL_isEnd 14 = .ok (.putfield 13, 3) := by decide +kernel
theorem dL_isEnd_17 : decode cL_isEnd 17 = .ok (.goto 6, 3) := by decide +kernel
theorem dL_isEnd_20 : decode cL_isEnd 20 = .ok (.astore_n 3, 1) := by decide +kernel
theorem dL_isEnd_21 : decode cL_isEnd 21 = .ok (.iconst 1, 1) := by decide +kernel
theorem dL_isEnd_22 : decode cL_isEnd 22 = .ok (.ireturn, 1) := by decide +kernel
theorem dL_isEnd_23 : decode cL_isEnd 23 = .ok (.iconst 0, 1) := by decide +kernel
theorem dL_isEnd_24 : decode cL_isEnd 24 = .ok (.ireturn, 1) := by decide +kernel
set_option maxRecDepth 20000 in
theorem ggL_form_X3_form : GoodIn wsL_form wsX3_form := goodIn_ca (goodIn_r _ [6, 7, 8, 9, 10, 11, 5, 12, 13, 14, 15, 16, 17, 18, 19, 20, 21, 22, 23, 24, 25, 26, 27, 28, 29, 30, 31, 32, 33, 34, 35, 36, 37, 38, 39, 40, 41, 42, 43, 44, 45, 46, 47, 48, 49, 50, 51, 52, 53, 54, 55, 56, 57, 58, 59, 60, 61, 62, 63, 64, 65, 66, 67, 68, 69, 70, 71, 72, 73, 74, 75, 76, 77, 78, 79, 80, 81, 82, 83, 84, 85, 86, 87, 88, 89, 90, 91, 92, 93, 94, 95, 96, 97, 98, 99, 100, 101, 102, 103, 104, 105, 106, 107, 108, 109, 110, 111, 112, 113, 114, 115, 116, 117, 118, 119, 120, 121, 122, 123, 124, 125, 126, 127, 128, 129, 130, 131, 132, 133, 134, 135, 136, 137, 138, 139, 140, 141, 142, 143, 144, 145, 146, 147, 148, 149, 150, 151, 152, 153, 154, 155, 156, 157, 158, 159, 160, 161, 162, 163, 164, 165, 166, 167, 168, 169, 170, 171, 172, 173, 174, 175, 176, 177, 178, 179, 180, 181, 182, 183, 184, 185, 186, 187, 188, 189, 190, 191, 192, 193, 194, 195, 196, 197, 198, 199, 200, 201, 202, 203, 204, 205, 206, 207, 208, 209, 210, 211, 212, 213, 214, 215, 216, 217, 218, 219, 220, 221, 222, 223, 224, 225, 226, 227, 228, 229, 230, 231, 232, 233, 234, 235, 236, 237, 238, 239, 240, 241, 242, 243, 244, 245, 246, 247, 248, 251, 252, 253, 254, 255, 256, 257, 258, 259, 260, 261, 262, 263, 264, 265, 266, 267, 268, 269, 270, 271, 272, 273, 274, 275, 276, 277] (by decide +kernel) (by decide +kernel)) (goodIn_sub (fun _ h => List.mem_cons_of_mem _ (List.mem_append_right _ h)) (by decide +kernel))
set_option maxRecDepth 20000 in
theorem gL_form_X3_form : GoodIn wsL_form (wsV RL 105 RX3 yX3_form wsX3_form) := goodIn_app (goodIn_of _ (by decide +kernel)) ggL_form_X3_form
theorem dL_form_0 : decode cL_form 0 = .ok (.aload_n 2, 1) := by decide +kernel
theorem dL_form_1 : decode cL_form 1 = .ok (.aload_n 0, 1) := by decide +kernel
theorem dL_form_2 : decode cL_form 2 = .ok (.iload_n 1, 1) := by decide +kernel
theorem dL_form_3 : decode cL_form 3 = .ok (.invokevirtual 105, 3) := by decide +kernel
theorem dL_form_6 : decode cL_form 6 = .ok (.putfield 47, 3) := by decide +kernel
theorem dL_form_9 : decode cL_form 9 = .ok (.goto 6, 3) := by decide +kernel
theorem dL_form_12 : decode cL_form 12 = .ok (.astore_n 3, 1) := by decide +kernel
theorem dL_form_13 : decode cL_form 13 = .ok (.iconst 1, 1) := by decide +kernel
theorem dL_form_14 : decode cL_form 14 = .ok (.ireturn, 1) := by decide +kernel
theorem dL_form_15 : decode cL_form 15 = .ok (.iconst 0, 1) := by decide +kernel
theorem dL_form_16 : decode cL_form 16 = .ok (.ireturn, 1) := by decide +kernel
set_option maxRecDepth 20000 in
theorem ggL_told_X3_told : GoodIn wsL_told wsX3_told := goodIn_ca (goodIn_r _ [6, 7, 8, 9, 10, 11, 12, 13, 5, 14, 15, 16, 17, 18, 19, 20, 21, 22, 23, 24, 25, 26, 27, 28, 29, 30, 31, 32, 33, 34, 35, 36, 37, 38, 39, 40, 41, 42, 43, 44, 45, 46, 47, 48, 49, 50, 51, 52, 53, 54, 55, 56, 57, 58, 59, 60, 61, 62, 63, 64, 65, 66, 67, 68, 69, 70, 71, 72, 73, 74, 75, 76, 77, 78, 79, 80, 81, 82, 83, 84, 85, 86, 87, 88, 89, 90, 91, 92, 93, 94, 95, 96, 97, 98, 99, 100, 101, 102, 103, 104, 105, 106, 107, 108, 109, 110, 111, 112, 113, 114, 115, 116, 117, 118, 119, 120, 121, 122, 123, 124, 125, 126, 127, 128, 129, 130, 131, 132, 133, 134, 135, 136, 137, 138, 139, 140, 141, 142, 143, 144, 145, 146, 147, 148, 149, 150, 153, 154, 155, 156, 157, 158, 159, 160, 161, 162, 163, 164, 165, 166, 167, 168, 169, 170, 171, 172, 173, 174, 175, 176, 177, 178, 179] (by decide +kernel) (by decide +kernel)) (goodIn_sub (fun _ h => List.mem_cons_of_mem _ (List.mem_append_right _ h)) (by decide +kernel))
set_option maxRecDepth 20000 in
theorem gL_told_X3_told : GoodIn wsL_told (wsV RL 108 RX3 yX3_told wsX3_told) := goodIn_app (goodIn_of _ (by decide +kernel)) ggL_told_X3_told
theorem dL_told_0 : decode cL_told 0 = .ok (.aload_n 3, 1) := by decide +kernel
theorem dL_told_1 : decode cL_told 1 = .ok (.aload_n 0, 1) := by decide +kernel
theorem dL_told_2 : decode cL_told 2 = .ok (.iload_n 1, 1) := by decide +kernel
theorem dL_told_3 : decode cL_told 3 = .ok (.iload_n 2, 1) := by decide +kernel
theorem dL_told_4 : decode cL_told 4 = .ok (.invokevirtual 108, 3) := by decide +kernel
theorem dL_told_7 : decode cL_told 7 = .ok (.i2l, 1) := by decide +kernel
theorem dL_told_8 : decode cL_told 8 = .ok (.putfield 13, 3) := by decide +kernel
theorem dL_told_11 : decode cL_told 11 = .ok (.goto 7, 3) := by decide +kernel
theorem dL_told_14 : decode cL_told 14 = .ok (.astore 4, 2) := by decide +kernel
theorem dL_told_16 : decode cL_told 16 = .ok (.iconst 1, 1) := by decide +kernel
theorem dL_told_17 : decode cL_told 17 = .ok (.ireturn, 1) := by decide +kernel
theorem dL_told_18 : decode cL_told 18 = .ok (.iconst 0, 1) := by decide +kernel
theorem dL_told_19 : decode cL_told 19 = .ok (.ireturn, 1) := by decide +kernel
set_option maxRecDepth 20000 in
theorem ggL_meets_X3_meets : GoodIn wsL_meets wsX3_meets := goodIn_ca (goodIn_r _ [6, 7, 8, 9, 10, 11, 12, 13, 14, 15, 16, 17, 18, 19, 20, 21, 22, 23, 24, 25, 26, 27, 28, 29, 30, 31, 32, 33, 34, 35, 36, 37, 38, 39, 40, 41, 42, 43, 44, 45, 46, 47, 48, 49, 50, 51, 52, 53, 54, 55, 56, 57, 58, 59, 60, 61, 62, 63, 64, 65, 66, 67, 68, 69, 70, 71, 72, 73, 74, 75, 76, 77, 78, 79, 80, 81, 82, 83, 84, 85, 86, 87, 88, 89, 90, 91, 92, 93, 94, 95, 96, 97, 98, 99, 100, 101, 102, 103, 104, 105, 106, 107, 108, 109, 110, 111, 112, 113, 114, 115, 116, 117, 118, 119, 120, 121, 122, 123, 124, 125, 126, 127, 128, 131, 132, 133, 134, 135, 136, 137, 138, 139, 140, 141, 142, 143, 144, 145, 146, 147, 148, 149, 150, 151, 152, 153, 154, 155, 156, 157] (by decide +kernel) (by decide +kernel)) (goodIn_sub (fun _ h => List.mem_cons_of_mem _ (List.mem_append_right _ h)) (by decide +kernel))
set_option maxRecDepth 20000 in
theorem gL_meets_X3_meets : GoodIn wsL_meets (wsV RL 111 RX3 yX3_meets wsX3_meets) := goodIn_app (goodIn_of _ (by decide +kernel)) ggL_meets_X3_meets
theorem dL_meets_0 : decode cL_meets 0 = .ok (.aload_n 2, 1) := by decide +kernel
theorem dL_meets_1 : decode cL_meets 1 = .ok (.aload_n 0, 1) := by decide +kernel
theorem dL_meets_2 : decode cL_meets 2 = .ok (.iload_n 1, 1) := by decide +kernel
theorem dL_meets_3 : decode cL_meets 3 = .ok (.invokevirtual 111, 3) := by decide +kernel
theorem dL_meets_6 : decode cL_meets 6 = .ok (.ifCond .eq 7, 3) := by decide +kernel
theorem dL_meets_9 : decode cL_meets 9 = .ok (.lconst 1, 1) := by decide +kernel
theorem dL_meets_10 : decode cL_meets 10 = .ok (.goto 4, 3) := by decide +kernel
theorem dL_meets_13 : decode cL_meets 13 = .ok (.lconst 0, 1) := by decide +kernel
theorem dL_meets_14 : decode cL_meets 14 = .ok (.putfield 13, 3) := by decide +kernel
theorem dL_meets_17 : decode cL_meets 17 = .ok (.goto 6, 3) := by decide +kernel
theorem dL_meets_20 : decode cL_meets 20 = .ok (.astore_n 3, 1) := by decide +kernel
theorem dL_meets_21 : decode cL_meets 21 = .ok (.iconst 1, 1) := by decide +kernel
theorem dL_meets_22 : decode cL_meets 22 = .ok (.ireturn, 1) := by decide +kernel
theorem dL_meets_23 : decode cL_meets 23 = .ok (.iconst 0, 1) := by decide +kernel
theorem dL_meets_24 : decode cL_meets 24 = .ok (.ireturn, 1) := by decide +kernel
set_option maxRecDepth 20000 in
theorem ggL_house_X3_house : GoodIn wsL_house wsX3_house := goodIn_ca (goodIn_r _ [6, 7, 8, 9, 10, 11, 12, 13, 14, 5, 15, 16, 17, 20, 21, 22, 23, 24, 25, 26, 27, 28, 29, 30] (by decide +kernel) (by decide +kernel)) (goodIn_sub (fun _ h => List.mem_cons_of_mem _ (List.mem_append_right _ h)) (by decide +kernel))
set_option maxRecDepth 20000 in
theorem gL_house_X3_house : GoodIn wsL_house (wsV RL 114 RX3 yX3_house wsX3_house) := goodIn_app (goodIn_of _ (by decide +kernel)) ggL_house_X3_house
theorem dL_house_0 : decode cL_house 0 = .ok (.aload_n 2, 1) := by decide +kernel
theorem dL_house_1 : decode cL_house 1 = .ok (.aload_n 0, 1) := by decide +kernel
theorem dL_house_2 : decode cL_house 2 = .ok (.iload_n 1, 1) := by decide +kernel
theorem dL_house_3 : decode cL_house 3 = .ok (.invokevirtual 114, 3) := by decide +kernel
theorem dL_house_6 : decode cL_house 6 = .ok (.i2l, 1) := by decide +kernel
theorem dL_house_7 : decode cL_house 7 = .ok (.putfield 13, 3) := by decide +kernel
theorem dL_house_10 : decode cL_house 10 = .ok (.goto 6, 3) := by decide +kernel
theorem dL_house_13 : decode cL_house 13 = .ok (.astore_n 3, 1) := by decide +kernel
theorem dL_house_14 : decode cL_house 14 = .ok (.iconst 1, 1) := by decide +kernel
theorem dL_house_15 : decode cL_house 15 = .ok (.ireturn, 1) := by decide +kernel
theorem dL_house_16 : decode cL_house 16 = .ok (.iconst 0, 1) := by decide +kernel
theorem dL_house_17 : decode cL_house 17 = .ok (.ireturn, 1) := by decide +kernel
set_option maxRecDepth 20000 in
theorem ggL_law_X3_init : GoodIn wsL_law wsX3_init := goodIn_r _ [11, 12, 13, 14, 15, 16, 17, 18, 19, 20, 21, 22, 23, 24, 25, 26, 27, 28, 29, 30, 31, 32, 33, 34, 35, 36, 37, 38, 39, 40, 41, 42, 43, 44, 45, 46, 47, 48, 49, 50, 51, 52, 53, 54, 55, 56, 57, 58, 59, 60, 61, 62, 63, 64, 65, 1301, 1302, 1303, 1304, 1305, 1306, 1307, 1308, 1309, 1319, 1320, 1321, 1322, 1323, 1324, 1325, 1326, 1327, 1328, 1329, 1330, 1331, 1332, 1333, 1334, 1335, 1336] (by decide +kernel) (by decide +kernel)
set_option maxRecDepth 20000 in
theorem gL_law_X3_init : GoodIn wsL_law (wsX3_init) := ggL_law_X3_init
set_option maxRecDepth 20000 in
theorem ggL_law_X5_init : GoodIn wsL_law wsX5_init := goodIn_r _ [68, 69, 13, 14, 70, 71, 72, 73, 74, 75, 76, 77, 78, 79, 80, 81, 82, 83, 84, 85, 86, 87, 88, 89, 90, 91, 1310, 1311, 1312, 1313, 1314, 1315, 1316, 1337, 1338, 1339] (by decide +kernel) (by decide +kernel)
set_option maxRecDepth 20000 in
theorem gL_law_X5_init : GoodIn wsL_law (wsX5_init) := ggL_law_X5_init
set_option maxRecDepth 20000 in
theorem ggL_law_X4_init : GoodIn wsL_law wsX4_init := goodIn_r _ [93, 94, 13, 14] (by decide +kernel) (by decide +kernel)
set_option maxRecDepth 20000 in
theorem gL_law_X4_init_n121 : GoodIn wsL_law (wsX4_init) := ggL_law_X4_init
set_option maxRecDepth 20000 in
theorem ggL_law_X5_thrown : GoodIn wsL_law wsX5_thrown := goodIn_r _ [396, 392, 1310, 1311, 1312, 1313, 1314, 1315, 1316] (by decide +kernel) (by decide +kernel)
set_option maxRecDepth 20000 in
theorem gL_law_X5_thrown : GoodIn wsL_law (wsV RL 128 RX5 yX5_thrown wsX5_thrown) := goodIn_app (goodIn_of _ (by decide +kernel)) ggL_law_X5_thrown
set_option maxRecDepth 20000 in
theorem ggL_law_L_clear : GoodIn wsL_law wsL_clear := goodIn_ca (goodIn_r _ [399, 99, 400, 401, 402, 2, 403, 16, 108, 109, 110, 111, 112, 113, 119, 120, 121, 26, 122, 51, 1317, 1318, 1301, 1302, 1303, 1304, 1305, 1306, 1307, 1308, 1309, 1335, 1336] (by decide +kernel) (by decide +kernel)) (goodIn_sub (fun _ h => List.mem_append_left _ (List.mem_append_right _ h)) (by decide +kernel))
set_option maxRecDepth 20000 in
theorem gL_law_L_clear : GoodIn wsL_law (va_wsS RL 132 yL_clear wsL_clear) := goodIn_app (goodIn_of _ (by decide +kernel)) ggL_law_L_clear
set_option maxRecDepth 20000 in
theorem ggL_law_X5_clear : GoodIn wsL_law wsX5_clear := goodIn_r _ [407, 71, 384, 385, 5, 386, 142, 143, 144, 388, 389, 390, 391, 392, 387, 246, 247, 233, 248, 249, 250, 251, 252, 253, 254, 255, 1310, 1311, 1312, 1313, 1314, 1315, 1316, 1344, 1345, 1346, 1347] (by decide +kernel) (by decide +kernel)
set_option maxRecDepth 20000 in
theorem gL_law_X5_clear : GoodIn wsL_law (wsV RL 135 RX5 yX5_clear wsX5_clear) := goodIn_app (goodIn_of _ (by decide +kernel)) ggL_law_X5_clear
set_option maxRecDepth 20000 in
theorem ggL_law_L_copy : GoodIn wsL_law wsL_copy := goodIn_ca (goodIn_r _ [410, 99, 411, 412, 413, 2, 414, 16, 108, 109, 110, 111, 112, 113, 415, 416, 417, 26, 418, 50, 51, 131, 132, 133, 134, 1317, 1318, 1301, 1302, 1303, 1304, 1305, 1306, 1307, 1308, 1309, 1335, 1336] (by decide +kernel) (by decide +kernel)) (goodIn_sub (fun _ h => List.mem_append_left _ (List.mem_append_right _ h)) (by decide +kernel))
set_option maxRecDepth 20000 in
theorem gL_law_L_copy : GoodIn wsL_law (va_wsS RL 136 yL_copy wsL_copy) := goodIn_app (goodIn_of _ (by decide +kernel)) ggL_law_L_copy
set_option maxRecDepth 20000 in
theorem ggL_law_X5_copy : GoodIn wsL_law wsX5_copy := goodIn_r _ [422, 71, 384, 385, 5, 386, 142, 143, 144, 388, 389, 390, 391, 392, 387, 246, 247, 233, 248, 249, 250, 251, 252, 253, 254, 255, 1310, 1311, 1312, 1313, 1314, 1315, 1316, 1344, 1345, 1346, 1347] (by decide +kernel) (by decide +kernel)
set_option maxRecDepth 20000 in
theorem gL_law_X5_copy : GoodIn wsL_law (wsV RL 139 RX5 yX5_copy wsX5_copy) := goodIn_app (goodIn_of _ (by decide +kernel)) ggL_law_X5_copy
set_option maxRecDepth 20000 in
theorem ggL_law_L_lay : GoodIn wsL_law wsL_lay := goodIn_ca (goodIn_r _ [425, 99, 426, 427, 428, 2, 429, 16, 108, 27, 109, 110, 111, 112, 113, 430, 431, 432, 433, 434, 435, 436, 30, 415, 416, 417, 26, 418, 50, 51, 131, 132, 133, 134, 437, 438, 439, 440, 1317, 1318, 1301, 1302, 1303, 1304, 1305, 1306, 1307, 1308, 1309, 1335, 1336] (by decide +kernel) (by decide +kernel)) (goodIn_sub (fun _ h => List.mem_append_left _ (List.mem_append_right _ h)) (by decide +kernel))
set_option maxRecDepth 20000 in
theorem gL_law_L_lay : GoodIn wsL_law (va_wsS RL 140 yL_lay wsL_lay) := goodIn_app (goodIn_of _ (by decide +kernel)) ggL_law_L_lay
set_option maxRecDepth 20000 in
theorem ggL_law_X5_lay : GoodIn wsL_law wsX5_lay := goodIn_r _ [444, 71, 384, 385, 5, 386, 142, 143, 144, 387, 246, 247, 233, 248, 249, 250, 251, 252, 253, 254, 255, 388, 389, 390, 391, 392, 445, 446, 447, 139, 140, 141, 145, 146, 147, 148, 149, 150, 151, 152, 13, 14, 153, 49, 154, 155, 156, 157, 158, 159, 160, 161, 162, 163, 448, 449, 450, 451, 452, 453, 232, 234, 235, 236, 237, 238, 239, 298, 299, 300, 301, 454, 455, 274, 456, 457, 340, 458, 365, 204, 366, 206, 207, 208, 209, 210, 211, 367, 368, 369, 212, 213, 196, 214, 215, 132, 133, 134, 370, 371, 372, 373, 459, 460, 461, 347, 462, 463, 464, 465, 466, 467, 375, 376, 377, 378, 379, 279, 280, 281, 228, 229, 230, 282, 283, 284, 285, 286, 287, 318, 319, 320, 224, 243, 244, 380, 468, 382, 383, 469, 164, 165, 166, 167, 168, 169, 170, 171, 172, 173, 174, 175, 176, 177, 178, 179, 180, 181, 182, 183, 184, 185, 186, 187, 188, 189, 190, 191, 192, 193, 194, 195, 197, 198, 199, 200, 201, 202, 203, 205, 216, 217, 218, 219, 220, 221, 222, 223, 225, 226, 227, 231, 240, 241, 242, 245, 256, 257, 258, 259, 260, 261, 262, 263, 264, 265, 266, 267, 268, 269, 270, 271, 272, 273, 275, 276, 277, 278, 288, 289, 290, 291, 292, 293, 470, 471, 472, 473, 474, 335, 336, 337, 338, 339, 341, 342, 343, 344, 345, 346, 348, 349, 350, 351, 352, 353, 354, 355, 356, 357, 358, 359, 360, 361, 362, 363, 364, 374, 381, 475, 476, 477, 478, 479, 1310, 1311, 1312, 1313, 1314, 1315, 1316, 1344, 1345, 1346, 1347, 1340, 1341, 1342, 1343] (by decide +kernel) (by decide +kernel)
set_option maxRecDepth 20000 in
theorem gL_law_X5_lay : GoodIn wsL_law (wsV RL 143 RX5 yX5_lay wsX5_lay) := goodIn_app (goodIn_of _ (by decide +kernel)) ggL_law_X5_lay
set_option maxRecDepth 20000 in
theorem ggL_law_L_cut : GoodIn wsL_law wsL_cut := goodIn_ca (goodIn_ca (goodIn_r _ [482, 99, 100, 483, 484, 485, 2, 486, 117, 118, 16, 27, 108, 109, 110, 111, 112, 113, 430, 431, 432, 119, 120, 121, 26, 122, 51, 437, 438, 439, 440, 50, 131, 132, 133, 134, 1317, 1318, 1301, 1302, 1303, 1304, 1305, 1306, 1307, 1308, 1309, 1335, 1336] (by decide +kernel) (by decide +kernel)) (goodIn_sub (fun _ h => List.mem_append_right _ h) (by decide +kernel))) (goodIn_sub (fun _ h => List.mem_append_left _ (List.mem_append_right _ h)) (by decide +kernel))
set_option maxRecDepth 20000 in
theorem gL_law_L_cut : GoodIn wsL_law (va_wsS RL 144 yL_cut wsL_cut) := goodIn_app (goodIn_of _ (by decide +kernel)) ggL_law_L_cut
set_option maxRecDepth 20000 in
theorem ggL_law_X5_cut : GoodIn wsL_law wsX5_cut := goodIn_r _ [490, 71, 384, 385, 5, 386, 142, 143, 144, 387, 246, 247, 233, 248, 249, 250, 251, 252, 253, 254, 255, 388, 389, 390, 391, 392, 445, 446, 447, 139, 140, 141, 145, 146, 147, 148, 149, 150, 151, 152, 13, 14, 153, 49, 154, 155, 156, 157, 158, 159, 160, 161, 162, 163, 448, 449, 450, 451, 452, 453, 232, 234, 235, 236, 237, 238, 239, 298, 299, 300, 301, 454, 455, 274, 456, 457, 340, 458, 365, 204, 366, 206, 207, 208, 209, 210, 211, 367, 368, 369, 212, 213, 196, 214, 215, 132, 133, 134, 370, 371, 372, 373, 459, 460, 461, 347, 462, 463, 464, 465, 466, 467, 375, 376, 377, 378, 379, 279, 280, 281, 228, 229, 230, 282, 283, 284, 285, 286, 287, 318, 319, 320, 224, 243, 244, 380, 468, 382, 383, 469, 164, 165, 166, 167, 168, 169, 170, 171, 172, 173, 174, 175, 176, 177, 178, 179, 180, 181, 182, 183, 184, 185, 186, 187, 188, 189, 190, 191, 192, 193, 194, 195, 197, 198, 199, 200, 201, 202, 203, 205, 216, 217, 218, 219, 220, 221, 222, 223, 225, 226, 227, 231, 240, 241, 242, 245, 256, 257, 258, 259, 260, 261, 262, 263, 264, 265, 266, 267, 268, 269, 270, 271, 272, 273, 275, 276, 277, 278, 288, 289, 290, 291, 292, 293, 470, 471, 472, 473, 474, 335, 336, 337, 338, 339, 341, 342, 343, 344, 345, 346, 348, 349, 350, 351, 352, 353, 354, 355, 356, 357, 358, 359, 360, 361, 362, 363, 364, 374, 381, 1310, 1311, 1312, 1313, 1314, 1315, 1316, 1344, 1345, 1346, 1347, 1340, 1341, 1342, 1343] (by decide +kernel) (by decide +kernel)
set_option maxRecDepth 20000 in
theorem gL_law_X5_cut : GoodIn wsL_law (wsV RL 146 RX5 yX5_cut wsX5_cut) := goodIn_app (goodIn_of _ (by decide +kernel)) ggL_law_X5_cut
set_option maxRecDepth 20000 in
theorem ggL_law_L_turn : GoodIn wsL_law wsL_turn := goodIn_ca (goodIn_r _ [493, 99, 494, 495, 496, 2, 497, 16, 108, 109, 110, 111, 112, 113, 498, 499, 500, 26, 501, 51, 50, 1317, 1318, 1301, 1302, 1303, 1304, 1305, 1306, 1307, 1308, 1309, 1335, 1336] (by decide +kernel) (by decide +kernel)) (goodIn_sub (fun _ h => List.mem_append_left _ (List.mem_append_right _ h)) (by decide +kernel))
set_option maxRecDepth 20000 in
theorem gL_law_L_turn : GoodIn wsL_law (va_wsS RL 147 yL_turn wsL_turn) := goodIn_app (goodIn_of _ (by decide +kernel)) ggL_law_L_turn
set_option maxRecDepth 20000 in
theorem ggL_law_X5_turn : GoodIn wsL_law wsX5_turn := goodIn_r _ [505, 71, 139, 140, 141, 384, 385, 5, 386, 142, 143, 144, 388, 389, 390, 391, 392, 387, 246, 247, 233, 248, 249, 250, 251, 252, 253, 254, 255, 145, 146, 147, 148, 149, 150, 151, 152, 13, 14, 153, 49, 154, 155, 156, 157, 158, 159, 160, 161, 162, 163, 294, 295, 296, 297, 298, 299, 300, 301, 302, 303, 274, 304, 305, 306, 307, 235, 308, 309, 238, 310, 311, 312, 313, 314, 315, 316, 228, 229, 230, 317, 318, 319, 320, 224, 243, 244, 321, 322, 323, 324, 325, 326, 170, 327, 328, 173, 179, 180, 181, 182, 183, 184, 185, 186, 187, 188, 189, 190, 191, 192, 193, 194, 195, 196, 197, 198, 199, 200, 201, 202, 203, 204, 205, 206, 207, 208, 209, 210, 211, 212, 213, 214, 215, 132, 133, 134, 216, 217, 218, 219, 220, 329, 330, 331, 267, 268, 269, 270, 271, 272, 273, 275, 276, 277, 278, 279, 280, 281, 282, 283, 284, 285, 286, 287, 240, 241, 242, 332, 333, 334, 164, 165, 166, 167, 168, 169, 171, 172, 174, 175, 176, 177, 178, 221, 222, 223, 225, 226, 227, 231, 232, 234, 236, 237, 239, 245, 256, 257, 258, 259, 260, 261, 262, 263, 264, 265, 266, 288, 289, 290, 291, 292, 293, 335, 336, 337, 338, 339, 340, 341, 342, 343, 344, 345, 346, 347, 348, 349, 350, 351, 352, 353, 354, 355, 356, 357, 358, 359, 360, 361, 362, 363, 364, 365, 366, 367, 368, 369, 370, 371, 372, 373, 374, 375, 376, 377, 378, 379, 380, 381, 382, 383, 1310, 1311, 1312, 1313, 1314, 1315, 1316, 1340, 1341, 1342, 1343, 1344, 1345, 1346, 1347] (by decide +kernel) (by decide +kernel)
set_option maxRecDepth 20000 in
theorem gL_law_X5_turn : GoodIn wsL_law (wsV RL 149 RX5 yX5_turn wsX5_turn) := goodIn_app (goodIn_of _ (by decide +kernel)) ggL_law_X5_turn
set_option maxRecDepth 20000 in
theorem ggL_law_L_text : GoodIn wsL_law wsL_text := goodIn_ca (goodIn_r _ [508, 99, 509, 510, 511, 2, 512, 16, 109, 110, 111, 112, 113, 513, 514, 515, 26, 516, 517, 140, 141, 518, 146, 147, 148, 149, 150, 151, 152, 13, 14, 153, 49, 154, 155, 156, 157, 158, 159, 160, 161, 162, 163, 519, 520, 521, 522, 51, 50, 523, 322, 323, 324, 325, 326, 170, 327, 328, 173, 179, 180, 181, 182, 183, 184, 185, 186, 187, 188, 189, 190, 191, 192, 193, 194, 195, 196, 197, 198, 199, 200, 201, 202, 203, 204, 205, 206, 207, 208, 209, 210, 211, 212, 213, 214, 215, 132, 133, 134, 216, 217, 218, 219, 220, 329, 330, 274, 331, 267, 268, 269, 270, 271, 272, 273, 275, 276, 277, 278, 279, 280, 281, 228, 229, 230, 282, 283, 233, 284, 235, 285, 286, 238, 287, 240, 241, 242, 224, 243, 244, 332, 333, 334, 314, 315, 316, 317, 306, 307, 308, 309, 310, 524, 336, 337, 338, 339, 340, 341, 342, 343, 344, 345, 346, 347, 255, 249, 254, 348, 349, 350, 351, 352, 353, 354, 355, 356, 357, 358, 359, 360, 361, 362, 363, 364, 365, 366, 367, 368, 369, 370, 371, 372, 373, 374, 375, 376, 377, 378, 379, 318, 319, 320, 380, 381, 382, 383, 1317, 1318, 1301, 1302, 1303, 1304, 1305, 1306, 1307, 1308, 1309, 1340, 1341, 1342, 1343, 1335, 1336, 1344, 1345, 1346, 1347] (by decide +kernel) (by decide +kernel)) (goodIn_sub (fun _ h => List.mem_append_left _ (List.mem_append_right _ h)) (by decide +kernel))
set_option maxRecDepth 20000 in
theorem gL_law_L_text : GoodIn wsL_law (va_wsS RL 150 yL_text wsL_text) := goodIn_app (goodIn_of _ (by decide +kernel)) ggL_law_L_text
set_option maxRecDepth 20000 in
theorem ggL_law_X5_text : GoodIn wsL_law wsX5_text := goodIn_r _ [528, 71, 384, 385, 5, 386, 142, 143, 144, 388, 389, 390, 391, 392, 1310, 1311, 1312, 1313, 1314, 1315, 1316] (by decide +kernel) (by decide +kernel)
set_option maxRecDepth 20000 in
theorem gL_law_X5_text : GoodIn wsL_law (wsV RL 152 RX5 yX5_text wsX5_text) := goodIn_app (goodIn_of _ (by decide +kernel)) ggL_law_X5_text
set_option maxRecDepth 20000 in
theorem ggL_law_J0_equals_9ea2d : GoodIn wsL_law wsJ0_equals_9ea2d := goodIn_r _ [532, 533, 254, 255, 249, 534, 535, 274, 536, 1344, 1345, 1346, 1347] (by decide +kernel) (by decide +kernel)
set_option maxRecDepth 20000 in
theorem gL_law_J0_equals_9ea2d : GoodIn wsL_law (wsV RL 153 RJ0 yJ0_equals_9ea2d wsJ0_equals_9ea2d) := goodIn_app (goodIn_of _ (by decide +kernel)) ggL_law_J0_equals_9ea2d
set_option maxRecDepth 20000 in
theorem ggL_law_L_order : GoodIn wsL_law wsL_order := goodIn_ca (goodIn_r _ [539, 99, 540, 541, 542, 2, 543, 16, 109, 110, 111, 112, 113, 544, 545, 546, 26, 547, 51, 50, 1317, 1318, 1301, 1302, 1303, 1304, 1305, 1306, 1307, 1308, 1309, 1335, 1336] (by decide +kernel) (by decide +kernel)) (goodIn_sub (fun _ h => List.mem_append_left _ (List.mem_append_right _ h)) (by decide +kernel))
set_option maxRecDepth 20000 in
theorem gL_law_L_order : GoodIn wsL_law (va_wsS RL 159 yL_order wsL_order) := goodIn_app (goodIn_of _ (by decide +kernel)) ggL_law_L_order
set_option maxRecDepth 20000 in
theorem ggL_law_X5_order : GoodIn wsL_law wsX5_order := goodIn_r _ [551, 71, 384, 385, 5, 386, 142, 143, 144, 388, 389, 390, 391, 392, 552, 553, 554, 387, 246, 247, 233, 248, 249, 250, 251, 252, 253, 254, 255, 294, 295, 296, 297, 298, 299, 300, 301, 302, 303, 274, 304, 305, 306, 307, 235, 308, 309, 238, 310, 311, 312, 158, 313, 314, 315, 316, 228, 229, 230, 317, 318, 319, 320, 224, 243, 244, 1310, 1311, 1312, 1313, 1314, 1315, 1316, 1344, 1345, 1346, 1347] (by decide +kernel) (by decide +kernel)
set_option maxRecDepth 20000 in
theorem gL_law_X5_order : GoodIn wsL_law (wsV RL 161 RX5 yX5_order wsX5_order) := goodIn_app (goodIn_of _ (by decide +kernel)) ggL_law_X5_order
set_option maxRecDepth 20000 in
theorem ggL_law_L_count : GoodIn wsL_law wsL_count := goodIn_ca (goodIn_r _ [557, 99, 558, 559, 560, 2, 561, 16, 108, 109, 110, 111, 112, 113, 562, 563, 564, 26, 565, 51, 50, 1317, 1318, 1301, 1302, 1303, 1304, 1305, 1306, 1307, 1308, 1309, 1335, 1336] (by decide +kernel) (by decide +kernel)) (goodIn_sub (fun _ h => List.mem_append_left _ (List.mem_append_right _ h)) (by decide +kernel))
set_option maxRecDepth 20000 in
theorem gL_law_L_count : GoodIn wsL_law (va_wsS RL 162 yL_count wsL_count) := goodIn_app (goodIn_of _ (by decide +kernel)) ggL_law_L_count
set_option maxRecDepth 20000 in
theorem ggL_law_X5_count : GoodIn wsL_law wsX5_count := goodIn_r _ [569, 71, 384, 385, 5, 386, 142, 143, 144, 388, 389, 390, 391, 392, 570, 571, 572, 72, 73, 74, 77, 78, 79, 80, 81, 82, 83, 84, 85, 86, 87, 88, 89, 90, 91, 13, 14, 387, 246, 247, 233, 248, 249, 250, 251, 252, 253, 254, 255, 573, 574, 575, 294, 295, 296, 297, 298, 299, 300, 301, 302, 303, 274, 304, 305, 306, 307, 235, 308, 309, 238, 310, 311, 312, 158, 313, 314, 315, 316, 228, 229, 230, 317, 318, 319, 320, 224, 243, 244, 576, 577, 578, 579, 580, 581, 582, 583, 584, 585, 586, 587, 588, 589, 590, 591, 592, 593, 594, 595, 596, 597, 598, 599, 600, 601, 602, 603, 604, 605, 606, 607, 608, 609, 610, 611, 612, 195, 196, 197, 613, 614, 191, 192, 193, 194, 198, 199, 200, 201, 615, 616, 204, 617, 618, 619, 620, 621, 622, 623, 624, 625, 626, 212, 213, 214, 215, 132, 133, 134, 627, 628, 629, 630, 1310, 1311, 1312, 1313, 1314, 1315, 1316, 1337, 1338, 1339, 1344, 1345, 1346, 1347, 1348] (by decide +kernel) (by decide +kernel)
set_option maxRecDepth 20000 in
theorem gL_law_X5_count : GoodIn wsL_law (wsV RL 164 RX5 yX5_count wsX5_count) := goodIn_app (goodIn_of _ (by decide +kernel)) ggL_law_X5_count
set_option maxRecDepth 20000 in
theorem ggL_law_L_find : GoodIn wsL_law wsL_find := goodIn_ca (goodIn_r _ [633, 99, 634, 635, 636, 2, 637, 16, 108, 109, 110, 111, 112, 113, 562, 563, 564, 26, 565, 51, 50, 1317, 1318, 1301, 1302, 1303, 1304, 1305, 1306, 1307, 1308, 1309, 1335, 1336] (by decide +kernel) (by decide +kernel)) (goodIn_sub (fun _ h => List.mem_append_left _ (List.mem_append_right _ h)) (by decide +kernel))
set_option maxRecDepth 20000 in
theorem gL_law_L_find : GoodIn wsL_law (va_wsS RL 165 yL_find wsL_find) := goodIn_app (goodIn_of _ (by decide +kernel)) ggL_law_L_find
set_option maxRecDepth 20000 in
theorem ggL_law_X5_find : GoodIn wsL_law wsX5_find := goodIn_r _ [641, 71, 642, 384, 385, 5, 386, 142, 143, 144, 388, 389, 390, 391, 392, 570, 571, 572, 72, 73, 74, 77, 78, 79, 80, 81, 82, 83, 84, 85, 86, 87, 88, 89, 90, 91, 13, 14, 387, 246, 247, 233, 248, 249, 250, 251, 252, 253, 254, 255, 573, 574, 575, 294, 295, 296, 297, 298, 299, 300, 301, 302, 303, 274, 304, 305, 306, 307, 235, 308, 309, 238, 310, 311, 312, 158, 313, 314, 315, 316, 228, 229, 230, 317, 318, 319, 320, 224, 243, 244, 576, 577, 578, 579, 580, 581, 582, 583, 584, 585, 586, 587, 588, 589, 590, 591, 592, 593, 594, 595, 596, 597, 598, 599, 600, 601, 602, 603, 604, 605, 606, 607, 608, 609, 610, 611, 612, 195, 196, 197, 613, 614, 191, 192, 193, 194, 198, 199, 200, 201, 615, 616, 204, 617, 618, 619, 620, 621, 622, 623, 624, 625, 626, 212, 213, 214, 215, 132, 133, 134, 643, 644, 645, 646, 627, 628, 629, 630, 647, 648, 649, 650, 651, 652, 653, 654, 655, 656, 657, 658, 659, 660, 661, 662, 663, 1310, 1311, 1312, 1313, 1314, 1315, 1316, 1337, 1338, 1339, 1344, 1345, 1346, 1347, 1348] (by decide +kernel) (by decide +kernel)
set_option maxRecDepth 20000 in
theorem gL_law_X5_find : GoodIn wsL_law (wsV RL 168 RX5 yX5_find wsX5_find) := goodIn_app (goodIn_of _ (by decide +kernel)) ggL_law_X5_find
set_option maxRecDepth 20000 in
theorem ggL_law_L_rule : GoodIn wsL_law wsL_rule := goodIn_ca (goodIn_r _ [666, 99, 667, 668, 669, 2, 670, 16, 109, 110, 111, 112, 113, 671, 672, 673, 674, 108, 20, 675, 433, 434, 435, 436, 30, 676, 677, 678, 19, 679, 44, 38, 39, 45, 680, 416, 417, 26, 418, 50, 51, 131, 132, 133, 134, 1317, 1318, 1301, 1302, 1303, 1304, 1305, 1306, 1307, 1308, 1309, 1335, 1336, 1319, 1320, 1321, 1322, 1323, 1324, 1325, 1326] (by decide +kernel) (by decide +kernel)) (goodIn_sub (fun _ h => List.mem_append_left _ (List.mem_append_right _ h)) (by decide +kernel))
set_option maxRecDepth 20000 in
theorem gL_law_L_rule : GoodIn wsL_law (va_wsS RL 169 yL_rule wsL_rule) := goodIn_app (goodIn_of _ (by decide +kernel)) ggL_law_L_rule
set_option maxRecDepth 20000 in
theorem ggL_law_X5_rule : GoodIn wsL_law wsX5_rule := goodIn_r _ [684, 71, 384, 385, 5, 386, 142, 143, 144, 388, 389, 390, 391, 392, 685, 686, 687, 688, 75, 76, 627, 628, 629, 74, 630, 599, 689, 690, 691, 233, 692, 249, 387, 246, 247, 248, 250, 251, 252, 253, 254, 255, 475, 476, 477, 478, 479, 593, 594, 595, 596, 597, 598, 81, 600, 601, 602, 603, 604, 605, 606, 607, 608, 609, 610, 611, 80, 612, 195, 196, 197, 613, 614, 191, 192, 193, 194, 198, 199, 200, 201, 615, 616, 204, 617, 618, 619, 620, 621, 622, 623, 624, 625, 626, 212, 213, 214, 215, 132, 133, 134, 1310, 1311, 1312, 1313, 1314, 1315, 1316, 1337, 1338, 1339, 1344, 1345, 1346, 1347] (by decide +kernel) (by decide +kernel)
set_option maxRecDepth 20000 in
theorem gL_law_X5_rule : GoodIn wsL_law (wsV RL 171 RX5 yX5_rule wsX5_rule) := goodIn_app (goodIn_of _ (by decide +kernel)) ggL_law_X5_rule
set_option maxRecDepth 20000 in
theorem ggL_law_L_falling : GoodIn wsL_law wsL_falling := goodIn_ca (goodIn_r _ [695, 99, 696, 697, 698, 2, 699, 16, 109, 110, 111, 112, 113, 700, 701, 702, 703, 544, 545, 546, 26, 547, 51, 50, 433, 434, 435, 436, 30, 671, 672, 673, 674, 108, 20, 675, 676, 677, 678, 19, 679, 44, 38, 39, 45, 680, 416, 417, 418, 131, 132, 133, 134, 1317, 1318, 1301, 1302, 1303, 1304, 1305, 1306, 1307, 1308, 1309, 1335, 1336, 1319, 1320, 1321, 1322, 1323, 1324, 1325, 1326] (by decide +kernel) (by decide +kernel)) (goodIn_sub (fun _ h => List.mem_append_left _ (List.mem_append_right _ h)) (by decide +kernel))
set_option maxRecDepth 20000 in
theorem gL_law_L_falling : GoodIn wsL_law (va_wsS RL 172 yL_falling wsL_falling) := goodIn_app (goodIn_of _ (by decide +kernel)) ggL_law_L_falling
set_option maxRecDepth 20000 in
theorem ggL_law_X5_falling : GoodIn wsL_law wsX5_falling := goodIn_r _ [707, 71, 384, 385, 5, 386, 142, 143, 144, 388, 389, 390, 391, 392, 552, 553, 554, 387, 246, 247, 233, 248, 249, 250, 251, 252, 253, 254, 255, 294, 295, 296, 297, 298, 299, 300, 301, 302, 303, 274, 304, 305, 306, 307, 235, 308, 309, 238, 310, 311, 312, 158, 313, 314, 315, 316, 228, 229, 230, 317, 318, 319, 320, 224, 243, 244, 475, 476, 477, 478, 479, 685, 686, 687, 688, 75, 76, 627, 628, 629, 74, 630, 599, 689, 690, 691, 692, 593, 594, 595, 596, 597, 598, 81, 600, 601, 602, 603, 604, 605, 606, 607, 608, 609, 610, 611, 80, 612, 195, 196, 197, 613, 614, 191, 192, 193, 194, 198, 199, 200, 201, 615, 616, 204, 617, 618, 619, 620, 621, 622, 623, 624, 625, 626, 212, 213, 214, 215, 132, 133, 134, 1310, 1311, 1312, 1313, 1314, 1315, 1316, 1344, 1345, 1346, 1347, 1337, 1338, 1339] (by decide +kernel) (by decide +kernel)
set_option maxRecDepth 20000 in
theorem gL_law_X5_falling : GoodIn wsL_law (wsV RL 174 RX5 yX5_falling wsX5_falling) := goodIn_app (goodIn_of _ (by decide +kernel)) ggL_law_X5_falling
set_option maxRecDepth 20000 in
theorem ggL_law_L_drop : GoodIn wsL_law wsL_drop := goodIn_ca (goodIn_r _ [710, 99, 711, 712, 713, 2, 714, 20, 675, 715, 716, 717, 718, 112, 113, 719, 720, 721, 19, 722, 44, 38, 39, 45, 680, 416, 417, 26, 418, 50, 51, 131, 132, 133, 134, 1317, 1318, 1301, 1302, 1303, 1304, 1305, 1306, 1307, 1308, 1309, 1319, 1320, 1321, 1322, 1323, 1324, 1325, 1326, 1335, 1336] (by decide +kernel) (by decide +kernel)) (goodIn_sub (fun _ h => List.mem_append_left _ (List.mem_append_right _ h)) (by decide +kernel))
set_option maxRecDepth 20000 in
theorem gL_law_L_drop : GoodIn wsL_law (va_wsS RL 175 yL_drop wsL_drop) := goodIn_app (goodIn_of _ (by decide +kernel)) ggL_law_L_drop
set_option maxRecDepth 20000 in
theorem ggL_law_X5_drop : GoodIn wsL_law wsX5_drop := goodIn_r _ [726, 75, 76, 727, 728, 729, 5, 730, 627, 628, 629, 74, 630, 599, 142, 143, 144, 388, 389, 390, 391, 392, 731, 732, 733, 734, 81, 651, 652, 653, 654, 655, 309, 238, 310, 735, 736, 737, 738, 597, 598, 739, 132, 133, 134, 1310, 1311, 1312, 1313, 1314, 1315, 1316, 1337, 1338, 1339] (by decide +kernel) (by decide +kernel)
set_option maxRecDepth 20000 in
theorem gL_law_X5_drop : GoodIn wsL_law (wsV RL 177 RX5 yX5_drop wsX5_drop) := goodIn_app (goodIn_of _ (by decide +kernel)) ggL_law_X5_drop
set_option maxRecDepth 20000 in
theorem ggL_law_X3_noRules : GoodIn wsL_law wsX3_noRules := goodIn_r _ [743, 20, 675, 744, 745, 746, 19, 747, 44, 45, 1301, 1302, 1303, 1304, 1305, 1306, 1307, 1308, 1309, 1319, 1320, 1321, 1322, 1323, 1324, 1325, 1326] (by decide +kernel) (by decide +kernel)
set_option maxRecDepth 20000 in
theorem gL_law_X3_noRules : GoodIn wsL_law (wsV RL 178 RX3 yX3_noRules wsX3_noRules) := goodIn_app (goodIn_of _ (by decide +kernel)) ggL_law_X3_noRules
set_option maxRecDepth 20000 in
theorem ggL_law_X5_noRules : GoodIn wsL_law wsX5_noRules := goodIn_r _ [751, 392, 75, 72, 73, 74, 76, 627, 628, 629, 630, 599, 77, 78, 79, 80, 81, 82, 83, 84, 85, 86, 87, 88, 89, 90, 91, 13, 14, 1310, 1311, 1312, 1313, 1314, 1315, 1316, 1337, 1338, 1339] (by decide +kernel) (by decide +kernel)
set_option maxRecDepth 20000 in
theorem gL_law_X5_noRules : GoodIn wsL_law (wsV RL 181 RX5 yX5_noRules wsX5_noRules) := goodIn_app (goodIn_of _ (by decide +kernel)) ggL_law_X5_noRules
set_option maxRecDepth 20000 in
theorem ggL_law_L_flip : GoodIn wsL_law wsL_flip := goodIn_ca (goodIn_r _ [754, 99, 755, 756, 757, 2, 758, 20, 759, 108, 715, 716, 717, 718, 112, 113, 675, 433, 434, 435, 436, 30, 760, 761, 762, 19, 763, 40, 38, 39, 45, 680, 416, 417, 26, 418, 50, 51, 131, 132, 133, 134, 764, 765, 766, 767, 768, 545, 546, 547, 1317, 1318, 1301, 1302, 1303, 1304, 1305, 1306, 1307, 1308, 1309, 1319, 1320, 1321, 1322, 1323, 1324, 1325, 1326, 1335, 1336] (by decide +kernel) (by decide +kernel)) (goodIn_sub (fun _ h => List.mem_append_left _ (List.mem_append_right _ h)) (by decide +kernel))
set_option maxRecDepth 20000 in
theorem gL_law_L_flip : GoodIn wsL_law (va_wsS RL 182 yL_flip wsL_flip) := goodIn_app (goodIn_of _ (by decide +kernel)) ggL_law_L_flip
set_option maxRecDepth 20000 in
theorem ggL_law_X5_flip : GoodIn wsL_law wsX5_flip := goodIn_r _ [772, 76, 773, 75, 727, 728, 729, 5, 730, 627, 628, 629, 74, 630, 599, 142, 143, 144, 388, 389, 390, 391, 392, 647, 648, 649, 650, 651, 652, 653, 654, 655, 309, 238, 310, 656, 657, 658, 659, 81, 689, 690, 691, 233, 692, 249, 475, 476, 477, 478, 479, 774, 775, 776, 777, 778, 779, 780, 781, 552, 553, 554, 387, 246, 247, 248, 250, 251, 252, 253, 254, 255, 294, 295, 296, 297, 298, 299, 300, 301, 302, 303, 274, 304, 305, 306, 307, 235, 308, 311, 312, 158, 313, 314, 315, 316, 228, 229, 230, 317, 318, 319, 320, 224, 243, 244, 782, 783, 784, 1310, 1311, 1312, 1313, 1314, 1315, 1316, 1337, 1338, 1339, 1344, 1345, 1346, 1347] (by decide +kernel) (by decide +kernel)
set_option maxRecDepth 20000 in
theorem gL_law_X5_flip : GoodIn wsL_law (wsV RL 184 RX5 yX5_flip wsX5_flip) := goodIn_app (goodIn_of _ (by decide +kernel)) ggL_law_X5_flip
set_option maxRecDepth 20000 in
theorem ggL_law_L_side : GoodIn wsL_law wsL_side := goodIn_ca (goodIn_r _ [787, 99, 788, 789, 790, 2, 791, 16, 20, 759, 792, 108, 109, 110, 111, 112, 113, 715, 716, 717, 718, 675, 415, 416, 417, 26, 418, 50, 51, 131, 132, 133, 134, 1317, 1318, 1301, 1302, 1303, 1304, 1305, 1306, 1307, 1308, 1309, 1319, 1320, 1321, 1322, 1323, 1324, 1325, 1326, 1335, 1336] (by decide +kernel) (by decide +kernel)) (goodIn_sub (fun _ h => List.mem_append_left _ (List.mem_append_right _ h)) (by decide +kernel))
set_option maxRecDepth 20000 in
theorem gL_law_L_side : GoodIn wsL_law (va_wsS RL 185 yL_side wsL_side) := goodIn_app (goodIn_of _ (by decide +kernel)) ggL_law_L_side
set_option maxRecDepth 20000 in
theorem ggL_law_X5_side : GoodIn wsL_law wsX5_side := goodIn_r _ [796, 71, 76, 773, 75, 384, 385, 5, 386, 142, 143, 144, 727, 728, 729, 730, 627, 628, 629, 74, 630, 599, 388, 389, 390, 391, 392, 647, 648, 649, 650, 651, 652, 653, 654, 655, 309, 238, 310, 656, 657, 658, 659, 81, 387, 246, 247, 233, 248, 249, 250, 251, 252, 253, 254, 255, 1310, 1311, 1312, 1313, 1314, 1315, 1316, 1337, 1338, 1339, 1344, 1345, 1346, 1347] (by decide +kernel) (by decide +kernel)
set_option maxRecDepth 20000 in
theorem gL_law_X5_side : GoodIn wsL_law (wsV RL 187 RX5 yX5_side wsX5_side) := goodIn_app (goodIn_of _ (by decide +kernel)) ggL_law_X5_side
set_option maxRecDepth 20000 in
theorem ggL_law_X3_rules : GoodIn wsL_law wsX3_rules := goodIn_r _ [800, 20, 675, 1301, 1302, 1303, 1304, 1305, 1306, 1307, 1308, 1309, 1319, 1320, 1321, 1322, 1323, 1324, 1325, 1326] (by decide +kernel) (by decide +kernel)
set_option maxRecDepth 20000 in
theorem gL_law_X3_rules : GoodIn wsL_law (wsV RL 188 RX3 yX3_rules wsX3_rules) := goodIn_app (goodIn_of _ (by decide +kernel)) ggL_law_X3_rules
set_option maxRecDepth 20000 in
theorem ggL_law_X5_rules : GoodIn wsL_law wsX5_rules := goodIn_r _ [804, 392, 75, 627, 628, 629, 74, 630, 599, 1310, 1311, 1312, 1313, 1314, 1315, 1316, 1337, 1338, 1339] (by decide +kernel) (by decide +kernel)
set_option maxRecDepth 20000 in
theorem gL_law_X5_rules : GoodIn wsL_law (wsV RL 191 RX5 yX5_rules wsX5_rules) := goodIn_app (goodIn_of _ (by decide +kernel)) ggL_law_X5_rules
set_option maxRecDepth 20000 in
theorem ggL_law_L_ruleText : GoodIn wsL_law wsL_ruleText := goodIn_ca (goodIn_r _ [807, 99, 808, 809, 810, 2, 811, 812, 140, 141, 20, 792, 759, 715, 716, 717, 718, 112, 113, 675, 813, 146, 147, 148, 149, 150, 151, 152, 13, 14, 153, 49, 154, 155, 156, 157, 158, 159, 160, 161, 162, 163, 814, 520, 521, 26, 522, 51, 50, 523, 322, 323, 324, 325, 326, 170, 327, 328, 173, 179, 180, 181, 182, 183, 184, 185, 186, 187, 188, 189, 190, 191, 192, 193, 194, 195, 196, 197, 198, 199, 200, 201, 202, 203, 204, 205, 206, 207, 208, 209, 210, 211, 212, 213, 214, 215, 132, 133, 134, 216, 217, 218, 219, 220, 329, 330, 274, 331, 267, 268, 269, 270, 271, 272, 273, 275, 276, 277, 278, 279, 280, 281, 228, 229, 230, 282, 283, 233, 284, 235, 285, 286, 238, 287, 240, 241, 242, 224, 243, 244, 332, 333, 334, 314, 315, 316, 317, 306, 307, 308, 309, 310, 815, 816, 336, 337, 338, 339, 340, 341, 342, 343, 344, 345, 346, 347, 255, 249, 254, 348, 349, 350, 351, 352, 353, 354, 355, 356, 357, 358, 359, 360, 361, 362, 363, 364, 365, 366, 367, 368, 369, 370, 371, 372, 373, 374, 375, 376, 377, 378, 379, 318, 319, 320, 380, 381, 382, 383, 1317, 1318, 1340, 1341, 1342, 1343, 1301, 1302, 1303, 1304, 1305, 1306, 1307, 1308, 1309, 1319, 1320, 1321, 1322, 1323, 1324, 1325, 1326, 1335, 1336, 1344, 1345, 1346, 1347] (by decide +kernel) (by decide +kernel)) (goodIn_sub (fun _ h => List.mem_append_left _ (List.mem_append_right _ h)) (by decide +kernel))
set_option maxRecDepth 20000 in
theorem gL_law_L_ruleText : GoodIn wsL_law (va_wsS RL 192 yL_ruleText wsL_ruleText) := goodIn_app (goodIn_of _ (by decide +kernel)) ggL_law_L_ruleText
set_option maxRecDepth 20000 in
theorem ggL_law_X5_ruleText : GoodIn wsL_law wsX5_ruleText := goodIn_r _ [820, 727, 728, 729, 5, 730, 75, 627, 628, 629, 74, 630, 599, 142, 143, 144, 388, 389, 390, 391, 392, 821, 822, 823, 824, 139, 140, 141, 773, 76, 145, 146, 147, 148, 149, 150, 151, 152, 13, 14, 153, 49, 154, 155, 156, 157, 158, 159, 160, 161, 162, 163, 647, 648, 649, 650, 651, 652, 653, 654, 655, 309, 238, 310, 656, 657, 658, 659, 81, 164, 165, 166, 167, 168, 169, 170, 171, 172, 173, 174, 175, 176, 177, 178, 179, 180, 181, 182, 183, 184, 185, 186, 187, 188, 189, 190, 191, 192, 193, 194, 195, 196, 197, 198, 199, 200, 201, 202, 203, 204, 205, 206, 207, 208, 209, 210, 211, 212, 213, 214, 215, 132, 133, 134, 216, 217, 218, 219, 220, 221, 222, 223, 224, 225, 226, 227, 228, 229, 230, 231, 232, 233, 234, 235, 236, 237, 239, 240, 241, 242, 243, 244, 245, 246, 247, 248, 249, 250, 251, 252, 253, 254, 255, 256, 257, 258, 259, 260, 261, 262, 263, 264, 265, 266, 267, 268, 269, 270, 271, 272, 273, 274, 275, 276, 277, 278, 279, 280, 281, 282, 283, 284, 285, 286, 287, 288, 289, 290, 291, 292, 293, 335, 336, 337, 338, 339, 340, 341, 342, 343, 344, 345, 346, 347, 348, 349, 350, 351, 352, 353, 354, 355, 356, 357, 358, 359, 360, 361, 362, 363, 364, 365, 366, 367, 368, 369, 370, 371, 372, 373, 374, 375, 376, 377, 378, 379, 318, 319, 320, 380, 381, 382, 383, 1310, 1311, 1312, 1313, 1314, 1315, 1316, 1337, 1338, 1339, 1340, 1341, 1342, 1343, 1344, 1345, 1346, 1347] (by decide +kernel) (by decide +kernel)
set_option maxRecDepth 20000 in
theorem gL_law_X5_ruleText : GoodIn wsL_law (wsV RL 194 RX5 yX5_ruleText wsX5_ruleText) := goodIn_app (goodIn_of _ (by decide +kernel)) ggL_law_X5_ruleText
set_option maxRecDepth 20000 in
theorem ggL_law_L_falls : GoodIn wsL_law wsL_falls := goodIn_ca (goodIn_r _ [827, 99, 828, 829, 830, 2, 831, 20, 715, 716, 717, 718, 112, 113, 675, 764, 765, 766, 19, 767, 39, 38, 768, 545, 546, 26, 547, 51, 50, 1317, 1318, 1301, 1302, 1303, 1304, 1305, 1306, 1307, 1308, 1309, 1319, 1320, 1321, 1322, 1323, 1324, 1325, 1326, 1335, 1336] (by decide +kernel) (by decide +kernel)) (goodIn_sub (fun _ h => List.mem_append_left _ (List.mem_append_right _ h)) (by decide +kernel))
set_option maxRecDepth 20000 in
theorem gL_law_L_falls : GoodIn wsL_law (va_wsS RL 195 yL_falls wsL_falls) := goodIn_app (goodIn_of _ (by decide +kernel)) ggL_law_L_falls
set_option maxRecDepth 20000 in
theorem ggL_law_X5_falls : GoodIn wsL_law wsX5_falls := goodIn_r _ [835, 727, 728, 729, 5, 730, 75, 627, 628, 629, 74, 630, 599, 142, 143, 144, 388, 389, 390, 391, 392, 778, 779, 780, 781, 76, 773, 647, 648, 649, 650, 651, 652, 653, 654, 655, 309, 238, 310, 656, 657, 658, 659, 81, 552, 553, 554, 387, 246, 247, 233, 248, 249, 250, 251, 252, 253, 254, 255, 294, 295, 296, 297, 298, 299, 300, 301, 302, 303, 274, 304, 305, 306, 307, 235, 308, 311, 312, 158, 313, 314, 315, 316, 228, 229, 230, 317, 318, 319, 320, 224, 243, 244, 1310, 1311, 1312, 1313, 1314, 1315, 1316, 1337, 1338, 1339, 1344, 1345, 1346, 1347] (by decide +kernel) (by decide +kernel)
set_option maxRecDepth 20000 in
theorem gL_law_X5_falls : GoodIn wsL_law (wsV RL 197 RX5 yX5_falls wsX5_falls) := goodIn_app (goodIn_of _ (by decide +kernel)) ggL_law_X5_falls
set_option maxRecDepth 20000 in
theorem ggL_law_X3_areFalling : GoodIn wsL_law wsX3_areFalling := goodIn_r _ [839, 20, 840, 841, 842, 19, 843, 44, 844, 765, 766, 767, 39, 38, 768, 545, 546, 26, 547, 51, 50, 1301, 1302, 1303, 1304, 1305, 1306, 1307, 1308, 1309, 1319, 1320, 1321, 1322, 1323, 1324, 1325, 1326, 1335, 1336] (by decide +kernel) (by decide +kernel)
set_option maxRecDepth 20000 in
theorem gL_law_X3_areFalling : GoodIn wsL_law (wsV RL 198 RX3 yX3_areFalling wsX3_areFalling) := goodIn_app (goodIn_of _ (by decide +kernel)) ggL_law_X3_areFalling
set_option maxRecDepth 20000 in
theorem ggL_law_X5_areFalling : GoodIn wsL_law wsX5_areFalling := goodIn_r _ [848, 392, 849, 850, 851, 5, 852, 75, 627, 628, 629, 74, 630, 599, 778, 779, 780, 781, 76, 773, 647, 648, 649, 650, 651, 652, 653, 654, 655, 309, 238, 310, 656, 657, 658, 659, 81, 552, 553, 554, 387, 246, 247, 233, 248, 249, 250, 251, 252, 253, 254, 255, 294, 295, 296, 297, 298, 299, 300, 301, 302, 303, 274, 304, 305, 306, 307, 235, 308, 311, 312, 158, 313, 314, 315, 316, 228, 229, 230, 317, 318, 319, 320, 224, 243, 244, 1310, 1311, 1312, 1313, 1314, 1315, 1316, 1337, 1338, 1339, 1344, 1345, 1346, 1347] (by decide +kernel) (by decide +kernel)
set_option maxRecDepth 20000 in
theorem gL_law_X5_areFalling : GoodIn wsL_law (wsV RL 202 RX5 yX5_areFalling wsX5_areFalling) := goodIn_app (goodIn_of _ (by decide +kernel)) ggL_law_X5_areFalling
set_option maxRecDepth 20000 in
theorem ggL_law_L_step : GoodIn wsL_law wsL_step := goodIn_ca (goodIn_ca (goodIn_r _ [855, 99, 100, 856, 857, 858, 2, 859, 20, 16, 109, 110, 111, 112, 113, 860, 861, 862, 117, 118, 863, 864, 865, 19, 866, 867, 868, 869, 870, 871, 44, 38, 872, 563, 564, 26, 565, 51, 50, 873, 874, 875, 876, 877, 878, 879, 880, 881, 882, 883, 884, 885, 886, 887, 888, 889, 890, 32, 891, 892, 893, 894, 39, 895, 896, 897, 898, 899, 438, 439, 440, 131, 132, 133, 134, 900, 433, 434, 435, 436, 30, 1317, 1318, 1301, 1302, 1303, 1304, 1305, 1306, 1307, 1308, 1309, 1335, 1336, 1319, 1320, 1321, 1322, 1323, 1324, 1325, 1326] (by decide +kernel) (by decide +kernel)) (goodIn_sub (fun _ h => List.mem_append_left _ (List.mem_append_right _ h)) (by decide +kernel))) (goodIn_sub (fun _ h => List.mem_append_right _ h) (by decide +kernel))
set_option maxRecDepth 20000 in
theorem gL_law_L_step : GoodIn wsL_law (va_wsS RL 203 yL_step wsL_step) := goodIn_app (goodIn_of _ (by decide +kernel)) ggL_law_L_step
set_option maxRecDepth 20000 in
theorem ggL_law_X5_step : GoodIn wsL_law wsX5_step := goodIn_r _ [904, 71, 905, 384, 385, 5, 386, 142, 143, 144, 388, 389, 390, 391, 392, 906, 907, 908, 909, 75, 773, 56, 627, 628, 629, 74, 630, 599, 387, 246, 247, 233, 248, 249, 250, 251, 252, 253, 254, 255, 647, 648, 649, 650, 651, 652, 653, 654, 655, 309, 238, 310, 656, 657, 658, 659, 81, 573, 574, 575, 294, 295, 296, 297, 298, 299, 300, 301, 302, 303, 274, 304, 305, 306, 307, 235, 308, 311, 312, 158, 313, 314, 315, 316, 228, 229, 230, 317, 318, 319, 320, 224, 243, 244, 910, 911, 912, 913, 76, 445, 446, 447, 139, 140, 141, 145, 146, 147, 148, 149, 150, 151, 152, 13, 14, 153, 49, 154, 155, 156, 157, 159, 160, 161, 162, 163, 448, 449, 450, 451, 452, 453, 232, 234, 236, 237, 239, 454, 455, 456, 457, 340, 458, 365, 204, 366, 206, 207, 208, 209, 210, 211, 367, 368, 369, 212, 213, 196, 214, 215, 132, 133, 134, 370, 371, 372, 373, 459, 460, 461, 347, 462, 463, 464, 465, 466, 467, 375, 376, 377, 378, 379, 279, 280, 281, 282, 283, 284, 285, 286, 287, 380, 468, 382, 383, 469, 164, 165, 166, 167, 168, 169, 170, 171, 172, 173, 174, 175, 176, 177, 178, 179, 180, 181, 182, 183, 184, 185, 186, 187, 188, 189, 190, 191, 192, 193, 194, 195, 197, 198, 199, 200, 201, 202, 203, 205, 216, 217, 218, 219, 220, 221, 222, 223, 225, 226, 227, 231, 240, 241, 242, 245, 256, 257, 258, 259, 260, 261, 262, 263, 264, 265, 266, 267, 268, 269, 270, 271, 272, 273, 275, 276, 277, 278, 288, 289, 290, 291, 292, 293, 470, 471, 472, 473, 474, 335, 336, 337, 338, 339, 341, 342, 343, 344, 345, 346, 348, 349, 350, 351, 352, 353, 354, 355, 356, 357, 358, 359, 360, 361, 362, 363, 364, 374, 381, 475, 476, 477, 478, 479, 1310, 1311, 1312, 1313, 1314, 1315, 1316, 1337, 1338, 1339, 1344, 1345, 1346, 1347, 1340, 1341, 1342, 1343] (by decide +kernel) (by decide +kernel)
set_option maxRecDepth 20000 in
theorem gL_law_X5_step : GoodIn wsL_law (wsV RL 205 RX5 yX5_step wsX5_step) := goodIn_app (goodIn_of _ (by decide +kernel)) ggL_law_X5_step
set_option maxRecDepth 20000 in
theorem ggL_law_L_run : GoodIn wsL_law wsL_run := goodIn_ca (goodIn_ca (goodIn_r _ [916, 99, 100, 917, 918, 919, 2, 920, 117, 118, 20, 16, 32, 109, 110, 111, 112, 113, 860, 861, 862, 921, 922, 923, 19, 924, 925, 864, 865, 866, 867, 868, 869, 870, 871, 44, 38, 872, 563, 564, 26, 565, 51, 50, 873, 874, 875, 876, 877, 878, 879, 880, 881, 882, 883, 884, 885, 886, 926, 892, 893, 894, 39, 927, 896, 897, 898, 899, 438, 439, 440, 131, 132, 133, 134, 1317, 1318, 1301, 1302, 1303, 1304, 1305, 1306, 1307, 1308, 1309, 1335, 1336, 1319, 1320, 1321, 1322, 1323, 1324, 1325, 1326] (by decide +kernel) (by decide +kernel)) (goodIn_sub (fun _ h => List.mem_append_right _ h) (by decide +kernel))) (goodIn_sub (fun _ h => List.mem_append_left _ (List.mem_append_right _ h)) (by decide +kernel))
set_option maxRecDepth 20000 in
theorem gL_law_L_run : GoodIn wsL_law (va_wsS RL 206 yL_run wsL_run) := goodIn_app (goodIn_of _ (by decide +kernel)) ggL_law_L_run
set_option maxRecDepth 20000 in
theorem ggL_law_X5_run : GoodIn wsL_law wsX5_run := goodIn_r _ [931, 56, 71, 905, 384, 385, 5, 386, 142, 143, 144, 388, 389, 390, 391, 392, 932, 933, 934, 935, 906, 907, 908, 909, 75, 773, 627, 628, 629, 74, 630, 599, 387, 246, 247, 233, 248, 249, 250, 251, 252, 253, 254, 255, 647, 648, 649, 650, 651, 652, 653, 654, 655, 309, 238, 310, 656, 657, 658, 659, 81, 573, 574, 575, 294, 295, 296, 297, 298, 299, 300, 301, 302, 303, 274, 304, 305, 306, 307, 235, 308, 311, 312, 158, 313, 314, 315, 316, 228, 229, 230, 317, 318, 319, 320, 224, 243, 244, 910, 911, 912, 913, 76, 445, 446, 447, 139, 140, 141, 145, 146, 147, 148, 149, 150, 151, 152, 13, 14, 153, 49, 154, 155, 156, 157, 159, 160, 161, 162, 163, 448, 449, 450, 451, 452, 453, 232, 234, 236, 237, 239, 454, 455, 456, 457, 340, 458, 365, 204, 366, 206, 207, 208, 209, 210, 211, 367, 368, 369, 212, 213, 196, 214, 215, 132, 133, 134, 370, 371, 372, 373, 459, 460, 461, 347, 462, 463, 464, 465, 466, 467, 375, 376, 377, 378, 379, 279, 280, 281, 282, 283, 284, 285, 286, 287, 380, 468, 382, 383, 469, 164, 165, 166, 167, 168, 169, 170, 171, 172, 173, 174, 175, 176, 177, 178, 179, 180, 181, 182, 183, 184, 185, 186, 187, 188, 189, 190, 191, 192, 193, 194, 195, 197, 198, 199, 200, 201, 202, 203, 205, 216, 217, 218, 219, 220, 221, 222, 223, 225, 226, 227, 231, 240, 241, 242, 245, 256, 257, 258, 259, 260, 261, 262, 263, 264, 265, 266, 267, 268, 269, 270, 271, 272, 273, 275, 276, 277, 278, 288, 289, 290, 291, 292, 293, 470, 471, 472, 473, 474, 335, 336, 337, 338, 339, 341, 342, 343, 344, 345, 346, 348, 349, 350, 351, 352, 353, 354, 355, 356, 357, 358, 359, 360, 361, 362, 363, 364, 374, 381, 1310, 1311, 1312, 1313, 1314, 1315, 1316, 1337, 1338, 1339, 1344, 1345, 1346, 1347, 1340, 1341, 1342, 1343] (by decide +kernel) (by decide +kernel)
set_option maxRecDepth 20000 in
theorem gL_law_X5_run : GoodIn wsL_law (wsV RL 208 RX5 yX5_run wsX5_run) := goodIn_app (goodIn_of _ (by decide +kernel)) ggL_law_X5_run
set_option maxRecDepth 20000 in
theorem ggL_law_L_pick : GoodIn wsL_law wsL_pick := goodIn_ca (goodIn_r _ [938, 99, 939, 940, 941, 2, 942, 20, 16, 108, 109, 110, 111, 112, 113, 943, 944, 945, 19, 946, 871, 877, 878, 879, 880, 44, 38, 881, 882, 883, 884, 885, 886, 872, 563, 564, 26, 565, 51, 50, 433, 434, 435, 436, 30, 887, 888, 889, 890, 32, 891, 892, 893, 894, 39, 895, 896, 897, 898, 899, 438, 439, 440, 131, 132, 133, 134, 1317, 1318, 1301, 1302, 1303, 1304, 1305, 1306, 1307, 1308, 1309, 1335, 1336, 1319, 1320, 1321, 1322, 1323, 1324, 1325, 1326] (by decide +kernel) (by decide +kernel)) (goodIn_sub (fun _ h => List.mem_append_left _ (List.mem_append_right _ h)) (by decide +kernel))
set_option maxRecDepth 20000 in
theorem gL_law_L_pick : GoodIn wsL_law (va_wsS RL 209 yL_pick wsL_pick) := goodIn_app (goodIn_of _ (by decide +kernel)) ggL_law_L_pick
set_option maxRecDepth 20000 in
theorem ggL_law_X5_pick : GoodIn wsL_law wsX5_pick := goodIn_r _ [950, 71, 951, 905, 384, 385, 5, 386, 142, 143, 144, 388, 389, 390, 391, 392, 952, 953, 954, 955, 72, 73, 74, 75, 773, 56, 77, 78, 79, 80, 81, 82, 83, 84, 85, 86, 87, 88, 89, 90, 91, 13, 14, 387, 246, 247, 233, 248, 249, 250, 251, 252, 253, 254, 255, 627, 628, 629, 630, 599, 647, 648, 649, 650, 651, 652, 653, 654, 655, 309, 238, 310, 656, 657, 658, 659, 573, 574, 575, 294, 295, 296, 297, 298, 299, 300, 301, 302, 303, 274, 304, 305, 306, 307, 235, 308, 311, 312, 158, 313, 314, 315, 316, 228, 229, 230, 317, 318, 319, 320, 224, 243, 244, 593, 594, 595, 596, 597, 598, 600, 601, 602, 603, 604, 605, 606, 607, 608, 609, 610, 611, 612, 195, 196, 197, 613, 614, 191, 192, 193, 194, 198, 199, 200, 201, 615, 616, 204, 617, 618, 619, 620, 621, 622, 623, 624, 625, 626, 212, 213, 214, 215, 132, 133, 134, 910, 911, 912, 913, 76, 445, 446, 447, 139, 140, 141, 145, 146, 147, 148, 149, 150, 151, 152, 153, 49, 154, 155, 156, 157, 159, 160, 161, 162, 163, 448, 449, 450, 451, 452, 453, 232, 234, 236, 237, 239, 454, 455, 456, 457, 340, 458, 365, 366, 206, 207, 208, 209, 210, 211, 367, 368, 369, 370, 371, 372, 373, 459, 460, 461, 347, 462, 463, 464, 465, 466, 467, 375, 376, 377, 378, 379, 279, 280, 281, 282, 283, 284, 285, 286, 287, 380, 468, 382, 383, 469, 164, 165, 166, 167, 168, 169, 170, 171, 172, 173, 174, 175, 176, 177, 178, 179, 180, 181, 182, 183, 184, 185, 186, 187, 188, 189, 190, 202, 203, 205, 216, 217, 218, 219, 220, 221, 222, 223, 225, 226, 227, 231, 240, 241, 242, 245, 256, 257, 258, 259, 260, 261, 262, 263, 264, 265, 266, 267, 268, 269, 270, 271, 272, 273, 275, 276, 277, 278, 288, 289, 290, 291, 292, 293, 470, 471, 472, 473, 474, 335, 336, 337, 338, 339, 341, 342, 343, 344, 345, 346, 348, 349, 350, 351, 352, 353, 354, 355, 356, 357, 358, 359, 360, 361, 362, 363, 364, 374, 381, 475, 476, 477, 478, 479, 1310, 1311, 1312, 1313, 1314, 1315, 1316, 1337, 1338, 1339, 1344, 1345, 1346, 1347, 1340, 1341, 1342, 1343] (by decide +kernel) (by decide +kernel)
set_option maxRecDepth 20000 in
theorem gL_law_X5_pick : GoodIn wsL_law (wsV RL 211 RX5 yX5_pick wsX5_pick) := goodIn_app (goodIn_of _ (by decide +kernel)) ggL_law_X5_pick
set_option maxRecDepth 20000 in
theorem ggL_law_L_unwind : GoodIn wsL_law wsL_unwind := goodIn_ca (goodIn_r _ [958, 99, 959, 960, 961, 2, 962, 16, 20, 792, 759, 108, 109, 110, 111, 112, 113, 715, 716, 717, 718, 675, 963, 964, 965, 26, 966, 51, 967, 563, 564, 565, 50, 433, 434, 435, 436, 30, 437, 438, 439, 440, 131, 132, 133, 134, 1317, 1318, 1301, 1302, 1303, 1304, 1305, 1306, 1307, 1308, 1309, 1319, 1320, 1321, 1322, 1323, 1324, 1325, 1326, 1335, 1336] (by decide +kernel) (by decide +kernel)) (goodIn_sub (fun _ h => List.mem_append_left _ (List.mem_append_right _ h)) (by decide +kernel))
set_option maxRecDepth 20000 in
theorem gL_law_L_unwind : GoodIn wsL_law (va_wsS RL 212 yL_unwind wsL_unwind) := goodIn_app (goodIn_of _ (by decide +kernel)) ggL_law_L_unwind
set_option maxRecDepth 20000 in
theorem ggL_law_X5_unwind : GoodIn wsL_law wsX5_unwind := goodIn_r _ [971, 71, 76, 773, 642, 75, 384, 385, 5, 386, 142, 143, 144, 727, 728, 729, 730, 627, 628, 629, 74, 630, 599, 388, 389, 390, 391, 392, 647, 648, 649, 650, 651, 652, 653, 654, 655, 309, 238, 310, 656, 657, 658, 659, 81, 570, 571, 572, 72, 73, 77, 78, 79, 80, 82, 83, 84, 85, 86, 87, 88, 89, 90, 91, 13, 14, 387, 246, 247, 233, 248, 249, 250, 251, 252, 253, 254, 255, 573, 574, 575, 294, 295, 296, 297, 298, 299, 300, 301, 302, 303, 274, 304, 305, 306, 307, 235, 308, 311, 312, 158, 313, 314, 315, 316, 228, 229, 230, 317, 318, 319, 320, 224, 243, 244, 576, 577, 578, 579, 580, 581, 582, 583, 584, 585, 586, 587, 588, 589, 590, 591, 592, 593, 594, 595, 596, 597, 598, 600, 601, 602, 603, 604, 605, 606, 607, 608, 609, 610, 611, 612, 195, 196, 197, 613, 614, 191, 192, 193, 194, 198, 199, 200, 201, 615, 616, 204, 617, 618, 619, 620, 621, 622, 623, 624, 625, 626, 212, 213, 214, 215, 132, 133, 134, 475, 476, 477, 478, 479, 660, 661, 662, 663, 445, 446, 447, 139, 140, 141, 145, 146, 147, 148, 149, 150, 151, 152, 153, 49, 154, 155, 156, 157, 159, 160, 161, 162, 163, 448, 449, 450, 451, 452, 453, 232, 234, 236, 237, 239, 454, 455, 456, 457, 340, 458, 365, 366, 206, 207, 208, 209, 210, 211, 367, 368, 369, 370, 371, 372, 373, 459, 460, 461, 347, 462, 463, 464, 465, 466, 467, 375, 376, 377, 378, 379, 279, 280, 281, 282, 283, 284, 285, 286, 287, 380, 468, 382, 383, 469, 164, 165, 166, 167, 168, 169, 170, 171, 172, 173, 174, 175, 176, 177, 178, 179, 180, 181, 182, 183, 184, 185, 186, 187, 188, 189, 190, 202, 203, 205, 216, 217, 218, 219, 220, 221, 222, 223, 225, 226, 227, 231, 240, 241, 242, 245, 256, 257, 258, 259, 260, 261, 262, 263, 264, 265, 266, 267, 268, 269, 270, 271, 272, 273, 275, 276, 277, 278, 288, 289, 290, 291, 292, 293, 470, 471, 472, 473, 474, 335, 336, 337, 338, 339, 341, 342, 343, 344, 345, 346, 348, 349, 350, 351, 352, 353, 354, 355, 356, 357, 358, 359, 360, 361, 362, 363, 364, 374, 381, 1310, 1311, 1312, 1313, 1314, 1315, 1316, 1337, 1338, 1339, 1344, 1345, 1346, 1347, 1348, 1340, 1341, 1342, 1343] (by decide +kernel) (by decide +kernel)
set_option maxRecDepth 20000 in
theorem gL_law_X5_unwind : GoodIn wsL_law (wsV RL 214 RX5 yX5_unwind wsX5_unwind) := goodIn_app (goodIn_of _ (by decide +kernel)) ggL_law_X5_unwind
set_option maxRecDepth 20000 in
theorem ggL_law_L_spots : GoodIn wsL_law wsL_spots := goodIn_ca (goodIn_r _ [974, 99, 975, 976, 977, 2, 978, 20, 16, 109, 110, 111, 112, 113, 979, 980, 981, 19, 982, 871, 44, 38, 872, 563, 564, 26, 565, 51, 50, 1317, 1318, 1301, 1302, 1303, 1304, 1305, 1306, 1307, 1308, 1309, 1335, 1336, 1319, 1320, 1321, 1322, 1323, 1324, 1325, 1326] (by decide +kernel) (by decide +kernel)) (goodIn_sub (fun _ h => List.mem_append_left _ (List.mem_append_right _ h)) (by decide +kernel))
set_option maxRecDepth 20000 in
theorem gL_law_L_spots : GoodIn wsL_law (va_wsS RL 215 yL_spots wsL_spots) := goodIn_app (goodIn_of _ (by decide +kernel)) ggL_law_L_spots
set_option maxRecDepth 20000 in
theorem ggL_law_X5_spots : GoodIn wsL_law wsX5_spots := goodIn_r _ [986, 71, 384, 385, 5, 386, 142, 143, 144, 388, 389, 390, 391, 392, 952, 953, 954, 955, 72, 73, 74, 75, 773, 56, 77, 78, 79, 80, 81, 82, 83, 84, 85, 86, 87, 88, 89, 90, 91, 13, 14, 387, 246, 247, 233, 248, 249, 250, 251, 252, 253, 254, 255, 627, 628, 629, 630, 599, 647, 648, 649, 650, 651, 652, 653, 654, 655, 309, 238, 310, 656, 657, 658, 659, 573, 574, 575, 294, 295, 296, 297, 298, 299, 300, 301, 302, 303, 274, 304, 305, 306, 307, 235, 308, 311, 312, 158, 313, 314, 315, 316, 228, 229, 230, 317, 318, 319, 320, 224, 243, 244, 593, 594, 595, 596, 597, 598, 600, 601, 602, 603, 604, 605, 606, 607, 608, 609, 610, 611, 612, 195, 196, 197, 613, 614, 191, 192, 193, 194, 198, 199, 200, 201, 615, 616, 204, 617, 618, 619, 620, 621, 622, 623, 624, 625, 626, 212, 213, 214, 215, 132, 133, 134, 1310, 1311, 1312, 1313, 1314, 1315, 1316, 1337, 1338, 1339, 1344, 1345, 1346, 1347] (by decide +kernel) (by decide +kernel)
set_option maxRecDepth 20000 in
theorem gL_law_X5_spots : GoodIn wsL_law (wsV RL 217 RX5 yX5_spots wsX5_spots) := goodIn_app (goodIn_of _ (by decide +kernel)) ggL_law_X5_spots
set_option maxRecDepth 20000 in
theorem ggL_law_L_spot : GoodIn wsL_law wsL_spot := goodIn_ca (goodIn_r _ [989, 99, 990, 991, 992, 2, 993, 20, 16, 27, 812, 140, 141, 109, 110, 111, 112, 113, 943, 944, 945, 19, 946, 871, 877, 878, 879, 880, 44, 38, 881, 882, 883, 884, 885, 886, 872, 563, 564, 26, 565, 51, 50, 415, 416, 417, 418, 131, 132, 133, 134, 895, 896, 897, 898, 39, 899, 438, 439, 440, 813, 146, 147, 148, 149, 150, 151, 152, 13, 14, 153, 49, 154, 155, 156, 157, 158, 159, 160, 161, 162, 163, 900, 994, 995, 996, 997, 998, 999, 170, 1000, 1001, 173, 1002, 1003, 578, 1004, 179, 180, 181, 182, 183, 184, 185, 186, 187, 188, 189, 190, 191, 192, 193, 194, 195, 196, 197, 198, 199, 200, 201, 202, 203, 204, 205, 206, 207, 208, 209, 210, 211, 212, 213, 214, 215, 216, 217, 218, 219, 220, 1005, 1006, 1007, 1008, 1009, 1010, 1011, 1012, 224, 225, 226, 227, 228, 229, 230, 231, 232, 233, 234, 235, 236, 237, 238, 239, 1013, 1014, 1015, 1016, 1017, 240, 241, 242, 243, 244, 815, 322, 323, 324, 325, 326, 327, 328, 329, 330, 274, 331, 267, 268, 269, 270, 271, 272, 273, 275, 276, 277, 278, 279, 280, 281, 282, 283, 284, 285, 286, 287, 332, 333, 334, 314, 315, 316, 317, 306, 307, 308, 309, 310, 1018, 814, 520, 521, 522, 523, 816, 336, 337, 338, 339, 340, 341, 342, 343, 344, 345, 346, 347, 255, 249, 254, 348, 349, 350, 351, 352, 353, 354, 355, 356, 357, 358, 359, 360, 361, 362, 363, 364, 365, 366, 367, 368, 369, 370, 371, 372, 373, 374, 375, 376, 377, 378, 379, 318, 319, 320, 380, 381, 382, 383, 1317, 1318, 1301, 1302, 1303, 1304, 1305, 1306, 1307, 1308, 1309, 1340, 1341, 1342, 1343, 1335, 1336, 1319, 1320, 1321, 1322, 1323, 1324, 1325, 1326, 1344, 1345, 1346, 1347] (by decide +kernel) (by decide +kernel)) (goodIn_sub (fun _ h => List.mem_append_left _ (List.mem_append_right _ h)) (by decide +kernel))
set_option maxRecDepth 20000 in
theorem gL_law_L_spot : GoodIn wsL_law (va_wsS RL 218 yL_spot wsL_spot) := goodIn_app (goodIn_of _ (by decide +kernel)) ggL_law_L_spot
set_option maxRecDepth 20000 in
theorem ggL_law_X5_spot : GoodIn wsL_law wsX5_spot := goodIn_r _ [1022, 71, 951, 139, 140, 141, 384, 385, 5, 386, 142, 143, 144, 388, 389, 390, 391, 392, 952, 953, 954, 955, 72, 73, 74, 75, 773, 56, 77, 78, 79, 80, 81, 82, 83, 84, 85, 86, 87, 88, 89, 90, 91, 13, 14, 387, 246, 247, 233, 248, 249, 250, 251, 252, 253, 254, 255, 627, 628, 629, 630, 599, 647, 648, 649, 650, 651, 652, 653, 654, 655, 309, 238, 310, 656, 657, 658, 659, 573, 574, 575, 294, 295, 296, 297, 298, 299, 300, 301, 302, 303, 274, 304, 305, 306, 307, 235, 308, 311, 312, 158, 313, 314, 315, 316, 228, 229, 230, 317, 318, 319, 320, 224, 243, 244, 593, 594, 595, 596, 597, 598, 600, 601, 602, 603, 604, 605, 606, 607, 608, 609, 610, 611, 612, 195, 196, 197, 613, 614, 191, 192, 193, 194, 198, 199, 200, 201, 615, 616, 204, 617, 618, 619, 620, 621, 622, 623, 624, 625, 626, 212, 213, 214, 215, 132, 133, 134, 145, 146, 147, 148, 149, 150, 151, 152, 153, 49, 154, 155, 156, 157, 159, 160, 161, 162, 163, 1023, 995, 996, 997, 998, 999, 170, 1000, 1001, 173, 1002, 1003, 578, 1004, 179, 180, 181, 182, 183, 184, 185, 186, 187, 188, 189, 190, 202, 203, 205, 206, 207, 208, 209, 210, 211, 216, 217, 218, 219, 220, 1005, 1006, 1007, 1008, 1009, 1010, 1011, 1012, 225, 226, 227, 231, 232, 234, 236, 237, 239, 1013, 1014, 1015, 1016, 1017, 240, 241, 242, 164, 165, 166, 167, 168, 169, 171, 172, 174, 175, 176, 177, 178, 221, 222, 223, 245, 256, 257, 258, 259, 260, 261, 262, 263, 264, 265, 266, 267, 268, 269, 270, 271, 272, 273, 275, 276, 277, 278, 279, 280, 281, 282, 283, 284, 285, 286, 287, 288, 289, 290, 291, 292, 293, 910, 911, 912, 913, 76, 445, 446, 447, 448, 449, 450, 451, 452, 453, 454, 455, 456, 457, 340, 458, 365, 366, 367, 368, 369, 370, 371, 372, 373, 459, 460, 461, 347, 462, 463, 464, 465, 466, 467, 375, 376, 377, 378, 379, 380, 468, 382, 383, 469, 470, 471, 472, 473, 474, 335, 336, 337, 338, 339, 341, 342, 343, 344, 345, 346, 348, 349, 350, 351, 352, 353, 354, 355, 356, 357, 358, 359, 360, 361, 362, 363, 364, 374, 381, 1310, 1311, 1312, 1313, 1314, 1315, 1316, 1340, 1341, 1342, 1343, 1337, 1338, 1339, 1344, 1345, 1346, 1347] (by decide +kernel) (by decide +kernel)
set_option maxRecDepth 20000 in
theorem gL_law_X5_spot : GoodIn wsL_law (wsV RL 220 RX5 yX5_spot wsX5_spot) := goodIn_app (goodIn_of _ (by decide +kernel)) ggL_law_X5_spot
set_option maxRecDepth 20000 in
theorem ggL_law_L_isEnd : GoodIn wsL_law wsL_isEnd := goodIn_ca (goodIn_r _ [1026, 99, 1027, 1028, 1029, 2, 1030, 20, 16, 109, 110, 111, 112, 113, 1031, 1032, 1033, 19, 1034, 877, 878, 879, 880, 871, 44, 38, 881, 882, 883, 884, 885, 886, 872, 563, 564, 26, 565, 51, 50, 1317, 1318, 1301, 1302, 1303, 1304, 1305, 1306, 1307, 1308, 1309, 1335, 1336, 1319, 1320, 1321, 1322, 1323, 1324, 1325, 1326] (by decide +kernel) (by decide +kernel)) (goodIn_sub (fun _ h => List.mem_append_left _ (List.mem_append_right _ h)) (by decide +kernel))
set_option maxRecDepth 20000 in
theorem gL_law_L_isEnd : GoodIn wsL_law (va_wsS RL 221 yL_isEnd wsL_isEnd) := goodIn_app (goodIn_of _ (by decide +kernel)) ggL_law_L_isEnd
set_option maxRecDepth 20000 in
theorem ggL_law_X5_isEnd : GoodIn wsL_law wsX5_isEnd := goodIn_r _ [1038, 71, 384, 385, 5, 386, 142, 143, 144, 388, 389, 390, 391, 392, 1039, 1040, 1041, 1042, 906, 907, 908, 909, 75, 773, 56, 627, 628, 629, 74, 630, 599, 387, 246, 247, 233, 248, 249, 250, 251, 252, 253, 254, 255, 647, 648, 649, 650, 651, 652, 653, 654, 655, 309, 238, 310, 656, 657, 658, 659, 81, 573, 574, 575, 294, 295, 296, 297, 298, 299, 300, 301, 302, 303, 274, 304, 305, 306, 307, 235, 308, 311, 312, 158, 313, 314, 315, 316, 228, 229, 230, 317, 318, 319, 320, 224, 243, 244, 1310, 1311, 1312, 1313, 1314, 1315, 1316, 1337, 1338, 1339, 1344, 1345, 1346, 1347] (by decide +kernel) (by decide +kernel)
set_option maxRecDepth 20000 in
theorem gL_law_X5_isEnd : GoodIn wsL_law (wsV RL 223 RX5 yX5_isEnd wsX5_isEnd) := goodIn_app (goodIn_of _ (by decide +kernel)) ggL_law_X5_isEnd
set_option maxRecDepth 20000 in
theorem ggL_law_L_form : GoodIn wsL_law wsL_form := goodIn_ca (goodIn_r _ [1045, 99, 1046, 1047, 1048, 2, 1049, 27, 16, 20, 109, 110, 111, 112, 113, 415, 416, 417, 26, 418, 50, 51, 131, 132, 133, 134, 1050, 1051, 1052, 19, 1053, 877, 878, 879, 880, 871, 44, 38, 881, 882, 883, 884, 885, 886, 872, 563, 564, 565, 926, 892, 893, 894, 39, 927, 896, 897, 898, 899, 438, 439, 440, 513, 514, 515, 516, 517, 140, 141, 518, 146, 147, 148, 149, 150, 151, 152, 13, 14, 153, 49, 154, 155, 156, 157, 158, 159, 160, 161, 162, 163, 519, 520, 521, 522, 523, 322, 323, 324, 325, 326, 170, 327, 328, 173, 179, 180, 181, 182, 183, 184, 185, 186, 187, 188, 189, 190, 191, 192, 193, 194, 195, 196, 197, 198, 199, 200, 201, 202, 203, 204, 205, 206, 207, 208, 209, 210, 211, 212, 213, 214, 215, 216, 217, 218, 219, 220, 329, 330, 274, 331, 267, 268, 269, 270, 271, 272, 273, 275, 276, 277, 278, 279, 280, 281, 228, 229, 230, 282, 283, 233, 284, 235, 285, 286, 238, 287, 240, 241, 242, 224, 243, 244, 332, 333, 334, 314, 315, 316, 317, 306, 307, 308, 309, 310, 524, 336, 337, 338, 339, 340, 341, 342, 343, 344, 345, 346, 347, 255, 249, 254, 348, 349, 350, 351, 352, 353, 354, 355, 356, 357, 358, 359, 360, 361, 362, 363, 364, 365, 366, 367, 368, 369, 370, 371, 372, 373, 374, 375, 376, 377, 378, 379, 318, 319, 320, 380, 381, 382, 383, 1317, 1318, 1301, 1302, 1303, 1304, 1305, 1306, 1307, 1308, 1309, 1335, 1336, 1319, 1320, 1321, 1322, 1323, 1324, 1325, 1326, 1340, 1341, 1342, 1343, 1344, 1345, 1346, 1347] (by decide +kernel) (by decide +kernel)) (goodIn_sub (fun _ h => List.mem_append_left _ (List.mem_append_right _ h)) (by decide +kernel))
set_option maxRecDepth 20000 in
theorem gL_law_L_form : GoodIn wsL_law (va_wsS RL 224 yL_form wsL_form) := goodIn_app (goodIn_of _ (by decide +kernel)) ggL_law_L_form
set_option maxRecDepth 20000 in
theorem ggL_law_X5_form : GoodIn wsL_law wsX5_form := goodIn_r _ [1057, 71, 384, 385, 5, 386, 142, 143, 144, 388, 389, 390, 391, 392, 1058, 1059, 1060, 1061, 56, 932, 933, 934, 935, 906, 907, 908, 909, 75, 773, 627, 628, 629, 74, 630, 599, 387, 246, 247, 233, 248, 249, 250, 251, 252, 253, 254, 255, 647, 648, 649, 650, 651, 652, 653, 654, 655, 309, 238, 310, 656, 657, 658, 659, 81, 573, 574, 575, 294, 295, 296, 297, 298, 299, 300, 301, 302, 303, 274, 304, 305, 306, 307, 235, 308, 311, 312, 158, 313, 314, 315, 316, 228, 229, 230, 317, 318, 319, 320, 224, 243, 244, 910, 911, 912, 913, 76, 445, 446, 447, 139, 140, 141, 145, 146, 147, 148, 149, 150, 151, 152, 13, 14, 153, 49, 154, 155, 156, 157, 159, 160, 161, 162, 163, 448, 449, 450, 451, 452, 453, 232, 234, 236, 237, 239, 454, 455, 456, 457, 340, 458, 365, 204, 366, 206, 207, 208, 209, 210, 211, 367, 368, 369, 212, 213, 196, 214, 215, 132, 133, 134, 370, 371, 372, 373, 459, 460, 461, 347, 462, 463, 464, 465, 466, 467, 375, 376, 377, 378, 379, 279, 280, 281, 282, 283, 284, 285, 286, 287, 380, 468, 382, 383, 469, 164, 165, 166, 167, 168, 169, 170, 171, 172, 173, 174, 175, 176, 177, 178, 179, 180, 181, 182, 183, 184, 185, 186, 187, 188, 189, 190, 191, 192, 193, 194, 195, 197, 198, 199, 200, 201, 202, 203, 205, 216, 217, 218, 219, 220, 221, 222, 223, 225, 226, 227, 231, 240, 241, 242, 245, 256, 257, 258, 259, 260, 261, 262, 263, 264, 265, 266, 267, 268, 269, 270, 271, 272, 273, 275, 276, 277, 278, 288, 289, 290, 291, 292, 293, 470, 471, 472, 473, 474, 335, 336, 337, 338, 339, 341, 342, 343, 344, 345, 346, 348, 349, 350, 351, 352, 353, 354, 355, 356, 357, 358, 359, 360, 361, 362, 363, 364, 374, 381, 1310, 1311, 1312, 1313, 1314, 1315, 1316, 1337, 1338, 1339, 1344, 1345, 1346, 1347, 1340, 1341, 1342, 1343] (by decide +kernel) (by decide +kernel)
set_option maxRecDepth 20000 in
theorem gL_law_X5_form : GoodIn wsL_law (wsV RL 226 RX5 yX5_form wsX5_form) := goodIn_app (goodIn_of _ (by decide +kernel)) ggL_law_X5_form
set_option maxRecDepth 20000 in
theorem ggL_law_L_told : GoodIn wsL_law wsL_told := goodIn_ca (goodIn_r _ [1064, 99, 1065, 1066, 1067, 2, 1068, 27, 16, 20, 28, 24, 109, 110, 111, 112, 113, 415, 416, 417, 26, 418, 50, 51, 131, 132, 133, 134, 1050, 1051, 1052, 19, 1053, 877, 878, 879, 880, 871, 44, 38, 881, 882, 883, 884, 885, 886, 872, 563, 564, 565, 926, 892, 893, 894, 39, 927, 896, 897, 898, 899, 438, 439, 440, 1069, 1070, 1071, 1072, 967, 1031, 1032, 1033, 1034, 840, 841, 842, 843, 844, 765, 766, 767, 768, 545, 546, 547, 1073, 1074, 1075, 23, 1076, 64, 62, 1077, 1078, 1079, 1080, 63, 65, 1081, 1082, 1083, 1084, 1085, 1086, 1087, 1088, 1089, 213, 196, 214, 1090, 1091, 1092, 1093, 1094, 1095, 1096, 1097, 57, 1098, 1099, 1100, 1101, 1102, 1103, 1104, 1105, 1106, 60, 61, 1107, 1108, 1109, 1110, 1111, 1112, 1113, 1114, 59, 1115, 1116, 1117, 128, 129, 130, 1118, 1119, 1120, 1121, 1122, 1123, 1124, 1317, 1318, 1301, 1302, 1303, 1304, 1305, 1306, 1307, 1308, 1309, 1335, 1336, 1319, 1320, 1321, 1322, 1323, 1324, 1325, 1326, 1327, 1328, 1329, 1330, 1331, 1332, 1333, 1334] (by decide +kernel) (by decide +kernel)) (goodIn_sub (fun _ h => List.mem_append_left _ (List.mem_append_right _ h)) (by decide +kernel))
set_option maxRecDepth 20000 in
theorem gL_law_L_told : GoodIn wsL_law (va_wsS RL 227 yL_told wsL_told) := goodIn_app (goodIn_of _ (by decide +kernel)) ggL_law_L_told
set_option maxRecDepth 20000 in
theorem ggL_law_X5_told : GoodIn wsL_law wsX5_told := goodIn_r _ [1128, 71, 384, 385, 5, 386, 142, 143, 144, 388, 389, 390, 391, 392, 1058, 1059, 1060, 1061, 56, 932, 933, 934, 935, 906, 907, 908, 909, 75, 773, 627, 628, 629, 74, 630, 599, 387, 246, 247, 233, 248, 249, 250, 251, 252, 253, 254, 255, 647, 648, 649, 650, 651, 652, 653, 654, 655, 309, 238, 310, 656, 657, 658, 659, 81, 573, 574, 575, 294, 295, 296, 297, 298, 299, 300, 301, 302, 303, 274, 304, 305, 306, 307, 235, 308, 311, 312, 158, 313, 314, 315, 316, 228, 229, 230, 317, 318, 319, 320, 224, 243, 244, 910, 911, 912, 913, 76, 445, 446, 447, 139, 140, 141, 145, 146, 147, 148, 149, 150, 151, 152, 13, 14, 153, 49, 154, 155, 156, 157, 159, 160, 161, 162, 163, 448, 449, 450, 451, 452, 453, 232, 234, 236, 237, 239, 454, 455, 456, 457, 340, 458, 365, 204, 366, 206, 207, 208, 209, 210, 211, 367, 368, 369, 212, 213, 196, 214, 215, 132, 133, 134, 370, 371, 372, 373, 459, 460, 461, 347, 462, 463, 464, 465, 466, 467, 375, 376, 377, 378, 379, 279, 280, 281, 282, 283, 284, 285, 286, 287, 380, 468, 382, 383, 469, 164, 165, 166, 167, 168, 169, 170, 171, 172, 173, 174, 175, 176, 177, 178, 179, 180, 181, 182, 183, 184, 185, 186, 187, 188, 189, 190, 191, 192, 193, 194, 195, 197, 198, 199, 200, 201, 202, 203, 205, 216, 217, 218, 219, 220, 221, 222, 223, 225, 226, 227, 231, 240, 241, 242, 245, 256, 257, 258, 259, 260, 261, 262, 263, 264, 265, 266, 267, 268, 269, 270, 271, 272, 273, 275, 276, 277, 278, 288, 289, 290, 291, 292, 293, 470, 471, 472, 473, 474, 335, 336, 337, 338, 339, 341, 342, 343, 344, 345, 346, 348, 349, 350, 351, 352, 353, 354, 355, 356, 357, 358, 359, 360, 361, 362, 363, 364, 374, 381, 1129, 530, 531, 532, 533, 534, 535, 536, 849, 850, 851, 852, 778, 779, 780, 781, 552, 553, 554, 1130, 1131, 1132, 1133, 1134, 1135, 1136, 1137, 1138, 72, 73, 70, 77, 78, 79, 80, 82, 83, 84, 85, 86, 87, 88, 89, 90, 91, 593, 594, 595, 596, 597, 598, 600, 601, 602, 603, 604, 605, 606, 607, 608, 609, 610, 611, 612, 613, 614, 615, 616, 617, 618, 619, 620, 621, 622, 623, 624, 625, 626, 1139, 1140, 1141, 1142, 1039, 1040, 1041, 1042, 1310, 1311, 1312, 1313, 1314, 1315, 1316, 1337, 1338, 1339, 1344, 1345, 1346, 1347, 1340, 1341, 1342, 1343] (by decide +kernel) (by decide +kernel)
set_option maxRecDepth 20000 in
theorem gL_law_X5_told : GoodIn wsL_law (wsV RL 229 RX5 yX5_told wsX5_told) := goodIn_app (goodIn_of _ (by decide +kernel)) ggL_law_X5_told
set_option maxRecDepth 20000 in
theorem ggL_law_X3_peaks : GoodIn wsL_law wsX3_peaks := goodIn_r _ [1146, 24, 1147, 1148, 1149, 23, 1150, 62, 1077, 1078, 1079, 1080, 63, 65, 1081, 64, 1082, 1083, 1084, 1085, 1086, 1087, 1088, 1089, 213, 196, 214, 1090, 1091, 1092, 26, 1093, 51, 50, 1094, 1095, 1096, 1097, 57, 1098, 1099, 1100, 1101, 1102, 563, 564, 565, 1301, 1302, 1303, 1304, 1305, 1306, 1307, 1308, 1309, 1327, 1328, 1329, 1330, 1331, 1332, 1333, 1334, 1319, 1320, 1321, 1322, 1323, 1324, 1325, 1326, 1335, 1336] (by decide +kernel) (by decide +kernel)
set_option maxRecDepth 20000 in
theorem gL_law_X3_peaks : GoodIn wsL_law (wsV RL 230 RX3 yX3_peaks wsX3_peaks) := goodIn_app (goodIn_of _ (by decide +kernel)) ggL_law_X3_peaks
set_option maxRecDepth 20000 in
theorem ggL_law_X5_peaks : GoodIn wsL_law wsX5_peaks := goodIn_r _ [1154, 392, 1135, 1136, 1137, 5, 1138, 72, 73, 74, 75, 773, 70, 139, 140, 141, 76, 77, 78, 79, 80, 81, 82, 83, 84, 85, 86, 87, 88, 89, 90, 91, 13, 14, 627, 628, 629, 630, 599, 647, 648, 649, 650, 651, 652, 653, 654, 655, 309, 238, 310, 656, 657, 658, 659, 387, 246, 247, 233, 248, 249, 250, 251, 252, 253, 254, 255, 448, 449, 450, 451, 452, 453, 232, 234, 235, 236, 237, 239, 298, 299, 300, 301, 454, 455, 274, 456, 457, 340, 458, 365, 204, 366, 206, 207, 208, 209, 210, 211, 367, 368, 369, 49, 212, 213, 196, 214, 215, 132, 133, 134, 370, 371, 372, 373, 459, 460, 461, 347, 462, 463, 158, 464, 465, 466, 467, 375, 376, 377, 378, 379, 279, 280, 281, 228, 229, 230, 282, 283, 284, 285, 286, 287, 318, 319, 320, 224, 243, 244, 160, 161, 162, 163, 380, 468, 382, 383, 469, 573, 574, 575, 294, 295, 296, 297, 302, 303, 304, 305, 306, 307, 308, 311, 312, 313, 314, 315, 316, 317, 470, 471, 472, 473, 474, 145, 146, 147, 148, 149, 150, 151, 152, 153, 154, 155, 156, 157, 159, 164, 165, 166, 167, 168, 169, 170, 171, 172, 173, 174, 175, 176, 177, 178, 179, 180, 181, 182, 183, 184, 185, 186, 187, 188, 189, 190, 191, 192, 193, 194, 195, 197, 198, 199, 200, 201, 202, 203, 205, 216, 217, 218, 219, 220, 221, 222, 223, 225, 226, 227, 231, 240, 241, 242, 245, 256, 257, 258, 259, 260, 261, 262, 263, 264, 265, 266, 267, 268, 269, 270, 271, 272, 273, 275, 276, 277, 278, 288, 289, 290, 291, 292, 293, 335, 336, 337, 338, 339, 341, 342, 343, 344, 345, 346, 348, 349, 350, 351, 352, 353, 354, 355, 356, 357, 358, 359, 360, 361, 362, 363, 364, 374, 381, 593, 594, 595, 596, 597, 598, 600, 601, 602, 603, 604, 605, 606, 607, 608, 609, 610, 611, 612, 613, 614, 615, 616, 617, 618, 619, 620, 621, 622, 623, 624, 625, 626, 445, 446, 447, 1310, 1311, 1312, 1313, 1314, 1315, 1316, 1337, 1338, 1339, 1340, 1341, 1342, 1343, 1344, 1345, 1346, 1347] (by decide +kernel) (by decide +kernel)
set_option maxRecDepth 20000 in
theorem gL_law_X5_peaks : GoodIn wsL_law (wsV RL 233 RX5 yX5_peaks wsX5_peaks) := goodIn_app (goodIn_of _ (by decide +kernel)) ggL_law_X5_peaks
set_option maxRecDepth 20000 in
theorem ggL_law_X3_peak : GoodIn wsL_law wsX3_peak := goodIn_r _ [1158, 24, 812, 140, 141, 1159, 1160, 1161, 1162, 1163, 1164, 23, 1165, 1166, 1148, 1149, 1150, 62, 1077, 1078, 1079, 1080, 63, 65, 1081, 64, 1082, 1083, 1084, 1085, 1086, 1087, 1088, 1089, 213, 196, 214, 1090, 1091, 1092, 26, 1093, 51, 50, 1094, 1095, 1096, 1097, 57, 1098, 1099, 1100, 1101, 1102, 563, 564, 565, 1167, 1108, 1109, 1110, 1111, 1112, 1113, 1114, 59, 60, 1115, 61, 1116, 416, 417, 418, 131, 132, 133, 134, 1117, 128, 129, 130, 1118, 438, 439, 440, 1119, 1120, 1121, 1122, 813, 146, 147, 148, 149, 150, 151, 152, 13, 14, 153, 49, 154, 155, 156, 157, 158, 159, 160, 161, 162, 163, 814, 520, 521, 522, 523, 322, 323, 324, 325, 326, 170, 327, 328, 173, 179, 180, 181, 182, 183, 184, 185, 186, 187, 188, 189, 190, 191, 192, 193, 194, 195, 197, 198, 199, 200, 201, 202, 203, 204, 205, 206, 207, 208, 209, 210, 211, 212, 215, 216, 217, 218, 219, 220, 329, 330, 274, 331, 267, 268, 269, 270, 271, 272, 273, 275, 276, 277, 278, 279, 280, 281, 228, 229, 230, 282, 283, 233, 284, 235, 285, 286, 238, 287, 240, 241, 242, 224, 243, 244, 332, 333, 334, 314, 315, 316, 317, 306, 307, 308, 309, 310, 815, 816, 336, 337, 338, 339, 340, 341, 342, 343, 344, 345, 346, 347, 255, 249, 254, 348, 349, 350, 351, 352, 353, 354, 355, 356, 357, 358, 359, 360, 361, 362, 363, 364, 365, 366, 367, 368, 369, 370, 371, 372, 373, 374, 375, 376, 377, 378, 379, 318, 319, 320, 380, 381, 382, 383, 1301, 1302, 1303, 1304, 1305, 1306, 1307, 1308, 1309, 1340, 1341, 1342, 1343, 1327, 1328, 1329, 1330, 1331, 1332, 1333, 1334, 1319, 1320, 1321, 1322, 1323, 1324, 1325, 1326, 1335, 1336, 1344, 1345, 1346, 1347] (by decide +kernel) (by decide +kernel)
set_option maxRecDepth 20000 in
theorem gL_law_X3_peak : GoodIn wsL_law (wsV RL 234 RX3 yX3_peak wsX3_peak) := goodIn_app (goodIn_of _ (by decide +kernel)) ggL_law_X3_peak
set_option maxRecDepth 20000 in
theorem ggL_law_X5_peak : GoodIn wsL_law wsX5_peak := goodIn_r _ [1171, 392, 1134, 139, 140, 141, 1135, 1136, 1137, 5, 1138, 72, 73, 74, 75, 773, 70, 76, 77, 78, 79, 80, 81, 82, 83, 84, 85, 86, 87, 88, 89, 90, 91, 13, 14, 627, 628, 629, 630, 599, 647, 648, 649, 650, 651, 652, 653, 654, 655, 309, 238, 310, 656, 657, 658, 659, 387, 246, 247, 233, 248, 249, 250, 251, 252, 253, 254, 255, 448, 449, 450, 451, 452, 453, 232, 234, 235, 236, 237, 239, 298, 299, 300, 301, 454, 455, 274, 456, 457, 340, 458, 365, 204, 366, 206, 207, 208, 209, 210, 211, 367, 368, 369, 49, 212, 213, 196, 214, 215, 132, 133, 134, 370, 371, 372, 373, 459, 460, 461, 347, 462, 463, 158, 464, 465, 466, 467, 375, 376, 377, 378, 379, 279, 280, 281, 228, 229, 230, 282, 283, 284, 285, 286, 287, 318, 319, 320, 224, 243, 244, 160, 161, 162, 163, 380, 468, 382, 383, 469, 573, 574, 575, 294, 295, 296, 297, 302, 303, 304, 305, 306, 307, 308, 311, 312, 313, 314, 315, 316, 317, 470, 471, 472, 473, 474, 145, 146, 147, 148, 149, 150, 151, 152, 153, 154, 155, 156, 157, 159, 164, 165, 166, 167, 168, 169, 170, 171, 172, 173, 174, 175, 176, 177, 178, 179, 180, 181, 182, 183, 184, 185, 186, 187, 188, 189, 190, 191, 192, 193, 194, 195, 197, 198, 199, 200, 201, 202, 203, 205, 216, 217, 218, 219, 220, 221, 222, 223, 225, 226, 227, 231, 240, 241, 242, 245, 256, 257, 258, 259, 260, 261, 262, 263, 264, 265, 266, 267, 268, 269, 270, 271, 272, 273, 275, 276, 277, 278, 288, 289, 290, 291, 292, 293, 335, 336, 337, 338, 339, 341, 342, 343, 344, 345, 346, 348, 349, 350, 351, 352, 353, 354, 355, 356, 357, 358, 359, 360, 361, 362, 363, 364, 374, 381, 593, 594, 595, 596, 597, 598, 600, 601, 602, 603, 604, 605, 606, 607, 608, 609, 610, 611, 612, 613, 614, 615, 616, 617, 618, 619, 620, 621, 622, 623, 624, 625, 626, 445, 446, 447, 142, 143, 144, 1310, 1311, 1312, 1313, 1314, 1315, 1316, 1340, 1341, 1342, 1343, 1337, 1338, 1339, 1344, 1345, 1346, 1347] (by decide +kernel) (by decide +kernel)
set_option maxRecDepth 20000 in
theorem gL_law_X5_peak : GoodIn wsL_law (wsV RL 237 RX5 yX5_peak wsX5_peak) := goodIn_app (goodIn_of _ (by decide +kernel)) ggL_law_X5_peak
set_option maxRecDepth 20000 in
theorem ggL_law_L_meets : GoodIn wsL_law wsL_meets := goodIn_ca (goodIn_r _ [1174, 99, 1175, 1176, 1177, 2, 1178, 112, 113, 24, 1162, 1163, 1164, 23, 1165, 1166, 1148, 1149, 1150, 62, 1077, 1078, 1079, 1080, 63, 65, 1081, 64, 1082, 1083, 1084, 1085, 1086, 1087, 1088, 1089, 213, 196, 214, 1090, 1091, 1092, 26, 1093, 51, 50, 1094, 1095, 1096, 1097, 57, 1098, 1099, 1100, 1101, 1102, 563, 564, 565, 1179, 1104, 1105, 1106, 60, 61, 1107, 1108, 1109, 1110, 1111, 1112, 1113, 1114, 59, 1115, 1116, 416, 417, 418, 131, 132, 133, 134, 1117, 128, 129, 130, 1118, 438, 439, 440, 1119, 1120, 1121, 1122, 1123, 1051, 1052, 19, 1053, 877, 878, 879, 880, 871, 44, 38, 881, 882, 883, 884, 885, 886, 872, 926, 892, 893, 894, 39, 927, 896, 897, 898, 899, 1124, 1070, 1071, 1072, 967, 1317, 1318, 1301, 1302, 1303, 1304, 1305, 1306, 1307, 1308, 1309, 1327, 1328, 1329, 1330, 1331, 1332, 1333, 1334, 1319, 1320, 1321, 1322, 1323, 1324, 1325, 1326, 1335, 1336] (by decide +kernel) (by decide +kernel)) (goodIn_sub (fun _ h => List.mem_append_left _ (List.mem_append_right _ h)) (by decide +kernel))
set_option maxRecDepth 20000 in
theorem gL_law_L_meets : GoodIn wsL_law (va_wsS RL 238 yL_meets wsL_meets) := goodIn_app (goodIn_of _ (by decide +kernel)) ggL_law_L_meets
set_option maxRecDepth 20000 in
theorem ggL_law_X5_meets : GoodIn wsL_law wsX5_meets := goodIn_r _ [1183, 1134, 1135, 1136, 1137, 5, 1138, 72, 73, 74, 75, 773, 70, 139, 140, 141, 76, 77, 78, 79, 80, 81, 82, 83, 84, 85, 86, 87, 88, 89, 90, 91, 13, 14, 627, 628, 629, 630, 599, 647, 648, 649, 650, 651, 652, 653, 654, 655, 309, 238, 310, 656, 657, 658, 659, 387, 246, 247, 233, 248, 249, 250, 251, 252, 253, 254, 255, 448, 449, 450, 451, 452, 453, 232, 234, 235, 236, 237, 239, 298, 299, 300, 301, 454, 455, 274, 456, 457, 340, 458, 365, 204, 366, 206, 207, 208, 209, 210, 211, 367, 368, 369, 49, 212, 213, 196, 214, 215, 132, 133, 134, 370, 371, 372, 373, 459, 460, 461, 347, 462, 463, 158, 464, 465, 466, 467, 375, 376, 377, 378, 379, 279, 280, 281, 228, 229, 230, 282, 283, 284, 285, 286, 287, 318, 319, 320, 224, 243, 244, 160, 161, 162, 163, 380, 468, 382, 383, 469, 573, 574, 575, 294, 295, 296, 297, 302, 303, 304, 305, 306, 307, 308, 311, 312, 313, 314, 315, 316, 317, 470, 471, 472, 473, 474, 145, 146, 147, 148, 149, 150, 151, 152, 153, 154, 155, 156, 157, 159, 164, 165, 166, 167, 168, 169, 170, 171, 172, 173, 174, 175, 176, 177, 178, 179, 180, 181, 182, 183, 184, 185, 186, 187, 188, 189, 190, 191, 192, 193, 194, 195, 197, 198, 199, 200, 201, 202, 203, 205, 216, 217, 218, 219, 220, 221, 222, 223, 225, 226, 227, 231, 240, 241, 242, 245, 256, 257, 258, 259, 260, 261, 262, 263, 264, 265, 266, 267, 268, 269, 270, 271, 272, 273, 275, 276, 277, 278, 288, 289, 290, 291, 292, 293, 335, 336, 337, 338, 339, 341, 342, 343, 344, 345, 346, 348, 349, 350, 351, 352, 353, 354, 355, 356, 357, 358, 359, 360, 361, 362, 363, 364, 374, 381, 593, 594, 595, 596, 597, 598, 600, 601, 602, 603, 604, 605, 606, 607, 608, 609, 610, 611, 612, 613, 614, 615, 616, 617, 618, 619, 620, 621, 622, 623, 624, 625, 626, 445, 446, 447, 142, 143, 144, 388, 389, 390, 391, 392, 1139, 1140, 1141, 1142, 1058, 1059, 1060, 1061, 56, 932, 933, 934, 935, 906, 907, 908, 909, 910, 911, 912, 913, 1129, 530, 531, 532, 533, 534, 535, 536, 1337, 1338, 1339, 1310, 1311, 1312, 1313, 1314, 1315, 1316, 1340, 1341, 1342, 1343, 1344, 1345, 1346, 1347] (by decide +kernel) (by decide +kernel)
set_option maxRecDepth 20000 in
theorem gL_law_X5_meets : GoodIn wsL_law (wsV RL 240 RX5 yX5_meets wsX5_meets) := goodIn_app (goodIn_of _ (by decide +kernel)) ggL_law_X5_meets
set_option maxRecDepth 20000 in
theorem ggL_law_X3_unmet : GoodIn wsL_law wsX3_unmet := goodIn_r _ [1187, 24, 1073, 1074, 1075, 23, 1076, 64, 62, 1077, 1078, 1079, 1080, 63, 65, 1081, 1082, 1083, 1084, 1085, 1086, 1087, 1088, 1089, 213, 196, 214, 1090, 1091, 1092, 26, 1093, 51, 50, 1094, 1095, 1096, 1097, 57, 1098, 1099, 1100, 1101, 1102, 563, 564, 565, 1103, 1104, 1105, 1106, 60, 61, 1107, 1108, 1109, 1110, 1111, 1112, 1113, 1114, 59, 1115, 1116, 416, 417, 418, 131, 132, 133, 134, 1117, 128, 129, 130, 1118, 438, 439, 440, 1119, 1120, 1121, 1122, 1123, 1051, 1052, 19, 1053, 877, 878, 879, 880, 871, 44, 38, 881, 882, 883, 884, 885, 886, 872, 926, 892, 893, 894, 39, 927, 896, 897, 898, 899, 1124, 1070, 1071, 1072, 967, 1301, 1302, 1303, 1304, 1305, 1306, 1307, 1308, 1309, 1327, 1328, 1329, 1330, 1331, 1332, 1333, 1334, 1319, 1320, 1321, 1322, 1323, 1324, 1325, 1326, 1335, 1336] (by decide +kernel) (by decide +kernel)
set_option maxRecDepth 20000 in
theorem gL_law_X3_unmet : GoodIn wsL_law (wsV RL 241 RX3 yX3_unmet wsX3_unmet) := goodIn_app (goodIn_of _ (by decide +kernel)) ggL_law_X3_unmet
set_option maxRecDepth 20000 in
theorem ggL_law_X5_unmet : GoodIn wsL_law wsX5_unmet := goodIn_r _ [1191, 392, 1130, 1131, 1132, 5, 1133, 1134, 1135, 1136, 1137, 1138, 72, 73, 74, 75, 773, 70, 139, 140, 141, 76, 77, 78, 79, 80, 81, 82, 83, 84, 85, 86, 87, 88, 89, 90, 91, 13, 14, 627, 628, 629, 630, 599, 647, 648, 649, 650, 651, 652, 653, 654, 655, 309, 238, 310, 656, 657, 658, 659, 387, 246, 247, 233, 248, 249, 250, 251, 252, 253, 254, 255, 448, 449, 450, 451, 452, 453, 232, 234, 235, 236, 237, 239, 298, 299, 300, 301, 454, 455, 274, 456, 457, 340, 458, 365, 204, 366, 206, 207, 208, 209, 210, 211, 367, 368, 369, 49, 212, 213, 196, 214, 215, 132, 133, 134, 370, 371, 372, 373, 459, 460, 461, 347, 462, 463, 158, 464, 465, 466, 467, 375, 376, 377, 378, 379, 279, 280, 281, 228, 229, 230, 282, 283, 284, 285, 286, 287, 318, 319, 320, 224, 243, 244, 160, 161, 162, 163, 380, 468, 382, 383, 469, 573, 574, 575, 294, 295, 296, 297, 302, 303, 304, 305, 306, 307, 308, 311, 312, 313, 314, 315, 316, 317, 470, 471, 472, 473, 474, 145, 146, 147, 148, 149, 150, 151, 152, 153, 154, 155, 156, 157, 159, 164, 165, 166, 167, 168, 169, 170, 171, 172, 173, 174, 175, 176, 177, 178, 179, 180, 181, 182, 183, 184, 185, 186, 187, 188, 189, 190, 191, 192, 193, 194, 195, 197, 198, 199, 200, 201, 202, 203, 205, 216, 217, 218, 219, 220, 221, 222, 223, 225, 226, 227, 231, 240, 241, 242, 245, 256, 257, 258, 259, 260, 261, 262, 263, 264, 265, 266, 267, 268, 269, 270, 271, 272, 273, 275, 276, 277, 278, 288, 289, 290, 291, 292, 293, 335, 336, 337, 338, 339, 341, 342, 343, 344, 345, 346, 348, 349, 350, 351, 352, 353, 354, 355, 356, 357, 358, 359, 360, 361, 362, 363, 364, 374, 381, 593, 594, 595, 596, 597, 598, 600, 601, 602, 603, 604, 605, 606, 607, 608, 609, 610, 611, 612, 613, 614, 615, 616, 617, 618, 619, 620, 621, 622, 623, 624, 625, 626, 445, 446, 447, 1139, 1140, 1141, 1142, 1058, 1059, 1060, 1061, 56, 932, 933, 934, 935, 906, 907, 908, 909, 910, 911, 912, 913, 1129, 530, 531, 532, 533, 534, 535, 536, 1310, 1311, 1312, 1313, 1314, 1315, 1316, 1337, 1338, 1339, 1340, 1341, 1342, 1343, 1344, 1345, 1346, 1347] (by decide +kernel) (by decide +kernel)
set_option maxRecDepth 20000 in
theorem gL_law_X5_unmet : GoodIn wsL_law (wsV RL 244 RX5 yX5_unmet wsX5_unmet) := goodIn_app (goodIn_of _ (by decide +kernel)) ggL_law_X5_unmet
set_option maxRecDepth 20000 in
theorem ggL_law_X3_complete : GoodIn wsL_law wsX3_complete := goodIn_r _ [1195, 24, 20, 1160, 1161, 1073, 1074, 1075, 23, 1076, 64, 62, 1077, 1078, 1079, 1080, 63, 65, 1081, 1082, 1083, 1084, 1085, 1086, 1087, 1088, 1089, 213, 196, 214, 1090, 1091, 1092, 26, 1093, 51, 50, 1094, 1095, 1096, 1097, 57, 1098, 1099, 1100, 1101, 1102, 563, 564, 565, 1103, 1104, 1105, 1106, 60, 61, 1107, 1108, 1109, 1110, 1111, 1112, 1113, 1114, 59, 1115, 1116, 416, 417, 418, 131, 132, 133, 134, 1117, 128, 129, 130, 1118, 438, 439, 440, 1119, 1120, 1121, 1122, 1123, 1051, 1052, 19, 1053, 877, 878, 879, 880, 871, 44, 38, 881, 882, 883, 884, 885, 886, 872, 926, 892, 893, 894, 39, 927, 896, 897, 898, 899, 1124, 1070, 1071, 1072, 967, 1167, 1050, 700, 701, 702, 2, 703, 544, 545, 546, 547, 433, 434, 435, 436, 30, 671, 672, 673, 674, 108, 675, 676, 677, 678, 679, 45, 680, 1301, 1302, 1303, 1304, 1305, 1306, 1307, 1308, 1309, 1327, 1328, 1329, 1330, 1331, 1332, 1333, 1334, 1319, 1320, 1321, 1322, 1323, 1324, 1325, 1326, 1335, 1336] (by decide +kernel) (by decide +kernel)
set_option maxRecDepth 20000 in
theorem gL_law_X3_complete : GoodIn wsL_law (wsV RL 245 RX3 yX3_complete wsX3_complete) := goodIn_app (goodIn_of _ (by decide +kernel)) ggL_law_X3_complete
set_option maxRecDepth 20000 in
theorem ggL_law_X5_complete : GoodIn wsL_law wsX5_complete := goodIn_r _ [1199, 392, 1134, 1130, 1131, 1132, 5, 1133, 1135, 1136, 1137, 1138, 72, 73, 74, 75, 773, 70, 139, 140, 141, 76, 77, 78, 79, 80, 81, 82, 83, 84, 85, 86, 87, 88, 89, 90, 91, 13, 14, 627, 628, 629, 630, 599, 647, 648, 649, 650, 651, 652, 653, 654, 655, 309, 238, 310, 656, 657, 658, 659, 387, 246, 247, 233, 248, 249, 250, 251, 252, 253, 254, 255, 448, 449, 450, 451, 452, 453, 232, 234, 235, 236, 237, 239, 298, 299, 300, 301, 454, 455, 274, 456, 457, 340, 458, 365, 204, 366, 206, 207, 208, 209, 210, 211, 367, 368, 369, 49, 212, 213, 196, 214, 215, 132, 133, 134, 370, 371, 372, 373, 459, 460, 461, 347, 462, 463, 158, 464, 465, 466, 467, 375, 376, 377, 378, 379, 279, 280, 281, 228, 229, 230, 282, 283, 284, 285, 286, 287, 318, 319, 320, 224, 243, 244, 160, 161, 162, 163, 380, 468, 382, 383, 469, 573, 574, 575, 294, 295, 296, 297, 302, 303, 304, 305, 306, 307, 308, 311, 312, 313, 314, 315, 316, 317, 470, 471, 472, 473, 474, 145, 146, 147, 148, 149, 150, 151, 152, 153, 154, 155, 156, 157, 159, 164, 165, 166, 167, 168, 169, 170, 171, 172, 173, 174, 175, 176, 177, 178, 179, 180, 181, 182, 183, 184, 185, 186, 187, 188, 189, 190, 191, 192, 193, 194, 195, 197, 198, 199, 200, 201, 202, 203, 205, 216, 217, 218, 219, 220, 221, 222, 223, 225, 226, 227, 231, 240, 241, 242, 245, 256, 257, 258, 259, 260, 261, 262, 263, 264, 265, 266, 267, 268, 269, 270, 271, 272, 273, 275, 276, 277, 278, 288, 289, 290, 291, 292, 293, 335, 336, 337, 338, 339, 341, 342, 343, 344, 345, 346, 348, 349, 350, 351, 352, 353, 354, 355, 356, 357, 358, 359, 360, 361, 362, 363, 364, 374, 381, 593, 594, 595, 596, 597, 598, 600, 601, 602, 603, 604, 605, 606, 607, 608, 609, 610, 611, 612, 613, 614, 615, 616, 617, 618, 619, 620, 621, 622, 623, 624, 625, 626, 445, 446, 447, 1139, 1140, 1141, 1142, 1058, 1059, 1060, 1061, 56, 932, 933, 934, 935, 906, 907, 908, 909, 910, 911, 912, 913, 1129, 530, 531, 532, 533, 534, 535, 536, 475, 476, 477, 478, 479, 552, 553, 554, 685, 686, 687, 688, 689, 690, 691, 692, 1310, 1311, 1312, 1313, 1314, 1315, 1316, 1337, 1338, 1339, 1340, 1341, 1342, 1343, 1344, 1345, 1346, 1347] (by decide +kernel) (by decide +kernel)
set_option maxRecDepth 20000 in
theorem gL_law_X5_complete : GoodIn wsL_law (wsV RL 248 RX5 yX5_complete wsX5_complete) := goodIn_app (goodIn_of _ (by decide +kernel)) ggL_law_X5_complete
set_option maxRecDepth 20000 in
theorem ggL_law_X3_tidy : GoodIn wsL_law wsX3_tidy := goodIn_r _ [1203, 20, 675, 1204, 1205, 1206, 19, 1207, 40, 38, 41, 39, 43, 42, 871, 680, 416, 417, 26, 418, 50, 51, 131, 132, 133, 134, 1208, 720, 721, 722, 44, 45, 1209, 1051, 1052, 1053, 877, 878, 879, 880, 881, 882, 883, 884, 885, 886, 872, 563, 564, 565, 926, 892, 893, 894, 927, 896, 897, 898, 899, 438, 439, 440, 1210, 1032, 1033, 1034, 1211, 1070, 1071, 1072, 967, 1212, 677, 678, 679, 1301, 1302, 1303, 1304, 1305, 1306, 1307, 1308, 1309, 1319, 1320, 1321, 1322, 1323, 1324, 1325, 1326, 1335, 1336] (by decide +kernel) (by decide +kernel)
set_option maxRecDepth 20000 in
theorem gL_law_X3_tidy : GoodIn wsL_law (wsV RL 249 RX3 yX3_tidy wsX3_tidy) := goodIn_app (goodIn_of _ (by decide +kernel)) ggL_law_X3_tidy
set_option maxRecDepth 20000 in
theorem ggL_law_X5_tidy : GoodIn wsL_law wsX5_tidy := goodIn_r _ [1216, 392, 75, 773, 76, 627, 628, 629, 74, 630, 599, 731, 732, 733, 734, 81, 651, 652, 653, 654, 655, 309, 238, 310, 735, 736, 737, 738, 597, 598, 739, 132, 133, 134, 1058, 1059, 1060, 5, 1061, 56, 932, 933, 934, 935, 906, 907, 908, 909, 387, 246, 247, 233, 248, 249, 250, 251, 252, 253, 254, 255, 647, 648, 649, 650, 656, 657, 658, 659, 573, 574, 575, 294, 295, 296, 297, 298, 299, 300, 301, 302, 303, 274, 304, 305, 306, 307, 235, 308, 311, 312, 158, 313, 314, 315, 316, 228, 229, 230, 317, 318, 319, 320, 224, 243, 244, 910, 911, 912, 913, 445, 446, 447, 139, 140, 141, 145, 146, 147, 148, 149, 150, 151, 152, 13, 14, 153, 49, 154, 155, 156, 157, 159, 160, 161, 162, 163, 448, 449, 450, 451, 452, 453, 232, 234, 236, 237, 239, 454, 455, 456, 457, 340, 458, 365, 204, 366, 206, 207, 208, 209, 210, 211, 367, 368, 369, 212, 213, 196, 214, 215, 370, 371, 372, 373, 459, 460, 461, 347, 462, 463, 464, 465, 466, 467, 375, 376, 377, 378, 379, 279, 280, 281, 282, 283, 284, 285, 286, 287, 380, 468, 382, 383, 469, 164, 165, 166, 167, 168, 169, 170, 171, 172, 173, 174, 175, 176, 177, 178, 179, 180, 181, 182, 183, 184, 185, 186, 187, 188, 189, 190, 191, 192, 193, 194, 195, 197, 198, 199, 200, 201, 202, 203, 205, 216, 217, 218, 219, 220, 221, 222, 223, 225, 226, 227, 231, 240, 241, 242, 245, 256, 257, 258, 259, 260, 261, 262, 263, 264, 265, 266, 267, 268, 269, 270, 271, 272, 273, 275, 276, 277, 278, 288, 289, 290, 291, 292, 293, 470, 471, 472, 473, 474, 335, 336, 337, 338, 339, 341, 342, 343, 344, 345, 346, 348, 349, 350, 351, 352, 353, 354, 355, 356, 357, 358, 359, 360, 361, 362, 363, 364, 374, 381, 1129, 530, 531, 532, 533, 534, 535, 536, 1039, 1040, 1041, 1042, 1217, 1218, 1219, 1220, 1221, 1222, 1223, 1224, 604, 605, 606, 607, 608, 609, 610, 611, 80, 612, 613, 614, 615, 616, 617, 618, 619, 620, 621, 622, 623, 624, 625, 626, 782, 783, 784, 1310, 1311, 1312, 1313, 1314, 1315, 1316, 1337, 1338, 1339, 1344, 1345, 1346, 1347, 1340, 1341, 1342, 1343] (by decide +kernel) (by decide +kernel)
set_option maxRecDepth 20000 in
theorem gL_law_X5_tidy : GoodIn wsL_law (wsV RL 252 RX5 yX5_tidy wsX5_tidy) := goodIn_app (goodIn_of _ (by decide +kernel)) ggL_law_X5_tidy
set_option maxRecDepth 20000 in
theorem ggL_law_L_house : GoodIn wsL_law wsL_house := goodIn_ca (goodIn_r _ [1227, 100, 1228, 1229, 1230, 2, 1231, 117, 118, 30, 31, 32, 1232, 1233, 1234, 1235, 16, 108, 1317, 1318, 1301, 1302, 1303, 1304, 1305, 1306, 1307, 1308, 1309, 1335, 1336] (by decide +kernel) (by decide +kernel)) (goodIn_sub (fun _ h => List.mem_append_right _ h) (by decide +kernel))
set_option maxRecDepth 20000 in
theorem gL_law_L_house : GoodIn wsL_law (va_wsS RL 253 yL_house wsL_house) := goodIn_app (goodIn_of _ (by decide +kernel)) ggL_law_L_house
set_option maxRecDepth 20000 in
theorem ggL_law_X5_house : GoodIn wsL_law wsX5_house := goodIn_r _ [1239, 142, 143, 5, 144, 388, 389, 390, 391, 392, 1240, 1241, 1242, 1243, 71, 56, 479, 1244, 905, 387, 246, 247, 233, 248, 249, 250, 251, 252, 253, 254, 255, 1310, 1311, 1312, 1313, 1314, 1315, 1316, 1344, 1345, 1346, 1347] (by decide +kernel) (by decide +kernel)
set_option maxRecDepth 20000 in
theorem gL_law_X5_house : GoodIn wsL_law (wsV RL 255 RX5 yX5_house wsX5_house) := goodIn_app (goodIn_of _ (by decide +kernel)) ggL_law_X5_house
set_option maxRecDepth 20000 in
theorem ggL_law_X3_knock : GoodIn wsL_law wsX3_knock := goodIn_r _ [1248, 31, 1301, 1302, 1303, 1304, 1305, 1306, 1307, 1308, 1309] (by decide +kernel) (by decide +kernel)
set_option maxRecDepth 20000 in
theorem gL_law_X3_knock : GoodIn wsL_law (wsV RL 256 RX3 yX3_knock wsX3_knock) := goodIn_app (goodIn_of _ (by decide +kernel)) ggL_law_X3_knock
set_option maxRecDepth 20000 in
theorem ggL_law_X5_knock : GoodIn wsL_law wsX5_knock := goodIn_r _ [1252, 392, 1244, 1310, 1311, 1312, 1313, 1314, 1315, 1316] (by decide +kernel) (by decide +kernel)
set_option maxRecDepth 20000 in
theorem gL_law_X5_knock : GoodIn wsL_law (wsV RL 259 RX5 yX5_knock wsX5_knock) := goodIn_app (goodIn_of _ (by decide +kernel)) ggL_law_X5_knock
set_option maxRecDepth 20000 in
theorem ggL_law_X3_isSound : GoodIn wsL_law wsX3_isSound := goodIn_r _ [1256, 16, 20, 24, 1257, 1258, 1259, 2, 1260, 27, 792, 759, 1261, 878, 879, 19, 880, 871, 44, 38, 881, 882, 883, 884, 885, 886, 872, 563, 564, 26, 565, 51, 50, 900, 1018, 415, 416, 417, 418, 131, 132, 133, 134, 895, 896, 897, 898, 39, 899, 438, 439, 440, 764, 765, 766, 767, 768, 545, 546, 547, 544, 562, 1262, 1263, 1264, 1265, 498, 499, 500, 501, 1069, 1070, 1071, 1072, 967, 840, 841, 842, 843, 844, 1073, 1074, 1075, 23, 1076, 64, 62, 1077, 1078, 1079, 1080, 63, 65, 1081, 1082, 1083, 1084, 1085, 1086, 1087, 1088, 1089, 213, 196, 214, 1090, 1091, 1092, 1093, 1094, 1095, 1096, 1097, 57, 1098, 1099, 1100, 1101, 1102, 1103, 1104, 1105, 1106, 60, 61, 1107, 1108, 1109, 1110, 1111, 1112, 1113, 1114, 59, 1115, 1116, 1117, 128, 129, 130, 1118, 1119, 1120, 1121, 1122, 1123, 1051, 1052, 1053, 877, 926, 892, 893, 894, 927, 1124, 1266, 1267, 1268, 1269, 28, 921, 922, 923, 924, 925, 864, 865, 866, 867, 868, 869, 870, 873, 874, 875, 876, 1031, 1032, 1033, 1034, 1270, 1271, 1272, 1273, 29, 108, 1050, 127, 1301, 1302, 1303, 1304, 1305, 1306, 1307, 1308, 1309, 1319, 1320, 1321, 1322, 1323, 1324, 1325, 1326, 1335, 1336, 1327, 1328, 1329, 1330, 1331, 1332, 1333, 1334] (by decide +kernel) (by decide +kernel)
set_option maxRecDepth 20000 in
theorem gL_law_X3_isSound : GoodIn wsL_law (wsV RL 260 RX3 yX3_isSound wsX3_isSound) := goodIn_app (goodIn_of _ (by decide +kernel)) ggL_law_X3_isSound
set_option maxRecDepth 20000 in
theorem ggL_law_X5_isSound : GoodIn wsL_law wsX5_isSound := goodIn_r _ [1277, 392, 1310, 1311, 1312, 1313, 1314, 1315, 1316] (by decide +kernel) (by decide +kernel)
set_option maxRecDepth 20000 in
theorem gL_law_X5_isSound : GoodIn wsL_law (wsV RL 263 RX5 yX5_isSound wsX5_isSound) := goodIn_app (goodIn_of _ (by decide +kernel)) ggL_law_X5_isSound
set_option maxRecDepth 20000 in
theorem ggL_law_X3_digest : GoodIn wsL_law wsX3_digest := goodIn_r _ [1281, 1282, 30, 31, 32, 16, 20, 27, 675, 792, 759, 24, 1283, 1284, 2, 1285, 1286, 1232, 1233, 1234, 1235, 108, 1287, 1288, 1289, 26, 1290, 51, 50, 979, 980, 981, 19, 982, 871, 44, 38, 872, 563, 564, 565, 415, 416, 417, 418, 131, 132, 133, 134, 1050, 1051, 1052, 1053, 877, 878, 879, 880, 881, 882, 883, 884, 885, 886, 926, 892, 893, 894, 39, 927, 896, 897, 898, 899, 438, 439, 440, 840, 841, 842, 843, 844, 765, 766, 767, 768, 545, 546, 547, 1147, 1148, 1149, 23, 1150, 62, 1077, 1078, 1079, 1080, 63, 65, 1081, 64, 1082, 1083, 1084, 1085, 1086, 1087, 1088, 1089, 213, 196, 214, 1090, 1091, 1092, 1093, 1094, 1095, 1096, 1097, 57, 1098, 1099, 1100, 1101, 1102, 1073, 1074, 1075, 1076, 1103, 1104, 1105, 1106, 60, 61, 1107, 1108, 1109, 1110, 1111, 1112, 1113, 1114, 59, 1115, 1116, 1117, 128, 129, 130, 1118, 1119, 1120, 1121, 1122, 1123, 1124, 1070, 1071, 1072, 967, 1291, 1254, 1255, 1256, 1257, 1258, 1259, 1260, 1261, 900, 1018, 895, 764, 544, 562, 1262, 1263, 1264, 1265, 498, 499, 500, 501, 1069, 1266, 1267, 1268, 1269, 28, 921, 922, 923, 924, 925, 864, 865, 866, 867, 868, 869, 870, 873, 874, 875, 876, 1031, 1032, 1033, 1034, 1270, 1271, 1272, 1273, 29, 127, 1301, 1302, 1303, 1304, 1305, 1306, 1307, 1308, 1309, 1319, 1320, 1321, 1322, 1323, 1324, 1325, 1326, 1335, 1336, 1327, 1328, 1329, 1330, 1331, 1332, 1333, 1334] (by decide +kernel) (by decide +kernel)
set_option maxRecDepth 20000 in
theorem gL_law_X3_digest : GoodIn wsL_law (wsV RL 264 RX3 yX3_digest wsX3_digest) := goodIn_app (goodIn_of _ (by decide +kernel)) ggL_law_X3_digest
set_option maxRecDepth 20000 in
theorem ggL_law_X5_digest : GoodIn wsL_law wsX5_digest := goodIn_r _ [1295, 392, 1296, 1297, 71, 75, 1240, 1241, 1242, 5, 1243, 56, 479, 1244, 905, 387, 246, 247, 233, 248, 249, 250, 251, 252, 253, 254, 255, 1298, 1299, 1300, 294, 295, 296, 297, 298, 299, 300, 301, 302, 303, 274, 304, 305, 306, 307, 235, 308, 309, 238, 310, 311, 312, 158, 313, 314, 315, 316, 228, 229, 230, 317, 318, 319, 320, 224, 243, 244, 952, 953, 954, 955, 72, 73, 74, 773, 77, 78, 79, 80, 81, 82, 83, 84, 85, 86, 87, 88, 89, 90, 91, 13, 14, 627, 628, 629, 630, 599, 647, 648, 649, 650, 651, 652, 653, 654, 655, 656, 657, 658, 659, 573, 574, 575, 593, 594, 595, 596, 597, 598, 600, 601, 602, 603, 604, 605, 606, 607, 608, 609, 610, 611, 612, 195, 196, 197, 613, 614, 191, 192, 193, 194, 198, 199, 200, 201, 615, 616, 204, 617, 618, 619, 620, 621, 622, 623, 624, 625, 626, 212, 213, 214, 215, 132, 133, 134, 1058, 1059, 1060, 1061, 932, 933, 934, 935, 906, 907, 908, 909, 910, 911, 912, 913, 76, 445, 446, 447, 139, 140, 141, 145, 146, 147, 148, 149, 150, 151, 152, 153, 49, 154, 155, 156, 157, 159, 160, 161, 162, 163, 448, 449, 450, 451, 452, 453, 232, 234, 236, 237, 239, 454, 455, 456, 457, 340, 458, 365, 366, 206, 207, 208, 209, 210, 211, 367, 368, 369, 370, 371, 372, 373, 459, 460, 461, 347, 462, 463, 464, 465, 466, 467, 375, 376, 377, 378, 379, 279, 280, 281, 282, 283, 284, 285, 286, 287, 380, 468, 382, 383, 469, 164, 165, 166, 167, 168, 169, 170, 171, 172, 173, 174, 175, 176, 177, 178, 179, 180, 181, 182, 183, 184, 185, 186, 187, 188, 189, 190, 202, 203, 205, 216, 217, 218, 219, 220, 221, 222, 223, 225, 226, 227, 231, 240, 241, 242, 245, 256, 257, 258, 259, 260, 261, 262, 263, 264, 265, 266, 267, 268, 269, 270, 271, 272, 273, 275, 276, 277, 278, 288, 289, 290, 291, 292, 293, 470, 471, 472, 473, 474, 335, 336, 337, 338, 339, 341, 342, 343, 344, 345, 346, 348, 349, 350, 351, 352, 353, 354, 355, 356, 357, 358, 359, 360, 361, 362, 363, 364, 374, 381, 821, 822, 823, 824, 849, 850, 851, 852, 778, 779, 780, 781, 552, 553, 554, 782, 783, 784, 1135, 1136, 1137, 1138, 70, 1130, 1131, 1132, 1133, 1134, 1139, 1140, 1141, 1142, 1129, 530, 531, 532, 533, 534, 535, 536, 1310, 1311, 1312, 1313, 1314, 1315, 1316, 1344, 1345, 1346, 1347, 1337, 1338, 1339, 1340, 1341, 1342, 1343] (by decide +kernel) (by decide +kernel)
set_option maxRecDepth 20000 in
theorem gL_law_X5_digest : GoodIn wsL_law (wsV RL 268 RX5 yX5_digest wsX5_digest) := goodIn_app (goodIn_of _ (by decide +kernel)) ggL_law_X5_digest
theorem dL_law_0 : decode cL_law 0 = .ok (.new 8, 3) := by decide +kernel
theorem dL_law_3 : decode cL_law 3 = .ok (.dup, 1) := by decide +kernel
theorem dL_law_4 : decode cL_law 4 = .ok (.invokespecial 117, 3) := by decide +kernel
theorem dL_law_7 : decode cL_law 7 = .ok (.astore_n 1, 1) := by decide +kernel
theorem dL_law_8 : decode cL_law 8 = .ok (.new 118, 3) := by decide +kernel
theorem dL_law_11 : decode cL_law 11 = .ok (.dup, 1) := by decide +kernel
theorem dL_law_12 : decode cL_law 12 = .ok (.invokespecial 120, 3) := by decide +kernel
theorem dL_law_15 : decode cL_law 15 = .ok (.astore_n 2, 1) := by decide +kernel
theorem dL_law_16 : decode cL_law 16 = .ok (.new 14, 3) := by decide +kernel
theorem dL_law_19 : decode cL_law 19 = .ok (.dup, 1) := by decide +kernel
theorem dL_law_20 : decode cL_law 20 = .ok (.invokespecial 121, 3) := by decide +kernel
theorem dL_law_23 : decode cL_law 23 = .ok (.astore_n 3, 1) := by decide +kernel
theorem dL_law_24 : decode cL_law 24 = .ok (.iconst 0, 1) := by decide +kernel
theorem dL_law_25 : decode cL_law 25 = .ok (.istore 4, 2) := by decide +kernel
theorem dL_law_27 : decode cL_law 27 = .ok (.iload 4, 2) := by decide +kernel
theorem dL_law_29 : decode cL_law 29 = .ok (.aload_n 0, 1) := by decide +kernel
theorem dL_law_30 : decode cL_law 30 = .ok (.arraylength, 1) := by decide +kernel
theorem dL_law_31 : decode cL_law 31 = .ok (.bipush 7, 2) := by decide +kernel
theorem dL_law_33 : decode cL_law 33 = .ok (.isub, 1) := by decide +kernel
theorem dL_law_34 : decode cL_law 34 = .ok (.if_icmp .gt 2314, 3) := by decide +kernel
theorem dL_law_37 : decode cL_law 37 = .ok (.aload_n 0, 1) := by decide +kernel
theorem dL_law_38 : decode cL_law 38 = .ok (.iload 4, 2) := by decide +kernel
theorem dL_law_40 : decode cL_law 40 = .ok (.iaload, 1) := by decide +kernel
theorem dL_law_41 : decode cL_law 41 = .ok (.bipush 63, 2) := by decide +kernel
theorem dL_law_43 : decode cL_law 43 = .ok (.iand, 1) := by decide +kernel
theorem dL_law_44 : decode cL_law 44 = .ok (.tableswitch 2298 0 38 #[172, 291, 348, 417, 498, 579, 636, 694, 763, 832, 929, 998, 1067, 1124, 1137, 1194, 1291, 1304, 1362, 1426, 1439, 1508, 1589, 1658, 1739, 1796, 1866, 1930, 1988, 2057, 2070, 2098, 2162, 2175, 2188, 2201, 2258, 2271, 2284], 172) := by decide +kernel
theorem dL_law_216 : decode cL_law 216 = .ok (.aload_n 1, 1) := by decide +kernel
theorem dL_law_217 : decode cL_law 217 = .ok (.aload_n 0, 1) := by decide +kernel
theorem dL_law_218 : decode cL_law 218 = .ok (.iload 4, 2) := by decide +kernel
theorem dL_law_220 : decode cL_law 220 = .ok (.iconst 1, 1) := by decide +kernel
theorem dL_law_221 : decode cL_law 221 = .ok (.iadd, 1) := by decide +kernel
theorem dL_law_222 : decode cL_law 222 = .ok (.iaload, 1) := by decide +kernel
theorem dL_law_223 : decode cL_law 223 = .ok (.aload_n 0, 1) := by decide +kernel
theorem dL_law_224 : decode cL_law 224 = .ok (.iload 4, 2) := by decide +kernel
theorem dL_law_226 : decode cL_law 226 = .ok (.iconst 2, 1) := by decide +kernel
theorem dL_law_227 : decode cL_law 227 = .ok (.iadd, 1) := by decide +kernel
theorem dL_law_228 : decode cL_law 228 = .ok (.iaload, 1) := by decide +kernel
theorem dL_law_229 : decode cL_law 229 = .ok (.aload_n 0, 1) := by decide +kernel
theorem dL_law_230 : decode cL_law 230 = .ok (.iload 4, 2) := by decide +kernel
theorem dL_law_232 : decode cL_law 232 = .ok (.iconst 3, 1) := by decide +kernel
theorem dL_law_233 : decode cL_law 233 = .ok (.iadd, 1) := by decide +kernel
theorem dL_law_234 : decode cL_law 234 = .ok (.iaload, 1) := by decide +kernel
theorem dL_law_235 : decode cL_law 235 = .ok (.aload_n 0, 1) := by decide +kernel
theorem dL_law_236 : decode cL_law 236 = .ok (.iload 4, 2) := by decide +kernel
theorem dL_law_238 : decode cL_law 238 = .ok (.iconst 4, 1) := by decide +kernel
theorem dL_law_239 : decode cL_law 239 = .ok (.iadd, 1) := by decide +kernel
theorem dL_law_240 : decode cL_law 240 = .ok (.iaload, 1) := by decide +kernel
theorem dL_law_241 : decode cL_law 241 = .ok (.aload_n 0, 1) := by decide +kernel
theorem dL_law_242 : decode cL_law 242 = .ok (.iload 4, 2) := by decide +kernel
theorem dL_law_244 : decode cL_law 244 = .ok (.iconst 5, 1) := by decide +kernel
theorem dL_law_245 : decode cL_law 245 = .ok (.iadd, 1) := by decide +kernel
theorem dL_law_246 : decode cL_law 246 = .ok (.iaload, 1) := by decide +kernel
theorem dL_law_247 : decode cL_law 247 = .ok (.aload_n 0, 1) := by decide +kernel
theorem dL_law_248 : decode cL_law 248 = .ok (.iload 4, 2) := by decide +kernel
theorem dL_law_250 : decode cL_law 250 = .ok (.bipush 6, 2) := by decide +kernel
theorem dL_law_252 : decode cL_law 252 = .ok (.iadd, 1) := by decide +kernel
theorem dL_law_253 : decode cL_law 253 = .ok (.iaload, 1) := by decide +kernel
theorem dL_law_254 : decode cL_law 254 = .ok (.aload_n 3, 1) := by decide +kernel
theorem dL_law_255 : decode cL_law 255 = .ok (.invokestatic 122, 3) := by decide +kernel
theorem dL_law_258 : decode cL_law 258 = .ok (.istore 5, 2) := by decide +kernel
theorem dL_law_260 : decode cL_law 260 = .ok (.aload_n 2, 1) := by decide +kernel
theorem dL_law_261 : decode cL_law 261 = .ok (.aload_n 0, 1) := by decide +kernel
theorem dL_law_262 : decode cL_law 262 = .ok (.iload 4, 2) := by decide +kernel
theorem dL_law_264 : decode cL_law 264 = .ok (.iconst 1, 1) := by decide +kernel
theorem dL_law_265 : decode cL_law 265 = .ok (.iadd, 1) := by decide +kernel
theorem dL_law_266 : decode cL_law 266 = .ok (.iaload, 1) := by decide +kernel
theorem dL_law_267 : decode cL_law 267 = .ok (.aload_n 0, 1) := by decide +kernel
theorem dL_law_268 : decode cL_law 268 = .ok (.iload 4, 2) := by decide +kernel
theorem dL_law_270 : decode cL_law 270 = .ok (.iconst 2, 1) := by decide +kernel
theorem dL_law_271 : decode cL_law 271 = .ok (.iadd, 1) := by decide +kernel
theorem dL_law_272 : decode cL_law 272 = .ok (.iaload, 1) := by decide +kernel
theorem dL_law_273 : decode cL_law 273 = .ok (.aload_n 0, 1) := by decide +kernel
theorem dL_law_274 : decode cL_law 274 = .ok (.iload 4, 2) := by decide +kernel
theorem dL_law_276 : decode cL_law 276 = .ok (.iconst 3, 1) := by decide +kernel
theorem dL_law_277 : decode cL_law 277 = .ok (.iadd, 1) := by decide +kernel
theorem dL_law_278 : decode cL_law 278 = .ok (.iaload, 1) := by decide +kernel
theorem dL_law_279 : decode cL_law 279 = .ok (.aload_n 0, 1) := by decide +kernel
theorem dL_law_280 : decode cL_law 280 = .ok (.iload 4, 2) := by decide +kernel
theorem dL_law_282 : decode cL_law 282 = .ok (.iconst 4, 1) := by decide +kernel
theorem dL_law_283 : decode cL_law 283 = .ok (.iadd, 1) := by decide +kernel
theorem dL_law_284 : decode cL_law 284 = .ok (.iaload, 1) := by decide +kernel
theorem dL_law_285 : decode cL_law 285 = .ok (.aload_n 0, 1) := by decide +kernel
theorem dL_law_286 : decode cL_law 286 = .ok (.iload 4, 2) := by decide +kernel
theorem dL_law_288 : decode cL_law 288 = .ok (.iconst 5, 1) := by decide +kernel
theorem dL_law_289 : decode cL_law 289 = .ok (.iadd, 1) := by decide +kernel
theorem dL_law_290 : decode cL_law 290 = .ok (.iaload, 1) := by decide +kernel
theorem dL_law_291 : decode cL_law 291 = .ok (.aload_n 0, 1) := by decide +kernel
theorem dL_law_292 : decode cL_law 292 = .ok (.iload 4, 2) := by decide +kernel
theorem dL_law_294 : decode cL_law 294 = .ok (.bipush 6, 2) := by decide +kernel
theorem dL_law_296 : decode cL_law 296 = .ok (.iadd, 1) := by decide +kernel
theorem dL_law_297 : decode cL_law 297 = .ok (.iaload, 1) := by decide +kernel
theorem dL_law_298 : decode cL_law 298 = .ok (.invokevirtual 127, 3) := by decide +kernel
theorem dL_law_301 : decode cL_law 301 = .ok (.istore 6, 2) := by decide +kernel
theorem dL_law_303 : decode cL_law 303 = .ok (.aload_n 2, 1) := by decide +kernel
theorem dL_law_304 : decode cL_law 304 = .ok (.invokevirtual 128, 3) := by decide +kernel
theorem dL_law_307 : decode cL_law 307 = .ok (.iload 5, 2) := by decide +kernel
theorem dL_law_309 : decode cL_law 309 = .ok (.if_icmp .eq 5, 3) := by decide +kernel
theorem dL_law_312 : decode cL_law 312 = .ok (.iconst 0, 1) := by decide +kernel
theorem dL_law_313 : decode cL_law 313 = .ok (.ireturn, 1) := by decide +kernel
theorem dL_law_314 : decode cL_law 314 = .ok (.iload 5, 2) := by decide +kernel
theorem dL_law_316 : decode cL_law 316 = .ok (.ifCond .ne 16, 3) := by decide +kernel
theorem dL_law_319 : decode cL_law 319 = .ok (.aload_n 3, 1) := by decide +kernel
theorem dL_law_320 : decode cL_law 320 = .ok (.getfield 13, 3) := by decide +kernel
theorem dL_law_323 : decode cL_law 323 = .ok (.iload 6, 2) := by decide +kernel
theorem dL_law_325 : decode cL_law 325 = .ok (.i2l, 1) := by decide +kernel
theorem dL_law_326 : decode cL_law 326 = .ok (.lcmp, 1) := by decide +kernel
theorem dL_law_327 : decode cL_law 327 = .ok (.ifCond .eq 5, 3) := by decide +kernel
theorem dL_law_330 : decode cL_law 330 = .ok (.iconst 0, 1) := by decide +kernel
theorem dL_law_331 : decode cL_law 331 = .ok (.ireturn, 1) := by decide +kernel
theorem dL_law_332 : decode cL_law 332 = .ok (.goto 2010, 3) := by decide +kernel
theorem dL_law_335 : decode cL_law 335 = .ok (.aload_n 1, 1) := by decide +kernel
theorem dL_law_336 : decode cL_law 336 = .ok (.aload_n 0, 1) := by decide +kernel
theorem dL_law_337 : decode cL_law 337 = .ok (.iload 4, 2) := by decide +kernel
theorem dL_law_339 : decode cL_law 339 = .ok (.iconst 1, 1) := by decide +kernel
theorem dL_law_340 : decode cL_law 340 = .ok (.iadd, 1) := by decide +kernel
theorem dL_law_341 : decode cL_law 341 = .ok (.iaload, 1) := by decide +kernel
theorem dL_law_342 : decode cL_law 342 = .ok (.aload_n 3, 1) := by decide +kernel
theorem dL_law_343 : decode cL_law 343 = .ok (.invokestatic 132, 3) := by decide +kernel
theorem dL_law_346 : decode cL_law 346 = .ok (.istore 5, 2) := by decide +kernel
theorem dL_law_348 : decode cL_law 348 = .ok (.aload_n 2, 1) := by decide +kernel
theorem dL_law_349 : decode cL_law 349 = .ok (.aload_n 0, 1) := by decide +kernel
theorem dL_law_350 : decode cL_law 350 = .ok (.iload 4, 2) := by decide +kernel
theorem dL_law_352 : decode cL_law 352 = .ok (.iconst 1, 1) := by decide +kernel
theorem dL_law_353 : decode cL_law 353 = .ok (.iadd, 1) := by decide +kernel
theorem dL_law_354 : decode cL_law 354 = .ok (.iaload, 1) := by decide +kernel
theorem dL_law_355 : decode cL_law 355 = .ok (.invokevirtual 135, 3) := by decide +kernel
theorem dL_law_358 : decode cL_law 358 = .ok (.istore 6, 2) := by decide +kernel
theorem dL_law_360 : decode cL_law 360 = .ok (.aload_n 2, 1) := by decide +kernel
theorem dL_law_361 : decode cL_law 361 = .ok (.invokevirtual 128, 3) := by decide +kernel
theorem dL_law_364 : decode cL_law 364 = .ok (.iload 5, 2) := by decide +kernel
theorem dL_law_366 : decode cL_law 366 = .ok (.if_icmp .eq 5, 3) := by decide +kernel
theorem dL_law_369 : decode cL_law 369 = .ok (.iconst 0, 1) := by decide +kernel
theorem dL_law_370 : decode cL_law 370 = .ok (.ireturn, 1) := by decide +kernel
theorem dL_law_371 : decode cL_law 371 = .ok (.iload 5, 2) := by decide +kernel
theorem dL_law_373 : decode cL_law 373 = .ok (.ifCond .ne 16, 3) := by decide +kernel
theorem dL_law_376 : decode cL_law 376 = .ok (.aload_n 3, 1) := by decide +kernel
theorem dL_law_377 : decode cL_law 377 = .ok (.getfield 13, 3) := by decide +kernel
theorem dL_law_380 : decode cL_law 380 = .ok (.iload 6, 2) := by decide +kernel
theorem dL_law_382 : decode cL_law 382 = .ok (.i2l, 1) := by decide +kernel
theorem dL_law_383 : decode cL_law 383 = .ok (.lcmp, 1) := by decide +kernel
theorem dL_law_384 : decode cL_law 384 = .ok (.ifCond .eq 5, 3) := by decide +kernel
theorem dL_law_387 : decode cL_law 387 = .ok (.iconst 0, 1) := by decide +kernel
theorem dL_law_388 : decode cL_law 388 = .ok (.ireturn, 1) := by decide +kernel
theorem dL_law_389 : decode cL_law 389 = .ok (.goto 1953, 3) := by decide +kernel
theorem dL_law_392 : decode cL_law 392 = .ok (.aload_n 1, 1) := by decide +kernel
theorem dL_law_393 : decode cL_law 393 = .ok (.aload_n 0, 1) := by decide +kernel
theorem dL_law_394 : decode cL_law 394 = .ok (.iload 4, 2) := by decide +kernel
theorem dL_law_396 : decode cL_law 396 = .ok (.iconst 1, 1) := by decide +kernel
theorem dL_law_397 : decode cL_law 397 = .ok (.iadd, 1) := by decide +kernel
theorem dL_law_398 : decode cL_law 398 = .ok (.iaload, 1) := by decide +kernel
theorem dL_law_399 : decode cL_law 399 = .ok (.aload_n 0, 1) := by decide +kernel
theorem dL_law_400 : decode cL_law 400 = .ok (.iload 4, 2) := by decide +kernel
theorem dL_law_402 : decode cL_law 402 = .ok (.iconst 2, 1) := by decide +kernel
theorem dL_law_403 : decode cL_law 403 = .ok (.iadd, 1) := by decide +kernel
theorem dL_law_404 : decode cL_law 404 = .ok (.iaload, 1) := by decide +kernel
theorem dL_law_405 : decode cL_law 405 = .ok (.aload_n 3, 1) := by decide +kernel
theorem dL_law_406 : decode cL_law 406 = .ok (.invokestatic 136, 3) := by decide +kernel
theorem dL_law_409 : decode cL_law 409 = .ok (.istore 5, 2) := by decide +kernel
theorem dL_law_411 : decode cL_law 411 = .ok (.aload_n 2, 1) := by decide +kernel
theorem dL_law_412 : decode cL_law 412 = .ok (.aload_n 0, 1) := by decide +kernel
theorem dL_law_413 : decode cL_law 413 = .ok (.iload 4, 2) := by decide +kernel
theorem dL_law_415 : decode cL_law 415 = .ok (.iconst 1, 1) := by decide +kernel
theorem dL_law_416 : decode cL_law 416 = .ok (.iadd, 1) := by decide +kernel
theorem dL_law_417 : decode cL_law 417 = .ok (.iaload, 1) := by decide +kernel
theorem dL_law_418 : decode cL_law 418 = .ok (.aload_n 0, 1) := by decide +kernel
theorem dL_law_419 : decode cL_law 419 = .ok (.iload 4, 2) := by decide +kernel
theorem dL_law_421 : decode cL_law 421 = .ok (.iconst 2, 1) := by decide +kernel
theorem dL_law_422 : decode cL_law 422 = .ok (.iadd, 1) := by decide +kernel
theorem dL_law_423 : decode cL_law 423 = .ok (.iaload, 1) := by decide +kernel
theorem dL_law_424 : decode cL_law 424 = .ok (.invokevirtual 139, 3) := by decide +kernel
theorem dL_law_427 : decode cL_law 427 = .ok (.istore 6, 2) := by decide +kernel
theorem dL_law_429 : decode cL_law 429 = .ok (.aload_n 2, 1) := by decide +kernel
theorem dL_law_430 : decode cL_law 430 = .ok (.invokevirtual 128, 3) := by decide +kernel
theorem dL_law_433 : decode cL_law 433 = .ok (.iload 5, 2) := by decide +kernel
theorem dL_law_435 : decode cL_law 435 = .ok (.if_icmp .eq 5, 3) := by decide +kernel
theorem dL_law_438 : decode cL_law 438 = .ok (.iconst 0, 1) := by decide +kernel
theorem dL_law_439 : decode cL_law 439 = .ok (.ireturn, 1) := by decide +kernel
theorem dL_law_440 : decode cL_law 440 = .ok (.iload 5, 2) := by decide +kernel
theorem dL_law_442 : decode cL_law 442 = .ok (.ifCond .ne 16, 3) := by decide +kernel
theorem dL_law_445 : decode cL_law 445 = .ok (.aload_n 3, 1) := by decide +kernel
theorem dL_law_446 : decode cL_law 446 = .ok (.getfield 13, 3) := by decide +kernel
theorem dL_law_449 : decode cL_law 449 = .ok (.iload 6, 2) := by decide +kernel
theorem dL_law_451 : decode cL_law 451 = .ok (.i2l, 1) := by decide +kernel
theorem dL_law_452 : decode cL_law 452 = .ok (.lcmp, 1) := by decide +kernel
theorem dL_law_453 : decode cL_law 453 = .ok (.ifCond .eq 5, 3) := by decide +kernel
theorem dL_law_456 : decode cL_law 456 = .ok (.iconst 0, 1) := by decide +kernel
theorem dL_law_457 : decode cL_law 457 = .ok (.ireturn, 1) := by decide +kernel
theorem dL_law_458 : decode cL_law 458 = .ok (.goto 1884, 3) := by decide +kernel
theorem dL_law_461 : decode cL_law 461 = .ok (.aload_n 1, 1) := by decide +kernel
theorem dL_law_462 : decode cL_law 462 = .ok (.aload_n 0, 1) := by decide +kernel
theorem dL_law_463 : decode cL_law 463 = .ok (.iload 4, 2) := by decide +kernel
theorem dL_law_465 : decode cL_law 465 = .ok (.iconst 1, 1) := by decide +kernel
theorem dL_law_466 : decode cL_law 466 = .ok (.iadd, 1) := by decide +kernel
theorem dL_law_467 : decode cL_law 467 = .ok (.iaload, 1) := by decide +kernel
theorem dL_law_468 : decode cL_law 468 = .ok (.aload_n 0, 1) := by decide +kernel
theorem dL_law_469 : decode cL_law 469 = .ok (.iload 4, 2) := by decide +kernel
theorem dL_law_471 : decode cL_law 471 = .ok (.iconst 2, 1) := by decide +kernel
theorem dL_law_472 : decode cL_law 472 = .ok (.iadd, 1) := by decide +kernel
theorem dL_law_473 : decode cL_law 473 = .ok (.iaload, 1) := by decide +kernel
theorem dL_law_474 : decode cL_law 474 = .ok (.aload_n 0, 1) := by decide +kernel
theorem dL_law_475 : decode cL_law 475 = .ok (.iload 4, 2) := by decide +kernel
theorem dL_law_477 : decode cL_law 477 = .ok (.iconst 3, 1) := by decide +kernel
theorem dL_law_478 : decode cL_law 478 = .ok (.iadd, 1) := by decide +kernel
theorem dL_law_479 : decode cL_law 479 = .ok (.iaload, 1) := by decide +kernel
theorem dL_law_480 : decode cL_law 480 = .ok (.aload_n 3, 1) := by decide +kernel
theorem dL_law_481 : decode cL_law 481 = .ok (.invokestatic 140, 3) := by decide +kernel
theorem dL_law_484 : decode cL_law 484 = .ok (.istore 5, 2) := by decide +kernel
theorem dL_law_486 : decode cL_law 486 = .ok (.aload_n 2, 1) := by decide +kernel
theorem dL_law_487 : decode cL_law 487 = .ok (.aload_n 0, 1) := by decide +kernel
theorem dL_law_488 : decode cL_law 488 = .ok (.iload 4, 2) := by decide +kernel
theorem dL_law_490 : decode cL_law 490 = .ok (.iconst 1, 1) := by decide +kernel
theorem dL_law_491 : decode cL_law 491 = .ok (.iadd, 1) := by decide +kernel
theorem dL_law_492 : decode cL_law 492 = .ok (.iaload, 1) := by decide +kernel
theorem dL_law_493 : decode cL_law 493 = .ok (.aload_n 0, 1) := by decide +kernel
theorem dL_law_494 : decode cL_law 494 = .ok (.iload 4, 2) := by decide +kernel
theorem dL_law_496 : decode cL_law 496 = .ok (.iconst 2, 1) := by decide +kernel
theorem dL_law_497 : decode cL_law 497 = .ok (.iadd, 1) := by decide +kernel
theorem dL_law_498 : decode cL_law 498 = .ok (.iaload, 1) := by decide +kernel
theorem dL_law_499 : decode cL_law 499 = .ok (.aload_n 0, 1) := by decide +kernel
theorem dL_law_500 : decode cL_law 500 = .ok (.iload 4, 2) := by decide +kernel
theorem dL_law_502 : decode cL_law 502 = .ok (.iconst 3, 1) := by decide +kernel
theorem dL_law_503 : decode cL_law 503 = .ok (.iadd, 1) := by decide +kernel
theorem dL_law_504 : decode cL_law 504 = .ok (.iaload, 1) := by decide +kernel
theorem dL_law_505 : decode cL_law 505 = .ok (.invokevirtual 143, 3) := by decide +kernel
theorem dL_law_508 : decode cL_law 508 = .ok (.istore 6, 2) := by decide +kernel
theorem dL_law_510 : decode cL_law 510 = .ok (.aload_n 2, 1) := by decide +kernel
theorem dL_law_511 : decode cL_law 511 = .ok (.invokevirtual 128, 3) := by decide +kernel
theorem dL_law_514 : decode cL_law 514 = .ok (.iload 5, 2) := by decide +kernel
theorem dL_law_516 : decode cL_law 516 = .ok (.if_icmp .eq 5, 3) := by decide +kernel
theorem dL_law_519 : decode cL_law 519 = .ok (.iconst 0, 1) := by decide +kernel
theorem dL_law_520 : decode cL_law 520 = .ok (.ireturn, 1) := by decide +kernel
theorem dL_law_521 : decode cL_law 521 = .ok (.iload 5, 2) := by decide +kernel
theorem dL_law_523 : decode cL_law 523 = .ok (.ifCond .ne 16, 3) := by decide +kernel
theorem dL_law_526 : decode cL_law 526 = .ok (.aload_n 3, 1) := by decide +kernel
theorem dL_law_527 : decode cL_law 527 = .ok (.getfield 13, 3) := by decide +kernel
theorem dL_law_530 : decode cL_law 530 = .ok (.iload 6, 2) := by decide +kernel
theorem dL_law_532 : decode cL_law 532 = .ok (.i2l, 1) := by decide +kernel
theorem dL_law_533 : decode cL_law 533 = .ok (.lcmp, 1) := by decide +kernel
theorem dL_law_534 : decode cL_law 534 = .ok (.ifCond .eq 5, 3) := by decide +kernel
theorem dL_law_537 : decode cL_law 537 = .ok (.iconst 0, 1) := by decide +kernel
theorem dL_law_538 : decode cL_law 538 = .ok (.ireturn, 1) := by decide +kernel
theorem dL_law_539 : decode cL_law 539 = .ok (.goto 1803, 3) := by decide +kernel
theorem dL_law_542 : decode cL_law 542 = .ok (.aload_n 1, 1) := by decide +kernel
theorem dL_law_543 : decode cL_law 543 = .ok (.aload_n 0, 1) := by decide +kernel
theorem dL_law_544 : decode cL_law 544 = .ok (.iload 4, 2) := by decide +kernel
theorem dL_law_546 : decode cL_law 546 = .ok (.iconst 1, 1) := by decide +kernel
theorem dL_law_547 : decode cL_law 547 = .ok (.iadd, 1) := by decide +kernel
theorem dL_law_548 : decode cL_law 548 = .ok (.iaload, 1) := by decide +kernel
theorem dL_law_549 : decode cL_law 549 = .ok (.aload_n 0, 1) := by decide +kernel
theorem dL_law_550 : decode cL_law 550 = .ok (.iload 4, 2) := by decide +kernel
theorem dL_law_552 : decode cL_law 552 = .ok (.iconst 2, 1) := by decide +kernel
theorem dL_law_553 : decode cL_law 553 = .ok (.iadd, 1) := by decide +kernel
theorem dL_law_554 : decode cL_law 554 = .ok (.iaload, 1) := by decide +kernel
theorem dL_law_555 : decode cL_law 555 = .ok (.aload_n 0, 1) := by decide +kernel
theorem dL_law_556 : decode cL_law 556 = .ok (.iload 4, 2) := by decide +kernel
theorem dL_law_558 : decode cL_law 558 = .ok (.iconst 3, 1) := by decide +kernel
theorem dL_law_559 : decode cL_law 559 = .ok (.iadd, 1) := by decide +kernel
theorem dL_law_560 : decode cL_law 560 = .ok (.iaload, 1) := by decide +kernel
theorem dL_law_561 : decode cL_law 561 = .ok (.aload_n 3, 1) := by decide +kernel
theorem dL_law_562 : decode cL_law 562 = .ok (.invokestatic 144, 3) := by decide +kernel
theorem dL_law_565 : decode cL_law 565 = .ok (.istore 5, 2) := by decide +kernel
theorem dL_law_567 : decode cL_law 567 = .ok (.aload_n 2, 1) := by decide +kernel
theorem dL_law_568 : decode cL_law 568 = .ok (.aload_n 0, 1) := by decide +kernel
theorem dL_law_569 : decode cL_law 569 = .ok (.iload 4, 2) := by decide +kernel
theorem dL_law_571 : decode cL_law 571 = .ok (.iconst 1, 1) := by decide +kernel
theorem dL_law_572 : decode cL_law 572 = .ok (.iadd, 1) := by decide +kernel
theorem dL_law_573 : decode cL_law 573 = .ok (.iaload, 1) := by decide +kernel
theorem dL_law_574 : decode cL_law 574 = .ok (.aload_n 0, 1) := by decide +kernel
theorem dL_law_575 : decode cL_law 575 = .ok (.iload 4, 2) := by decide +kernel
theorem dL_law_577 : decode cL_law 577 = .ok (.iconst 2, 1) := by decide +kernel
theorem dL_law_578 : decode cL_law 578 = .ok (.iadd, 1) := by decide +kernel
theorem dL_law_579 : decode cL_law 579 = .ok (.iaload, 1) := by decide +kernel
theorem dL_law_580 : decode cL_law 580 = .ok (.aload_n 0, 1) := by decide +kernel
theorem dL_law_581 : decode cL_law 581 = .ok (.iload 4, 2) := by decide +kernel
theorem dL_law_583 : decode cL_law 583 = .ok (.iconst 3, 1) := by decide +kernel
theorem dL_law_584 : decode cL_law 584 = .ok (.iadd, 1) := by decide +kernel
theorem dL_law_585 : decode cL_law 585 = .ok (.iaload, 1) := by decide +kernel
theorem dL_law_586 : decode cL_law 586 = .ok (.invokevirtual 146, 3) := by decide +kernel
theorem dL_law_589 : decode cL_law 589 = .ok (.istore 6, 2) := by decide +kernel
theorem dL_law_591 : decode cL_law 591 = .ok (.aload_n 2, 1) := by decide +kernel
theorem dL_law_592 : decode cL_law 592 = .ok (.invokevirtual 128, 3) := by decide +kernel
theorem dL_law_595 : decode cL_law 595 = .ok (.iload 5, 2) := by decide +kernel
theorem dL_law_597 : decode cL_law 597 = .ok (.if_icmp .eq 5, 3) := by decide +kernel
theorem dL_law_600 : decode cL_law 600 = .ok (.iconst 0, 1) := by decide +kernel
theorem dL_law_601 : decode cL_law 601 = .ok (.ireturn, 1) := by decide +kernel
theorem dL_law_602 : decode cL_law 602 = .ok (.iload 5, 2) := by decide +kernel
theorem dL_law_604 : decode cL_law 604 = .ok (.ifCond .ne 16, 3) := by decide +kernel
theorem dL_law_607 : decode cL_law 607 = .ok (.aload_n 3, 1) := by decide +kernel
theorem dL_law_608 : decode cL_law 608 = .ok (.getfield 13, 3) := by decide +kernel
theorem dL_law_611 : decode cL_law 611 = .ok (.iload 6, 2) := by decide +kernel
theorem dL_law_613 : decode cL_law 613 = .ok (.i2l, 1) := by decide +kernel
theorem dL_law_614 : decode cL_law 614 = .ok (.lcmp, 1) := by decide +kernel
theorem dL_law_615 : decode cL_law 615 = .ok (.ifCond .eq 5, 3) := by decide +kernel
theorem dL_law_618 : decode cL_law 618 = .ok (.iconst 0, 1) := by decide +kernel
theorem dL_law_619 : decode cL_law 619 = .ok (.ireturn, 1) := by decide +kernel
theorem dL_law_620 : decode cL_law 620 = .ok (.goto 1722, 3) := by decide +kernel
theorem dL_law_623 : decode cL_law 623 = .ok (.aload_n 1, 1) := by decide +kernel
theorem dL_law_624 : decode cL_law 624 = .ok (.aload_n 0, 1) := by decide +kernel
theorem dL_law_625 : decode cL_law 625 = .ok (.iload 4, 2) := by decide +kernel
theorem dL_law_627 : decode cL_law 627 = .ok (.iconst 1, 1) := by decide +kernel
theorem dL_law_628 : decode cL_law 628 = .ok (.iadd, 1) := by decide +kernel
theorem dL_law_629 : decode cL_law 629 = .ok (.iaload, 1) := by decide +kernel
theorem dL_law_630 : decode cL_law 630 = .ok (.aload_n 3, 1) := by decide +kernel
theorem dL_law_631 : decode cL_law 631 = .ok (.invokestatic 147, 3) := by decide +kernel
theorem dL_law_634 : decode cL_law 634 = .ok (.istore 5, 2) := by decide +kernel
theorem dL_law_636 : decode cL_law 636 = .ok (.aload_n 2, 1) := by decide +kernel
theorem dL_law_637 : decode cL_law 637 = .ok (.aload_n 0, 1) := by decide +kernel
theorem dL_law_638 : decode cL_law 638 = .ok (.iload 4, 2) := by decide +kernel
theorem dL_law_640 : decode cL_law 640 = .ok (.iconst 1, 1) := by decide +kernel
theorem dL_law_641 : decode cL_law 641 = .ok (.iadd, 1) := by decide +kernel
theorem dL_law_642 : decode cL_law 642 = .ok (.iaload, 1) := by decide +kernel
theorem dL_law_643 : decode cL_law 643 = .ok (.invokevirtual 149, 3) := by decide +kernel
theorem dL_law_646 : decode cL_law 646 = .ok (.istore 6, 2) := by decide +kernel
theorem dL_law_648 : decode cL_law 648 = .ok (.aload_n 2, 1) := by decide +kernel
theorem dL_law_649 : decode cL_law 649 = .ok (.invokevirtual 128, 3) := by decide +kernel
theorem dL_law_652 : decode cL_law 652 = .ok (.iload 5, 2) := by decide +kernel
theorem dL_law_654 : decode cL_law 654 = .ok (.if_icmp .eq 5, 3) := by decide +kernel
theorem dL_law_657 : decode cL_law 657 = .ok (.iconst 0, 1) := by decide +kernel
theorem dL_law_658 : decode cL_law 658 = .ok (.ireturn, 1) := by decide +kernel
theorem dL_law_659 : decode cL_law 659 = .ok (.iload 5, 2) := by decide +kernel
theorem dL_law_661 : decode cL_law 661 = .ok (.ifCond .ne 16, 3) := by decide +kernel
theorem dL_law_664 : decode cL_law 664 = .ok (.aload_n 3, 1) := by decide +kernel
theorem dL_law_665 : decode cL_law 665 = .ok (.getfield 13, 3) := by decide +kernel
theorem dL_law_668 : decode cL_law 668 = .ok (.iload 6, 2) := by decide +kernel
theorem dL_law_670 : decode cL_law 670 = .ok (.i2l, 1) := by decide +kernel
theorem dL_law_671 : decode cL_law 671 = .ok (.lcmp, 1) := by decide +kernel
theorem dL_law_672 : decode cL_law 672 = .ok (.ifCond .eq 5, 3) := by decide +kernel
theorem dL_law_675 : decode cL_law 675 = .ok (.iconst 0, 1) := by decide +kernel
theorem dL_law_676 : decode cL_law 676 = .ok (.ireturn, 1) := by decide +kernel
theorem dL_law_677 : decode cL_law 677 = .ok (.goto 1665, 3) := by decide +kernel
theorem dL_law_680 : decode cL_law 680 = .ok (.aload_n 1, 1) := by decide +kernel
theorem dL_law_681 : decode cL_law 681 = .ok (.aload_n 0, 1) := by decide +kernel
theorem dL_law_682 : decode cL_law 682 = .ok (.iload 4, 2) := by decide +kernel
theorem dL_law_684 : decode cL_law 684 = .ok (.iconst 1, 1) := by decide +kernel
theorem dL_law_685 : decode cL_law 685 = .ok (.iadd, 1) := by decide +kernel
theorem dL_law_686 : decode cL_law 686 = .ok (.iaload, 1) := by decide +kernel
theorem dL_law_687 : decode cL_law 687 = .ok (.aload_n 3, 1) := by decide +kernel
theorem dL_law_688 : decode cL_law 688 = .ok (.invokestatic 150, 3) := by decide +kernel
theorem dL_law_691 : decode cL_law 691 = .ok (.istore 5, 2) := by decide +kernel
theorem dL_law_693 : decode cL_law 693 = .ok (.aload_n 2, 1) := by decide +kernel
theorem dL_law_694 : decode cL_law 694 = .ok (.aload_n 0, 1) := by decide +kernel
theorem dL_law_695 : decode cL_law 695 = .ok (.iload 4, 2) := by decide +kernel
theorem dL_law_697 : decode cL_law 697 = .ok (.iconst 1, 1) := by decide +kernel
theorem dL_law_698 : decode cL_law 698 = .ok (.iadd, 1) := by decide +kernel
theorem dL_law_699 : decode cL_law 699 = .ok (.iaload, 1) := by decide +kernel
theorem dL_law_700 : decode cL_law 700 = .ok (.invokevirtual 152, 3) := by decide +kernel
theorem dL_law_703 : decode cL_law 703 = .ok (.astore 6, 2) := by decide +kernel
theorem dL_law_705 : decode cL_law 705 = .ok (.aload_n 2, 1) := by decide +kernel
theorem dL_law_706 : decode cL_law 706 = .ok (.invokevirtual 128, 3) := by decide +kernel
theorem dL_law_709 : decode cL_law 709 = .ok (.iload 5, 2) := by decide +kernel
theorem dL_law_711 : decode cL_law 711 = .ok (.if_icmp .eq 5, 3) := by decide +kernel
theorem dL_law_714 : decode cL_law 714 = .ok (.iconst 0, 1) := by decide +kernel
theorem dL_law_715 : decode cL_law 715 = .ok (.ireturn, 1) := by decide +kernel
theorem dL_law_716 : decode cL_law 716 = .ok (.iload 5, 2) := by decide +kernel
theorem dL_law_718 : decode cL_law 718 = .ok (.ifCond .ne 17, 3) := by decide +kernel
theorem dL_law_721 : decode cL_law 721 = .ok (.aload_n 3, 1) := by decide +kernel
theorem dL_law_722 : decode cL_law 722 = .ok (.getfield 47, 3) := by decide +kernel
theorem dL_law_725 : decode cL_law 725 = .ok (.aload 6, 2) := by decide +kernel
theorem dL_law_727 : decode cL_law 727 = .ok (.invokevirtual 153, 3) := by decide +kernel
theorem dL_law_730 : decode cL_law 730 = .ok (.ifCond .ne 5, 3) := by decide +kernel
theorem dL_law_733 : decode cL_law 733 = .ok (.iconst 0, 1) := by decide +kernel
theorem dL_law_734 : decode cL_law 734 = .ok (.ireturn, 1) := by decide +kernel
theorem dL_law_735 : decode cL_law 735 = .ok (.goto 1607, 3) := by decide +kernel
theorem dL_law_738 : decode cL_law 738 = .ok (.aload_n 1, 1) := by decide +kernel
theorem dL_law_739 : decode cL_law 739 = .ok (.aload_n 0, 1) := by decide +kernel
theorem dL_law_740 : decode cL_law 740 = .ok (.iload 4, 2) := by decide +kernel
theorem dL_law_742 : decode cL_law 742 = .ok (.iconst 1, 1) := by decide +kernel
theorem dL_law_743 : decode cL_law 743 = .ok (.iadd, 1) := by decide +kernel
theorem dL_law_744 : decode cL_law 744 = .ok (.iaload, 1) := by decide +kernel
theorem dL_law_745 : decode cL_law 745 = .ok (.aload_n 0, 1) := by decide +kernel
theorem dL_law_746 : decode cL_law 746 = .ok (.iload 4, 2) := by decide +kernel
theorem dL_law_748 : decode cL_law 748 = .ok (.iconst 2, 1) := by decide +kernel
theorem dL_law_749 : decode cL_law 749 = .ok (.iadd, 1) := by decide +kernel
theorem dL_law_750 : decode cL_law 750 = .ok (.iaload, 1) := by decide +kernel
theorem dL_law_751 : decode cL_law 751 = .ok (.aload_n 3, 1) := by decide +kernel
theorem dL_law_752 : decode cL_law 752 = .ok (.invokestatic 159, 3) := by decide +kernel
theorem dL_law_755 : decode cL_law 755 = .ok (.istore 5, 2) := by decide +kernel
theorem dL_law_757 : decode cL_law 757 = .ok (.aload_n 2, 1) := by decide +kernel
theorem dL_law_758 : decode cL_law 758 = .ok (.aload_n 0, 1) := by decide +kernel
theorem dL_law_759 : decode cL_law 759 = .ok (.iload 4, 2) := by decide +kernel
theorem dL_law_761 : decode cL_law 761 = .ok (.iconst 1, 1) := by decide +kernel
theorem dL_law_762 : decode cL_law 762 = .ok (.iadd, 1) := by decide +kernel
theorem dL_law_763 : decode cL_law 763 = .ok (.iaload, 1) := by decide +kernel
theorem dL_law_764 : decode cL_law 764 = .ok (.aload_n 0, 1) := by decide +kernel
theorem dL_law_765 : decode cL_law 765 = .ok (.iload 4, 2) := by decide +kernel
theorem dL_law_767 : decode cL_law 767 = .ok (.iconst 2, 1) := by decide +kernel
theorem dL_law_768 : decode cL_law 768 = .ok (.iadd, 1) := by decide +kernel
theorem dL_law_769 : decode cL_law 769 = .ok (.iaload, 1) := by decide +kernel
theorem dL_law_770 : decode cL_law 770 = .ok (.invokevirtual 161, 3) := by decide +kernel
theorem dL_law_773 : decode cL_law 773 = .ok (.istore 6, 2) := by decide +kernel
theorem dL_law_775 : decode cL_law 775 = .ok (.aload_n 2, 1) := by decide +kernel
theorem dL_law_776 : decode cL_law 776 = .ok (.invokevirtual 128, 3) := by decide +kernel
theorem dL_law_779 : decode cL_law 779 = .ok (.iload 5, 2) := by decide +kernel
theorem dL_law_781 : decode cL_law 781 = .ok (.if_icmp .eq 5, 3) := by decide +kernel
theorem dL_law_784 : decode cL_law 784 = .ok (.iconst 0, 1) := by decide +kernel
theorem dL_law_785 : decode cL_law 785 = .ok (.ireturn, 1) := by decide +kernel
theorem dL_law_786 : decode cL_law 786 = .ok (.iload 5, 2) := by decide +kernel
theorem dL_law_788 : decode cL_law 788 = .ok (.ifCond .ne 16, 3) := by decide +kernel
theorem dL_law_791 : decode cL_law 791 = .ok (.aload_n 3, 1) := by decide +kernel
theorem dL_law_792 : decode cL_law 792 = .ok (.getfield 13, 3) := by decide +kernel
theorem dL_law_795 : decode cL_law 795 = .ok (.iload 6, 2) := by decide +kernel
theorem dL_law_797 : decode cL_law 797 = .ok (.i2l, 1) := by decide +kernel
theorem dL_law_798 : decode cL_law 798 = .ok (.lcmp, 1) := by decide +kernel
theorem dL_law_799 : decode cL_law 799 = .ok (.ifCond .eq 5, 3) := by decide +kernel
theorem dL_law_802 : decode cL_law 802 = .ok (.iconst 0, 1) := by decide +kernel
theorem dL_law_803 : decode cL_law 803 = .ok (.ireturn, 1) := by decide +kernel
theorem dL_law_804 : decode cL_law 804 = .ok (.goto 1538, 3) := by decide +kernel
theorem dL_law_807 : decode cL_law 807 = .ok (.aload_n 1, 1) := by decide +kernel
theorem dL_law_808 : decode cL_law 808 = .ok (.aload_n 0, 1) := by decide +kernel
theorem dL_law_809 : decode cL_law 809 = .ok (.iload 4, 2) := by decide +kernel
theorem dL_law_811 : decode cL_law 811 = .ok (.iconst 1, 1) := by decide +kernel
theorem dL_law_812 : decode cL_law 812 = .ok (.iadd, 1) := by decide +kernel
theorem dL_law_813 : decode cL_law 813 = .ok (.iaload, 1) := by decide +kernel
theorem dL_law_814 : decode cL_law 814 = .ok (.aload_n 0, 1) := by decide +kernel
theorem dL_law_815 : decode cL_law 815 = .ok (.iload 4, 2) := by decide +kernel
theorem dL_law_817 : decode cL_law 817 = .ok (.iconst 2, 1) := by decide +kernel
theorem dL_law_818 : decode cL_law 818 = .ok (.iadd, 1) := by decide +kernel
theorem dL_law_819 : decode cL_law 819 = .ok (.iaload, 1) := by decide +kernel
theorem dL_law_820 : decode cL_law 820 = .ok (.aload_n 3, 1) := by decide +kernel
theorem dL_law_821 : decode cL_law 821 = .ok (.invokestatic 162, 3) := by decide +kernel
theorem dL_law_824 : decode cL_law 824 = .ok (.istore 5, 2) := by decide +kernel
theorem dL_law_826 : decode cL_law 826 = .ok (.aload_n 2, 1) := by decide +kernel
theorem dL_law_827 : decode cL_law 827 = .ok (.aload_n 0, 1) := by decide +kernel
theorem dL_law_828 : decode cL_law 828 = .ok (.iload 4, 2) := by decide +kernel
theorem dL_law_830 : decode cL_law 830 = .ok (.iconst 1, 1) := by decide +kernel
theorem dL_law_831 : decode cL_law 831 = .ok (.iadd, 1) := by decide +kernel
theorem dL_law_832 : decode cL_law 832 = .ok (.iaload, 1) := by decide +kernel
theorem dL_law_833 : decode cL_law 833 = .ok (.aload_n 0, 1) := by decide +kernel
theorem dL_law_834 : decode cL_law 834 = .ok (.iload 4, 2) := by decide +kernel
theorem dL_law_836 : decode cL_law 836 = .ok (.iconst 2, 1) := by decide +kernel
theorem dL_law_837 : decode cL_law 837 = .ok (.iadd, 1) := by decide +kernel
theorem dL_law_838 : decode cL_law 838 = .ok (.iaload, 1) := by decide +kernel
theorem dL_law_839 : decode cL_law 839 = .ok (.invokevirtual 164, 3) := by decide +kernel
theorem dL_law_842 : decode cL_law 842 = .ok (.istore 6, 2) := by decide +kernel
theorem dL_law_844 : decode cL_law 844 = .ok (.aload_n 2, 1) := by decide +kernel
theorem dL_law_845 : decode cL_law 845 = .ok (.invokevirtual 128, 3) := by decide +kernel
theorem dL_law_848 : decode cL_law 848 = .ok (.iload 5, 2) := by decide +kernel
theorem dL_law_850 : decode cL_law 850 = .ok (.if_icmp .eq 5, 3) := by decide +kernel
theorem dL_law_853 : decode cL_law 853 = .ok (.iconst 0, 1) := by decide +kernel
theorem dL_law_854 : decode cL_law 854 = .ok (.ireturn, 1) := by decide +kernel
theorem dL_law_855 : decode cL_law 855 = .ok (.iload 5, 2) := by decide +kernel
theorem dL_law_857 : decode cL_law 857 = .ok (.ifCond .ne 16, 3) := by decide +kernel
theorem dL_law_860 : decode cL_law 860 = .ok (.aload_n 3, 1) := by decide +kernel
theorem dL_law_861 : decode cL_law 861 = .ok (.getfield 13, 3) := by decide +kernel
theorem dL_law_864 : decode cL_law 864 = .ok (.iload 6, 2) := by decide +kernel
theorem dL_law_866 : decode cL_law 866 = .ok (.i2l, 1) := by decide +kernel
theorem dL_law_867 : decode cL_law 867 = .ok (.lcmp, 1) := by decide +kernel
theorem dL_law_868 : decode cL_law 868 = .ok (.ifCond .eq 5, 3) := by decide +kernel
theorem dL_law_871 : decode cL_law 871 = .ok (.iconst 0, 1) := by decide +kernel
theorem dL_law_872 : decode cL_law 872 = .ok (.ireturn, 1) := by decide +kernel
theorem dL_law_873 : decode cL_law 873 = .ok (.goto 1469, 3) := by decide +kernel
theorem dL_law_876 : decode cL_law 876 = .ok (.aload_n 1, 1) := by decide +kernel
theorem dL_law_877 : decode cL_law 877 = .ok (.aload_n 0, 1) := by decide +kernel
theorem dL_law_878 : decode cL_law 878 = .ok (.iload 4, 2) := by decide +kernel
theorem dL_law_880 : decode cL_law 880 = .ok (.iconst 1, 1) := by decide +kernel
theorem dL_law_881 : decode cL_law 881 = .ok (.iadd, 1) := by decide +kernel
theorem dL_law_882 : decode cL_law 882 = .ok (.iaload, 1) := by decide +kernel
theorem dL_law_883 : decode cL_law 883 = .ok (.aload_n 0, 1) := by decide +kernel
theorem dL_law_884 : decode cL_law 884 = .ok (.iload 4, 2) := by decide +kernel
theorem dL_law_886 : decode cL_law 886 = .ok (.iconst 2, 1) := by decide +kernel
theorem dL_law_887 : decode cL_law 887 = .ok (.iadd, 1) := by decide +kernel
theorem dL_law_888 : decode cL_law 888 = .ok (.iaload, 1) := by decide +kernel
theorem dL_law_889 : decode cL_law 889 = .ok (.aload_n 0, 1) := by decide +kernel
theorem dL_law_890 : decode cL_law 890 = .ok (.iload 4, 2) := by decide +kernel
theorem dL_law_892 : decode cL_law 892 = .ok (.iconst 3, 1) := by decide +kernel
theorem dL_law_893 : decode cL_law 893 = .ok (.iadd, 1) := by decide +kernel
theorem dL_law_894 : decode cL_law 894 = .ok (.iaload, 1) := by decide +kernel
theorem dL_law_895 : decode cL_law 895 = .ok (.ifCond .eq 7, 3) := by decide +kernel
theorem dL_law_898 : decode cL_law 898 = .ok (.iconst 1, 1) := by decide +kernel
theorem dL_law_899 : decode cL_law 899 = .ok (.goto 4, 3) := by decide +kernel
theorem dL_law_902 : decode cL_law 902 = .ok (.iconst 0, 1) := by decide +kernel
theorem dL_law_903 : decode cL_law 903 = .ok (.aload_n 3, 1) := by decide +kernel
theorem dL_law_904 : decode cL_law 904 = .ok (.invokestatic 165, 3) := by decide +kernel
theorem dL_law_907 : decode cL_law 907 = .ok (.istore 5, 2) := by decide +kernel
theorem dL_law_909 : decode cL_law 909 = .ok (.aload_n 2, 1) := by decide +kernel
theorem dL_law_910 : decode cL_law 910 = .ok (.aload_n 0, 1) := by decide +kernel
theorem dL_law_911 : decode cL_law 911 = .ok (.iload 4, 2) := by decide +kernel
theorem dL_law_913 : decode cL_law 913 = .ok (.iconst 1, 1) := by decide +kernel
theorem dL_law_914 : decode cL_law 914 = .ok (.iadd, 1) := by decide +kernel
theorem dL_law_915 : decode cL_law 915 = .ok (.iaload, 1) := by decide +kernel
theorem dL_law_916 : decode cL_law 916 = .ok (.aload_n 0, 1) := by decide +kernel
theorem dL_law_917 : decode cL_law 917 = .ok (.iload 4, 2) := by decide +kernel
theorem dL_law_919 : decode cL_law 919 = .ok (.iconst 2, 1) := by decide +kernel
theorem dL_law_920 : decode cL_law 920 = .ok (.iadd, 1) := by decide +kernel
theorem dL_law_921 : decode cL_law 921 = .ok (.iaload, 1) := by decide +kernel
theorem dL_law_922 : decode cL_law 922 = .ok (.aload_n 0, 1) := by decide +kernel
theorem dL_law_923 : decode cL_law 923 = .ok (.iload 4, 2) := by decide +kernel
theorem dL_law_925 : decode cL_law 925 = .ok (.iconst 3, 1) := by decide +kernel
theorem dL_law_926 : decode cL_law 926 = .ok (.iadd, 1) := by decide +kernel
theorem dL_law_927 : decode cL_law 927 = .ok (.iaload, 1) := by decide +kernel
theorem dL_law_928 : decode cL_law 928 = .ok (.ifCond .eq 7, 3) := by decide +kernel
theorem dL_law_931 : decode cL_law 931 = .ok (.iconst 1, 1) := by decide +kernel
theorem dL_law_932 : decode cL_law 932 = .ok (.goto 4, 3) := by decide +kernel
theorem dL_law_935 : decode cL_law 935 = .ok (.iconst 0, 1) := by decide +kernel
theorem dL_law_936 : decode cL_law 936 = .ok (.invokevirtual 168, 3) := by decide +kernel
theorem dL_law_939 : decode cL_law 939 = .ok (.istore 6, 2) := by decide +kernel
theorem dL_law_941 : decode cL_law 941 = .ok (.aload_n 2, 1) := by decide +kernel
theorem dL_law_942 : decode cL_law 942 = .ok (.invokevirtual 128, 3) := by decide +kernel
theorem dL_law_945 : decode cL_law 945 = .ok (.iload 5, 2) := by decide +kernel
theorem dL_law_947 : decode cL_law 947 = .ok (.if_icmp .eq 5, 3) := by decide +kernel
theorem dL_law_950 : decode cL_law 950 = .ok (.iconst 0, 1) := by decide +kernel
theorem dL_law_951 : decode cL_law 951 = .ok (.ireturn, 1) := by decide +kernel
theorem dL_law_952 : decode cL_law 952 = .ok (.iload 5, 2) := by decide +kernel
theorem dL_law_954 : decode cL_law 954 = .ok (.ifCond .ne 16, 3) := by decide +kernel
theorem dL_law_957 : decode cL_law 957 = .ok (.aload_n 3, 1) := by decide +kernel
theorem dL_law_958 : decode cL_law 958 = .ok (.getfield 13, 3) := by decide +kernel
theorem dL_law_961 : decode cL_law 961 = .ok (.iload 6, 2) := by decide +kernel
theorem dL_law_963 : decode cL_law 963 = .ok (.i2l, 1) := by decide +kernel
theorem dL_law_964 : decode cL_law 964 = .ok (.lcmp, 1) := by decide +kernel
theorem dL_law_965 : decode cL_law 965 = .ok (.ifCond .eq 5, 3) := by decide +kernel
theorem dL_law_968 : decode cL_law 968 = .ok (.iconst 0, 1) := by decide +kernel
theorem dL_law_969 : decode cL_law 969 = .ok (.ireturn, 1) := by decide +kernel
theorem dL_law_970 : decode cL_law 970 = .ok (.goto 1372, 3) := by decide +kernel
theorem dL_law_973 : decode cL_law 973 = .ok (.aload_n 1, 1) := by decide +kernel
theorem dL_law_974 : decode cL_law 974 = .ok (.aload_n 0, 1) := by decide +kernel
theorem dL_law_975 : decode cL_law 975 = .ok (.iload 4, 2) := by decide +kernel
theorem dL_law_977 : decode cL_law 977 = .ok (.iconst 1, 1) := by decide +kernel
theorem dL_law_978 : decode cL_law 978 = .ok (.iadd, 1) := by decide +kernel
theorem dL_law_979 : decode cL_law 979 = .ok (.iaload, 1) := by decide +kernel
theorem dL_law_980 : decode cL_law 980 = .ok (.aload_n 0, 1) := by decide +kernel
theorem dL_law_981 : decode cL_law 981 = .ok (.iload 4, 2) := by decide +kernel
theorem dL_law_983 : decode cL_law 983 = .ok (.iconst 2, 1) := by decide +kernel
theorem dL_law_984 : decode cL_law 984 = .ok (.iadd, 1) := by decide +kernel
theorem dL_law_985 : decode cL_law 985 = .ok (.iaload, 1) := by decide +kernel
theorem dL_law_986 : decode cL_law 986 = .ok (.aload_n 3, 1) := by decide +kernel
theorem dL_law_987 : decode cL_law 987 = .ok (.invokestatic 169, 3) := by decide +kernel
theorem dL_law_990 : decode cL_law 990 = .ok (.istore 5, 2) := by decide +kernel
theorem dL_law_992 : decode cL_law 992 = .ok (.aload_n 2, 1) := by decide +kernel
theorem dL_law_993 : decode cL_law 993 = .ok (.aload_n 0, 1) := by decide +kernel
theorem dL_law_994 : decode cL_law 994 = .ok (.iload 4, 2) := by decide +kernel
theorem dL_law_996 : decode cL_law 996 = .ok (.iconst 1, 1) := by decide +kernel
theorem dL_law_997 : decode cL_law 997 = .ok (.iadd, 1) := by decide +kernel
theorem dL_law_998 : decode cL_law 998 = .ok (.iaload, 1) := by decide +kernel
theorem dL_law_999 : decode cL_law 999 = .ok (.aload_n 0, 1) := by decide +kernel
theorem dL_law_1000 : decode cL_law 1000 = .ok (.iload 4, 2) := by decide +kernel
theorem dL_law_1002 : decode cL_law 1002 = .ok (.iconst 2, 1) := by decide +kernel
theorem dL_law_1003 : decode cL_law 1003 = .ok (.iadd, 1) := by decide +kernel
theorem dL_law_1004 : decode cL_law 1004 = .ok (.iaload, 1) := by decide +kernel
theorem dL_law_1005 : decode cL_law 1005 = .ok (.invokevirtual 171, 3) := by decide +kernel
theorem dL_law_1008 : decode cL_law 1008 = .ok (.istore 6, 2) := by decide +kernel
theorem dL_law_1010 : decode cL_law 1010 = .ok (.aload_n 2, 1) := by decide +kernel
theorem dL_law_1011 : decode cL_law 1011 = .ok (.invokevirtual 128, 3) := by decide +kernel
theorem dL_law_1014 : decode cL_law 1014 = .ok (.iload 5, 2) := by decide +kernel
theorem dL_law_1016 : decode cL_law 1016 = .ok (.if_icmp .eq 5, 3) := by decide +kernel
theorem dL_law_1019 : decode cL_law 1019 = .ok (.iconst 0, 1) := by decide +kernel
theorem dL_law_1020 : decode cL_law 1020 = .ok (.ireturn, 1) := by decide +kernel
theorem dL_law_1021 : decode cL_law 1021 = .ok (.iload 5, 2) := by decide +kernel
theorem dL_law_1023 : decode cL_law 1023 = .ok (.ifCond .ne 16, 3) := by decide +kernel
theorem dL_law_1026 : decode cL_law 1026 = .ok (.aload_n 3, 1) := by decide +kernel
theorem dL_law_1027 : decode cL_law 1027 = .ok (.getfield 13, 3) := by decide +kernel
theorem dL_law_1030 : decode cL_law 1030 = .ok (.iload 6, 2) := by decide +kernel
theorem dL_law_1032 : decode cL_law 1032 = .ok (.i2l, 1) := by decide +kernel
theorem dL_law_1033 : decode cL_law 1033 = .ok (.lcmp, 1) := by decide +kernel
theorem dL_law_1034 : decode cL_law 1034 = .ok (.ifCond .eq 5, 3) := by decide +kernel
theorem dL_law_1037 : decode cL_law 1037 = .ok (.iconst 0, 1) := by decide +kernel
theorem dL_law_1038 : decode cL_law 1038 = .ok (.ireturn, 1) := by decide +kernel
theorem dL_law_1039 : decode cL_law 1039 = .ok (.goto 1303, 3) := by decide +kernel
theorem dL_law_1042 : decode cL_law 1042 = .ok (.aload_n 1, 1) := by decide +kernel
theorem dL_law_1043 : decode cL_law 1043 = .ok (.aload_n 0, 1) := by decide +kernel
theorem dL_law_1044 : decode cL_law 1044 = .ok (.iload 4, 2) := by decide +kernel
theorem dL_law_1046 : decode cL_law 1046 = .ok (.iconst 1, 1) := by decide +kernel
theorem dL_law_1047 : decode cL_law 1047 = .ok (.iadd, 1) := by decide +kernel
theorem dL_law_1048 : decode cL_law 1048 = .ok (.iaload, 1) := by decide +kernel
theorem dL_law_1049 : decode cL_law 1049 = .ok (.aload_n 0, 1) := by decide +kernel
theorem dL_law_1050 : decode cL_law 1050 = .ok (.iload 4, 2) := by decide +kernel
theorem dL_law_1052 : decode cL_law 1052 = .ok (.iconst 2, 1) := by decide +kernel
theorem dL_law_1053 : decode cL_law 1053 = .ok (.iadd, 1) := by decide +kernel
theorem dL_law_1054 : decode cL_law 1054 = .ok (.iaload, 1) := by decide +kernel
theorem dL_law_1055 : decode cL_law 1055 = .ok (.aload_n 3, 1) := by decide +kernel
theorem dL_law_1056 : decode cL_law 1056 = .ok (.invokestatic 172, 3) := by decide +kernel
theorem dL_law_1059 : decode cL_law 1059 = .ok (.istore 5, 2) := by decide +kernel
theorem dL_law_1061 : decode cL_law 1061 = .ok (.aload_n 2, 1) := by decide +kernel
theorem dL_law_1062 : decode cL_law 1062 = .ok (.aload_n 0, 1) := by decide +kernel
theorem dL_law_1063 : decode cL_law 1063 = .ok (.iload 4, 2) := by decide +kernel
theorem dL_law_1065 : decode cL_law 1065 = .ok (.iconst 1, 1) := by decide +kernel
theorem dL_law_1066 : decode cL_law 1066 = .ok (.iadd, 1) := by decide +kernel
theorem dL_law_1067 : decode cL_law 1067 = .ok (.iaload, 1) := by decide +kernel
theorem dL_law_1068 : decode cL_law 1068 = .ok (.aload_n 0, 1) := by decide +kernel
theorem dL_law_1069 : decode cL_law 1069 = .ok (.iload 4, 2) := by decide +kernel
theorem dL_law_1071 : decode cL_law 1071 = .ok (.iconst 2, 1) := by decide +kernel
theorem dL_law_1072 : decode cL_law 1072 = .ok (.iadd, 1) := by decide +kernel
theorem dL_law_1073 : decode cL_law 1073 = .ok (.iaload, 1) := by decide +kernel
theorem dL_law_1074 : decode cL_law 1074 = .ok (.invokevirtual 174, 3) := by decide +kernel
theorem dL_law_1077 : decode cL_law 1077 = .ok (.istore 6, 2) := by decide +kernel
theorem dL_law_1079 : decode cL_law 1079 = .ok (.aload_n 2, 1) := by decide +kernel
theorem dL_law_1080 : decode cL_law 1080 = .ok (.invokevirtual 128, 3) := by decide +kernel
theorem dL_law_1083 : decode cL_law 1083 = .ok (.iload 5, 2) := by decide +kernel
theorem dL_law_1085 : decode cL_law 1085 = .ok (.if_icmp .eq 5, 3) := by decide +kernel
theorem dL_law_1088 : decode cL_law 1088 = .ok (.iconst 0, 1) := by decide +kernel
theorem dL_law_1089 : decode cL_law 1089 = .ok (.ireturn, 1) := by decide +kernel
theorem dL_law_1090 : decode cL_law 1090 = .ok (.iload 5, 2) := by decide +kernel
theorem dL_law_1092 : decode cL_law 1092 = .ok (.ifCond .ne 16, 3) := by decide +kernel
theorem dL_law_1095 : decode cL_law 1095 = .ok (.aload_n 3, 1) := by decide +kernel
theorem dL_law_1096 : decode cL_law 1096 = .ok (.getfield 13, 3) := by decide +kernel
theorem dL_law_1099 : decode cL_law 1099 = .ok (.iload 6, 2) := by decide +kernel
theorem dL_law_1101 : decode cL_law 1101 = .ok (.i2l, 1) := by decide +kernel
theorem dL_law_1102 : decode cL_law 1102 = .ok (.lcmp, 1) := by decide +kernel
theorem dL_law_1103 : decode cL_law 1103 = .ok (.ifCond .eq 5, 3) := by decide +kernel
theorem dL_law_1106 : decode cL_law 1106 = .ok (.iconst 0, 1) := by decide +kernel
theorem dL_law_1107 : decode cL_law 1107 = .ok (.ireturn, 1) := by decide +kernel
theorem dL_law_1108 : decode cL_law 1108 = .ok (.goto 1234, 3) := by decide +kernel
theorem dL_law_1111 : decode cL_law 1111 = .ok (.aload_n 1, 1) := by decide +kernel
theorem dL_law_1112 : decode cL_law 1112 = .ok (.aload_n 0, 1) := by decide +kernel
theorem dL_law_1113 : decode cL_law 1113 = .ok (.iload 4, 2) := by decide +kernel
theorem dL_law_1115 : decode cL_law 1115 = .ok (.iconst 1, 1) := by decide +kernel
theorem dL_law_1116 : decode cL_law 1116 = .ok (.iadd, 1) := by decide +kernel
theorem dL_law_1117 : decode cL_law 1117 = .ok (.iaload, 1) := by decide +kernel
theorem dL_law_1118 : decode cL_law 1118 = .ok (.aload_n 3, 1) := by decide +kernel
theorem dL_law_1119 : decode cL_law 1119 = .ok (.invokestatic 175, 3) := by decide +kernel
theorem dL_law_1122 : decode cL_law 1122 = .ok (.istore 5, 2) := by decide +kernel
theorem dL_law_1124 : decode cL_law 1124 = .ok (.aload_n 2, 1) := by decide +kernel
theorem dL_law_1125 : decode cL_law 1125 = .ok (.aload_n 0, 1) := by decide +kernel
theorem dL_law_1126 : decode cL_law 1126 = .ok (.iload 4, 2) := by decide +kernel
theorem dL_law_1128 : decode cL_law 1128 = .ok (.iconst 1, 1) := by decide +kernel
theorem dL_law_1129 : decode cL_law 1129 = .ok (.iadd, 1) := by decide +kernel
theorem dL_law_1130 : decode cL_law 1130 = .ok (.iaload, 1) := by decide +kernel
theorem dL_law_1131 : decode cL_law 1131 = .ok (.invokevirtual 177, 3) := by decide +kernel
theorem dL_law_1134 : decode cL_law 1134 = .ok (.istore 6, 2) := by decide +kernel
theorem dL_law_1136 : decode cL_law 1136 = .ok (.aload_n 2, 1) := by decide +kernel
theorem dL_law_1137 : decode cL_law 1137 = .ok (.invokevirtual 128, 3) := by decide +kernel
theorem dL_law_1140 : decode cL_law 1140 = .ok (.iload 5, 2) := by decide +kernel
theorem dL_law_1142 : decode cL_law 1142 = .ok (.if_icmp .eq 5, 3) := by decide +kernel
theorem dL_law_1145 : decode cL_law 1145 = .ok (.iconst 0, 1) := by decide +kernel
theorem dL_law_1146 : decode cL_law 1146 = .ok (.ireturn, 1) := by decide +kernel
theorem dL_law_1147 : decode cL_law 1147 = .ok (.iload 5, 2) := by decide +kernel
theorem dL_law_1149 : decode cL_law 1149 = .ok (.ifCond .ne 16, 3) := by decide +kernel
theorem dL_law_1152 : decode cL_law 1152 = .ok (.aload_n 3, 1) := by decide +kernel
theorem dL_law_1153 : decode cL_law 1153 = .ok (.getfield 13, 3) := by decide +kernel
theorem dL_law_1156 : decode cL_law 1156 = .ok (.iload 6, 2) := by decide +kernel
theorem dL_law_1158 : decode cL_law 1158 = .ok (.i2l, 1) := by decide +kernel
theorem dL_law_1159 : decode cL_law 1159 = .ok (.lcmp, 1) := by decide +kernel
theorem dL_law_1160 : decode cL_law 1160 = .ok (.ifCond .eq 5, 3) := by decide +kernel
theorem dL_law_1163 : decode cL_law 1163 = .ok (.iconst 0, 1) := by decide +kernel
theorem dL_law_1164 : decode cL_law 1164 = .ok (.ireturn, 1) := by decide +kernel
theorem dL_law_1165 : decode cL_law 1165 = .ok (.goto 1177, 3) := by decide +kernel
theorem dL_law_1168 : decode cL_law 1168 = .ok (.aload_n 1, 1) := by decide +kernel
theorem dL_law_1169 : decode cL_law 1169 = .ok (.invokevirtual 178, 3) := by decide +kernel
theorem dL_law_1172 : decode cL_law 1172 = .ok (.aload_n 2, 1) := by decide +kernel
theorem dL_law_1173 : decode cL_law 1173 = .ok (.invokevirtual 181, 3) := by decide +kernel
theorem dL_law_1176 : decode cL_law 1176 = .ok (.if_icmp .eq 1166, 3) := by decide +kernel
theorem dL_law_1179 : decode cL_law 1179 = .ok (.iconst 0, 1) := by decide +kernel
theorem dL_law_1180 : decode cL_law 1180 = .ok (.ireturn, 1) := by decide +kernel
theorem dL_law_1181 : decode cL_law 1181 = .ok (.aload_n 1, 1) := by decide +kernel
theorem dL_law_1182 : decode cL_law 1182 = .ok (.aload_n 0, 1) := by decide +kernel
theorem dL_law_1183 : decode cL_law 1183 = .ok (.iload 4, 2) := by decide +kernel
theorem dL_law_1185 : decode cL_law 1185 = .ok (.iconst 1, 1) := by decide +kernel
theorem dL_law_1186 : decode cL_law 1186 = .ok (.iadd, 1) := by decide +kernel
theorem dL_law_1187 : decode cL_law 1187 = .ok (.iaload, 1) := by decide +kernel
theorem dL_law_1188 : decode cL_law 1188 = .ok (.aload_n 3, 1) := by decide +kernel
theorem dL_law_1189 : decode cL_law 1189 = .ok (.invokestatic 182, 3) := by decide +kernel
theorem dL_law_1192 : decode cL_law 1192 = .ok (.istore 5, 2) := by decide +kernel
theorem dL_law_1194 : decode cL_law 1194 = .ok (.aload_n 2, 1) := by decide +kernel
theorem dL_law_1195 : decode cL_law 1195 = .ok (.aload_n 0, 1) := by decide +kernel
theorem dL_law_1196 : decode cL_law 1196 = .ok (.iload 4, 2) := by decide +kernel
theorem dL_law_1198 : decode cL_law 1198 = .ok (.iconst 1, 1) := by decide +kernel
theorem dL_law_1199 : decode cL_law 1199 = .ok (.iadd, 1) := by decide +kernel
theorem dL_law_1200 : decode cL_law 1200 = .ok (.iaload, 1) := by decide +kernel
theorem dL_law_1201 : decode cL_law 1201 = .ok (.invokevirtual 184, 3) := by decide +kernel
theorem dL_law_1204 : decode cL_law 1204 = .ok (.istore 6, 2) := by decide +kernel
theorem dL_law_1206 : decode cL_law 1206 = .ok (.aload_n 2, 1) := by decide +kernel
theorem dL_law_1207 : decode cL_law 1207 = .ok (.invokevirtual 128, 3) := by decide +kernel
theorem dL_law_1210 : decode cL_law 1210 = .ok (.iload 5, 2) := by decide +kernel
theorem dL_law_1212 : decode cL_law 1212 = .ok (.if_icmp .eq 5, 3) := by decide +kernel
theorem dL_law_1215 : decode cL_law 1215 = .ok (.iconst 0, 1) := by decide +kernel
theorem dL_law_1216 : decode cL_law 1216 = .ok (.ireturn, 1) := by decide +kernel
theorem dL_law_1217 : decode cL_law 1217 = .ok (.iload 5, 2) := by decide +kernel
theorem dL_law_1219 : decode cL_law 1219 = .ok (.ifCond .ne 16, 3) := by decide +kernel
theorem dL_law_1222 : decode cL_law 1222 = .ok (.aload_n 3, 1) := by decide +kernel
theorem dL_law_1223 : decode cL_law 1223 = .ok (.getfield 13, 3) := by decide +kernel
theorem dL_law_1226 : decode cL_law 1226 = .ok (.iload 6, 2) := by decide +kernel
theorem dL_law_1228 : decode cL_law 1228 = .ok (.i2l, 1) := by decide +kernel
theorem dL_law_1229 : decode cL_law 1229 = .ok (.lcmp, 1) := by decide +kernel
theorem dL_law_1230 : decode cL_law 1230 = .ok (.ifCond .eq 5, 3) := by decide +kernel
theorem dL_law_1233 : decode cL_law 1233 = .ok (.iconst 0, 1) := by decide +kernel
theorem dL_law_1234 : decode cL_law 1234 = .ok (.ireturn, 1) := by decide +kernel
theorem dL_law_1235 : decode cL_law 1235 = .ok (.goto 1107, 3) := by decide +kernel
theorem dL_law_1238 : decode cL_law 1238 = .ok (.aload_n 1, 1) := by decide +kernel
theorem dL_law_1239 : decode cL_law 1239 = .ok (.aload_n 0, 1) := by decide +kernel
theorem dL_law_1240 : decode cL_law 1240 = .ok (.iload 4, 2) := by decide +kernel
theorem dL_law_1242 : decode cL_law 1242 = .ok (.iconst 1, 1) := by decide +kernel
theorem dL_law_1243 : decode cL_law 1243 = .ok (.iadd, 1) := by decide +kernel
theorem dL_law_1244 : decode cL_law 1244 = .ok (.iaload, 1) := by decide +kernel
theorem dL_law_1245 : decode cL_law 1245 = .ok (.aload_n 0, 1) := by decide +kernel
theorem dL_law_1246 : decode cL_law 1246 = .ok (.iload 4, 2) := by decide +kernel
theorem dL_law_1248 : decode cL_law 1248 = .ok (.iconst 2, 1) := by decide +kernel
theorem dL_law_1249 : decode cL_law 1249 = .ok (.iadd, 1) := by decide +kernel
theorem dL_law_1250 : decode cL_law 1250 = .ok (.iaload, 1) := by decide +kernel
theorem dL_law_1251 : decode cL_law 1251 = .ok (.aload_n 0, 1) := by decide +kernel
theorem dL_law_1252 : decode cL_law 1252 = .ok (.iload 4, 2) := by decide +kernel
theorem dL_law_1254 : decode cL_law 1254 = .ok (.iconst 3, 1) := by decide +kernel
theorem dL_law_1255 : decode cL_law 1255 = .ok (.iadd, 1) := by decide +kernel
theorem dL_law_1256 : decode cL_law 1256 = .ok (.iaload, 1) := by decide +kernel
theorem dL_law_1257 : decode cL_law 1257 = .ok (.ifCond .eq 7, 3) := by decide +kernel
theorem dL_law_1260 : decode cL_law 1260 = .ok (.iconst 1, 1) := by decide +kernel
theorem dL_law_1261 : decode cL_law 1261 = .ok (.goto 4, 3) := by decide +kernel
theorem dL_law_1264 : decode cL_law 1264 = .ok (.iconst 0, 1) := by decide +kernel
theorem dL_law_1265 : decode cL_law 1265 = .ok (.aload_n 3, 1) := by decide +kernel
theorem dL_law_1266 : decode cL_law 1266 = .ok (.invokestatic 185, 3) := by decide +kernel
theorem dL_law_1269 : decode cL_law 1269 = .ok (.istore 5, 2) := by decide +kernel
theorem dL_law_1271 : decode cL_law 1271 = .ok (.aload_n 2, 1) := by decide +kernel
theorem dL_law_1272 : decode cL_law 1272 = .ok (.aload_n 0, 1) := by decide +kernel
theorem dL_law_1273 : decode cL_law 1273 = .ok (.iload 4, 2) := by decide +kernel
theorem dL_law_1275 : decode cL_law 1275 = .ok (.iconst 1, 1) := by decide +kernel
theorem dL_law_1276 : decode cL_law 1276 = .ok (.iadd, 1) := by decide +kernel
theorem dL_law_1277 : decode cL_law 1277 = .ok (.iaload, 1) := by decide +kernel
theorem dL_law_1278 : decode cL_law 1278 = .ok (.aload_n 0, 1) := by decide +kernel
theorem dL_law_1279 : decode cL_law 1279 = .ok (.iload 4, 2) := by decide +kernel
theorem dL_law_1281 : decode cL_law 1281 = .ok (.iconst 2, 1) := by decide +kernel
theorem dL_law_1282 : decode cL_law 1282 = .ok (.iadd, 1) := by decide +kernel
theorem dL_law_1283 : decode cL_law 1283 = .ok (.iaload, 1) := by decide +kernel
theorem dL_law_1284 : decode cL_law 1284 = .ok (.aload_n 0, 1) := by decide +kernel
theorem dL_law_1285 : decode cL_law 1285 = .ok (.iload 4, 2) := by decide +kernel
theorem dL_law_1287 : decode cL_law 1287 = .ok (.iconst 3, 1) := by decide +kernel
theorem dL_law_1288 : decode cL_law 1288 = .ok (.iadd, 1) := by decide +kernel
theorem dL_law_1289 : decode cL_law 1289 = .ok (.iaload, 1) := by decide +kernel
theorem dL_law_1290 : decode cL_law 1290 = .ok (.ifCond .eq 7, 3) := by decide +kernel
theorem dL_law_1293 : decode cL_law 1293 = .ok (.iconst 1, 1) := by decide +kernel
theorem dL_law_1294 : decode cL_law 1294 = .ok (.goto 4, 3) := by decide +kernel
theorem dL_law_1297 : decode cL_law 1297 = .ok (.iconst 0, 1) := by decide +kernel
theorem dL_law_1298 : decode cL_law 1298 = .ok (.invokevirtual 187, 3) := by decide +kernel
theorem dL_law_1301 : decode cL_law 1301 = .ok (.istore 6, 2) := by decide +kernel
theorem dL_law_1303 : decode cL_law 1303 = .ok (.aload_n 2, 1) := by decide +kernel
theorem dL_law_1304 : decode cL_law 1304 = .ok (.invokevirtual 128, 3) := by decide +kernel
theorem dL_law_1307 : decode cL_law 1307 = .ok (.iload 5, 2) := by decide +kernel
theorem dL_law_1309 : decode cL_law 1309 = .ok (.if_icmp .eq 5, 3) := by decide +kernel
theorem dL_law_1312 : decode cL_law 1312 = .ok (.iconst 0, 1) := by decide +kernel
theorem dL_law_1313 : decode cL_law 1313 = .ok (.ireturn, 1) := by decide +kernel
theorem dL_law_1314 : decode cL_law 1314 = .ok (.iload 5, 2) := by decide +kernel
theorem dL_law_1316 : decode cL_law 1316 = .ok (.ifCond .ne 16, 3) := by decide +kernel
theorem dL_law_1319 : decode cL_law 1319 = .ok (.aload_n 3, 1) := by decide +kernel
theorem dL_law_1320 : decode cL_law 1320 = .ok (.getfield 13, 3) := by decide +kernel
theorem dL_law_1323 : decode cL_law 1323 = .ok (.iload 6, 2) := by decide +kernel
theorem dL_law_1325 : decode cL_law 1325 = .ok (.i2l, 1) := by decide +kernel
theorem dL_law_1326 : decode cL_law 1326 = .ok (.lcmp, 1) := by decide +kernel
theorem dL_law_1327 : decode cL_law 1327 = .ok (.ifCond .eq 5, 3) := by decide +kernel
theorem dL_law_1330 : decode cL_law 1330 = .ok (.iconst 0, 1) := by decide +kernel
theorem dL_law_1331 : decode cL_law 1331 = .ok (.ireturn, 1) := by decide +kernel
theorem dL_law_1332 : decode cL_law 1332 = .ok (.goto 1010, 3) := by decide +kernel
theorem dL_law_1335 : decode cL_law 1335 = .ok (.aload_n 1, 1) := by decide +kernel
theorem dL_law_1336 : decode cL_law 1336 = .ok (.invokevirtual 188, 3) := by decide +kernel
theorem dL_law_1339 : decode cL_law 1339 = .ok (.aload_n 2, 1) := by decide +kernel
theorem dL_law_1340 : decode cL_law 1340 = .ok (.invokevirtual 191, 3) := by decide +kernel
theorem dL_law_1343 : decode cL_law 1343 = .ok (.if_icmp .eq 999, 3) := by decide +kernel
theorem dL_law_1346 : decode cL_law 1346 = .ok (.iconst 0, 1) := by decide +kernel
theorem dL_law_1347 : decode cL_law 1347 = .ok (.ireturn, 1) := by decide +kernel
theorem dL_law_1348 : decode cL_law 1348 = .ok (.aload_n 1, 1) := by decide +kernel
theorem dL_law_1349 : decode cL_law 1349 = .ok (.aload_n 0, 1) := by decide +kernel
theorem dL_law_1350 : decode cL_law 1350 = .ok (.iload 4, 2) := by decide +kernel
theorem dL_law_1352 : decode cL_law 1352 = .ok (.iconst 1, 1) := by decide +kernel
theorem dL_law_1353 : decode cL_law 1353 = .ok (.iadd, 1) := by decide +kernel
theorem dL_law_1354 : decode cL_law 1354 = .ok (.iaload, 1) := by decide +kernel
theorem dL_law_1355 : decode cL_law 1355 = .ok (.aload_n 3, 1) := by decide +kernel
theorem dL_law_1356 : decode cL_law 1356 = .ok (.invokestatic 192, 3) := by decide +kernel
theorem dL_law_1359 : decode cL_law 1359 = .ok (.istore 5, 2) := by decide +kernel
theorem dL_law_1361 : decode cL_law 1361 = .ok (.aload_n 2, 1) := by decide +kernel
theorem dL_law_1362 : decode cL_law 1362 = .ok (.aload_n 0, 1) := by decide +kernel
theorem dL_law_1363 : decode cL_law 1363 = .ok (.iload 4, 2) := by decide +kernel
theorem dL_law_1365 : decode cL_law 1365 = .ok (.iconst 1, 1) := by decide +kernel
theorem dL_law_1366 : decode cL_law 1366 = .ok (.iadd, 1) := by decide +kernel
theorem dL_law_1367 : decode cL_law 1367 = .ok (.iaload, 1) := by decide +kernel
theorem dL_law_1368 : decode cL_law 1368 = .ok (.invokevirtual 194, 3) := by decide +kernel
theorem dL_law_1371 : decode cL_law 1371 = .ok (.astore 6, 2) := by decide +kernel
theorem dL_law_1373 : decode cL_law 1373 = .ok (.aload_n 2, 1) := by decide +kernel
theorem dL_law_1374 : decode cL_law 1374 = .ok (.invokevirtual 128, 3) := by decide +kernel
theorem dL_law_1377 : decode cL_law 1377 = .ok (.iload 5, 2) := by decide +kernel
theorem dL_law_1379 : decode cL_law 1379 = .ok (.if_icmp .eq 5, 3) := by decide +kernel
theorem dL_law_1382 : decode cL_law 1382 = .ok (.iconst 0, 1) := by decide +kernel
theorem dL_law_1383 : decode cL_law 1383 = .ok (.ireturn, 1) := by decide +kernel
theorem dL_law_1384 : decode cL_law 1384 = .ok (.iload 5, 2) := by decide +kernel
theorem dL_law_1386 : decode cL_law 1386 = .ok (.ifCond .ne 17, 3) := by decide +kernel
theorem dL_law_1389 : decode cL_law 1389 = .ok (.aload_n 3, 1) := by decide +kernel
theorem dL_law_1390 : decode cL_law 1390 = .ok (.getfield 47, 3) := by decide +kernel
theorem dL_law_1393 : decode cL_law 1393 = .ok (.aload 6, 2) := by decide +kernel
theorem dL_law_1395 : decode cL_law 1395 = .ok (.invokevirtual 153, 3) := by decide +kernel
theorem dL_law_1398 : decode cL_law 1398 = .ok (.ifCond .ne 5, 3) := by decide +kernel
theorem dL_law_1401 : decode cL_law 1401 = .ok (.iconst 0, 1) := by decide +kernel
theorem dL_law_1402 : decode cL_law 1402 = .ok (.ireturn, 1) := by decide +kernel
theorem dL_law_1403 : decode cL_law 1403 = .ok (.goto 939, 3) := by decide +kernel
theorem dL_law_1406 : decode cL_law 1406 = .ok (.aload_n 1, 1) := by decide +kernel
theorem dL_law_1407 : decode cL_law 1407 = .ok (.aload_n 0, 1) := by decide +kernel
theorem dL_law_1408 : decode cL_law 1408 = .ok (.iload 4, 2) := by decide +kernel
theorem dL_law_1410 : decode cL_law 1410 = .ok (.iconst 1, 1) := by decide +kernel
theorem dL_law_1411 : decode cL_law 1411 = .ok (.iadd, 1) := by decide +kernel
theorem dL_law_1412 : decode cL_law 1412 = .ok (.iaload, 1) := by decide +kernel
theorem dL_law_1413 : decode cL_law 1413 = .ok (.aload_n 3, 1) := by decide +kernel
theorem dL_law_1414 : decode cL_law 1414 = .ok (.invokestatic 195, 3) := by decide +kernel
theorem dL_law_1417 : decode cL_law 1417 = .ok (.istore 5, 2) := by decide +kernel
theorem dL_law_1419 : decode cL_law 1419 = .ok (.aload_n 2, 1) := by decide +kernel
theorem dL_law_1420 : decode cL_law 1420 = .ok (.aload_n 0, 1) := by decide +kernel
theorem dL_law_1421 : decode cL_law 1421 = .ok (.iload 4, 2) := by decide +kernel
theorem dL_law_1423 : decode cL_law 1423 = .ok (.iconst 1, 1) := by decide +kernel
theorem dL_law_1424 : decode cL_law 1424 = .ok (.iadd, 1) := by decide +kernel
theorem dL_law_1425 : decode cL_law 1425 = .ok (.iaload, 1) := by decide +kernel
theorem dL_law_1426 : decode cL_law 1426 = .ok (.invokevirtual 197, 3) := by decide +kernel
theorem dL_law_1429 : decode cL_law 1429 = .ok (.istore 6, 2) := by decide +kernel
theorem dL_law_1431 : decode cL_law 1431 = .ok (.aload_n 2, 1) := by decide +kernel
theorem dL_law_1432 : decode cL_law 1432 = .ok (.invokevirtual 128, 3) := by decide +kernel
theorem dL_law_1435 : decode cL_law 1435 = .ok (.iload 5, 2) := by decide +kernel
theorem dL_law_1437 : decode cL_law 1437 = .ok (.if_icmp .eq 5, 3) := by decide +kernel
theorem dL_law_1440 : decode cL_law 1440 = .ok (.iconst 0, 1) := by decide +kernel
theorem dL_law_1441 : decode cL_law 1441 = .ok (.ireturn, 1) := by decide +kernel
theorem dL_law_1442 : decode cL_law 1442 = .ok (.iload 5, 2) := by decide +kernel
theorem dL_law_1444 : decode cL_law 1444 = .ok (.ifCond .ne 23, 3) := by decide +kernel
theorem dL_law_1447 : decode cL_law 1447 = .ok (.aload_n 3, 1) := by decide +kernel
theorem dL_law_1448 : decode cL_law 1448 = .ok (.getfield 13, 3) := by decide +kernel
theorem dL_law_1451 : decode cL_law 1451 = .ok (.iload 6, 2) := by decide +kernel
theorem dL_law_1453 : decode cL_law 1453 = .ok (.ifCond .eq 7, 3) := by decide +kernel
theorem dL_law_1456 : decode cL_law 1456 = .ok (.lconst 1, 1) := by decide +kernel
theorem dL_law_1457 : decode cL_law 1457 = .ok (.goto 4, 3) := by decide +kernel
theorem dL_law_1460 : decode cL_law 1460 = .ok (.lconst 0, 1) := by decide +kernel
theorem dL_law_1461 : decode cL_law 1461 = .ok (.lcmp, 1) := by decide +kernel
theorem dL_law_1462 : decode cL_law 1462 = .ok (.ifCond .eq 5, 3) := by decide +kernel
theorem dL_law_1465 : decode cL_law 1465 = .ok (.iconst 0, 1) := by decide +kernel
theorem dL_law_1466 : decode cL_law 1466 = .ok (.ireturn, 1) := by decide +kernel
theorem dL_law_1467 : decode cL_law 1467 = .ok (.goto 875, 3) := by decide +kernel
theorem dL_law_1470 : decode cL_law 1470 = .ok (.aload_n 1, 1) := by decide +kernel
theorem dL_law_1471 : decode cL_law 1471 = .ok (.invokevirtual 198, 3) := by decide +kernel
theorem dL_law_1474 : decode cL_law 1474 = .ok (.aload_n 2, 1) := by decide +kernel
theorem dL_law_1475 : decode cL_law 1475 = .ok (.invokevirtual 202, 3) := by decide +kernel
theorem dL_law_1478 : decode cL_law 1478 = .ok (.if_icmp .eq 864, 3) := by decide +kernel
theorem dL_law_1481 : decode cL_law 1481 = .ok (.iconst 0, 1) := by decide +kernel
theorem dL_law_1482 : decode cL_law 1482 = .ok (.ireturn, 1) := by decide +kernel
theorem dL_law_1483 : decode cL_law 1483 = .ok (.aload_n 1, 1) := by decide +kernel
theorem dL_law_1484 : decode cL_law 1484 = .ok (.aload_n 0, 1) := by decide +kernel
theorem dL_law_1485 : decode cL_law 1485 = .ok (.iload 4, 2) := by decide +kernel
theorem dL_law_1487 : decode cL_law 1487 = .ok (.iconst 1, 1) := by decide +kernel
theorem dL_law_1488 : decode cL_law 1488 = .ok (.iadd, 1) := by decide +kernel
theorem dL_law_1489 : decode cL_law 1489 = .ok (.iaload, 1) := by decide +kernel
theorem dL_law_1490 : decode cL_law 1490 = .ok (.aload_n 0, 1) := by decide +kernel
theorem dL_law_1491 : decode cL_law 1491 = .ok (.iload 4, 2) := by decide +kernel
theorem dL_law_1493 : decode cL_law 1493 = .ok (.iconst 2, 1) := by decide +kernel
theorem dL_law_1494 : decode cL_law 1494 = .ok (.iadd, 1) := by decide +kernel
theorem dL_law_1495 : decode cL_law 1495 = .ok (.iaload, 1) := by decide +kernel
theorem dL_law_1496 : decode cL_law 1496 = .ok (.aload_n 3, 1) := by decide +kernel
theorem dL_law_1497 : decode cL_law 1497 = .ok (.invokestatic 203, 3) := by decide +kernel
theorem dL_law_1500 : decode cL_law 1500 = .ok (.istore 5, 2) := by decide +kernel
theorem dL_law_1502 : decode cL_law 1502 = .ok (.aload_n 2, 1) := by decide +kernel
theorem dL_law_1503 : decode cL_law 1503 = .ok (.aload_n 0, 1) := by decide +kernel
theorem dL_law_1504 : decode cL_law 1504 = .ok (.iload 4, 2) := by decide +kernel
theorem dL_law_1506 : decode cL_law 1506 = .ok (.iconst 1, 1) := by decide +kernel
theorem dL_law_1507 : decode cL_law 1507 = .ok (.iadd, 1) := by decide +kernel
theorem dL_law_1508 : decode cL_law 1508 = .ok (.iaload, 1) := by decide +kernel
theorem dL_law_1509 : decode cL_law 1509 = .ok (.aload_n 0, 1) := by decide +kernel
theorem dL_law_1510 : decode cL_law 1510 = .ok (.iload 4, 2) := by decide +kernel
theorem dL_law_1512 : decode cL_law 1512 = .ok (.iconst 2, 1) := by decide +kernel
theorem dL_law_1513 : decode cL_law 1513 = .ok (.iadd, 1) := by decide +kernel
theorem dL_law_1514 : decode cL_law 1514 = .ok (.iaload, 1) := by decide +kernel
theorem dL_law_1515 : decode cL_law 1515 = .ok (.invokevirtual 205, 3) := by decide +kernel
theorem dL_law_1518 : decode cL_law 1518 = .ok (.istore 6, 2) := by decide +kernel
theorem dL_law_1520 : decode cL_law 1520 = .ok (.aload_n 2, 1) := by decide +kernel
theorem dL_law_1521 : decode cL_law 1521 = .ok (.invokevirtual 128, 3) := by decide +kernel
theorem dL_law_1524 : decode cL_law 1524 = .ok (.iload 5, 2) := by decide +kernel
theorem dL_law_1526 : decode cL_law 1526 = .ok (.if_icmp .eq 5, 3) := by decide +kernel
theorem dL_law_1529 : decode cL_law 1529 = .ok (.iconst 0, 1) := by decide +kernel
theorem dL_law_1530 : decode cL_law 1530 = .ok (.ireturn, 1) := by decide +kernel
theorem dL_law_1531 : decode cL_law 1531 = .ok (.iload 5, 2) := by decide +kernel
theorem dL_law_1533 : decode cL_law 1533 = .ok (.ifCond .ne 16, 3) := by decide +kernel
theorem dL_law_1536 : decode cL_law 1536 = .ok (.aload_n 3, 1) := by decide +kernel
theorem dL_law_1537 : decode cL_law 1537 = .ok (.getfield 13, 3) := by decide +kernel
theorem dL_law_1540 : decode cL_law 1540 = .ok (.iload 6, 2) := by decide +kernel
theorem dL_law_1542 : decode cL_law 1542 = .ok (.i2l, 1) := by decide +kernel
theorem dL_law_1543 : decode cL_law 1543 = .ok (.lcmp, 1) := by decide +kernel
theorem dL_law_1544 : decode cL_law 1544 = .ok (.ifCond .eq 5, 3) := by decide +kernel
theorem dL_law_1547 : decode cL_law 1547 = .ok (.iconst 0, 1) := by decide +kernel
theorem dL_law_1548 : decode cL_law 1548 = .ok (.ireturn, 1) := by decide +kernel
theorem dL_law_1549 : decode cL_law 1549 = .ok (.goto 793, 3) := by decide +kernel
theorem dL_law_1552 : decode cL_law 1552 = .ok (.aload_n 1, 1) := by decide +kernel
theorem dL_law_1553 : decode cL_law 1553 = .ok (.aload_n 0, 1) := by decide +kernel
theorem dL_law_1554 : decode cL_law 1554 = .ok (.iload 4, 2) := by decide +kernel
theorem dL_law_1556 : decode cL_law 1556 = .ok (.iconst 1, 1) := by decide +kernel
theorem dL_law_1557 : decode cL_law 1557 = .ok (.iadd, 1) := by decide +kernel
theorem dL_law_1558 : decode cL_law 1558 = .ok (.iaload, 1) := by decide +kernel
theorem dL_law_1559 : decode cL_law 1559 = .ok (.aload_n 0, 1) := by decide +kernel
theorem dL_law_1560 : decode cL_law 1560 = .ok (.iload 4, 2) := by decide +kernel
theorem dL_law_1562 : decode cL_law 1562 = .ok (.iconst 2, 1) := by decide +kernel
theorem dL_law_1563 : decode cL_law 1563 = .ok (.iadd, 1) := by decide +kernel
theorem dL_law_1564 : decode cL_law 1564 = .ok (.iaload, 1) := by decide +kernel
theorem dL_law_1565 : decode cL_law 1565 = .ok (.aload_n 0, 1) := by decide +kernel
theorem dL_law_1566 : decode cL_law 1566 = .ok (.iload 4, 2) := by decide +kernel
theorem dL_law_1568 : decode cL_law 1568 = .ok (.iconst 3, 1) := by decide +kernel
theorem dL_law_1569 : decode cL_law 1569 = .ok (.iadd, 1) := by decide +kernel
theorem dL_law_1570 : decode cL_law 1570 = .ok (.iaload, 1) := by decide +kernel
theorem dL_law_1571 : decode cL_law 1571 = .ok (.aload_n 3, 1) := by decide +kernel
theorem dL_law_1572 : decode cL_law 1572 = .ok (.invokestatic 206, 3) := by decide +kernel
theorem dL_law_1575 : decode cL_law 1575 = .ok (.istore 5, 2) := by decide +kernel
theorem dL_law_1577 : decode cL_law 1577 = .ok (.aload_n 2, 1) := by decide +kernel
theorem dL_law_1578 : decode cL_law 1578 = .ok (.aload_n 0, 1) := by decide +kernel
theorem dL_law_1579 : decode cL_law 1579 = .ok (.iload 4, 2) := by decide +kernel
theorem dL_law_1581 : decode cL_law 1581 = .ok (.iconst 1, 1) := by decide +kernel
theorem dL_law_1582 : decode cL_law 1582 = .ok (.iadd, 1) := by decide +kernel
theorem dL_law_1583 : decode cL_law 1583 = .ok (.iaload, 1) := by decide +kernel
theorem dL_law_1584 : decode cL_law 1584 = .ok (.aload_n 0, 1) := by decide +kernel
theorem dL_law_1585 : decode cL_law 1585 = .ok (.iload 4, 2) := by decide +kernel
theorem dL_law_1587 : decode cL_law 1587 = .ok (.iconst 2, 1) := by decide +kernel
theorem dL_law_1588 : decode cL_law 1588 = .ok (.iadd, 1) := by decide +kernel
theorem dL_law_1589 : decode cL_law 1589 = .ok (.iaload, 1) := by decide +kernel
theorem dL_law_1590 : decode cL_law 1590 = .ok (.aload_n 0, 1) := by decide +kernel
theorem dL_law_1591 : decode cL_law 1591 = .ok (.iload 4, 2) := by decide +kernel
theorem dL_law_1593 : decode cL_law 1593 = .ok (.iconst 3, 1) := by decide +kernel
theorem dL_law_1594 : decode cL_law 1594 = .ok (.iadd, 1) := by decide +kernel
theorem dL_law_1595 : decode cL_law 1595 = .ok (.iaload, 1) := by decide +kernel
theorem dL_law_1596 : decode cL_law 1596 = .ok (.invokevirtual 208, 3) := by decide +kernel
theorem dL_law_1599 : decode cL_law 1599 = .ok (.istore 6, 2) := by decide +kernel
theorem dL_law_1601 : decode cL_law 1601 = .ok (.aload_n 2, 1) := by decide +kernel
theorem dL_law_1602 : decode cL_law 1602 = .ok (.invokevirtual 128, 3) := by decide +kernel
theorem dL_law_1605 : decode cL_law 1605 = .ok (.iload 5, 2) := by decide +kernel
theorem dL_law_1607 : decode cL_law 1607 = .ok (.if_icmp .eq 5, 3) := by decide +kernel
theorem dL_law_1610 : decode cL_law 1610 = .ok (.iconst 0, 1) := by decide +kernel
theorem dL_law_1611 : decode cL_law 1611 = .ok (.ireturn, 1) := by decide +kernel
theorem dL_law_1612 : decode cL_law 1612 = .ok (.iload 5, 2) := by decide +kernel
theorem dL_law_1614 : decode cL_law 1614 = .ok (.ifCond .ne 16, 3) := by decide +kernel
theorem dL_law_1617 : decode cL_law 1617 = .ok (.aload_n 3, 1) := by decide +kernel
theorem dL_law_1618 : decode cL_law 1618 = .ok (.getfield 13, 3) := by decide +kernel
theorem dL_law_1621 : decode cL_law 1621 = .ok (.iload 6, 2) := by decide +kernel
theorem dL_law_1623 : decode cL_law 1623 = .ok (.i2l, 1) := by decide +kernel
theorem dL_law_1624 : decode cL_law 1624 = .ok (.lcmp, 1) := by decide +kernel
theorem dL_law_1625 : decode cL_law 1625 = .ok (.ifCond .eq 5, 3) := by decide +kernel
theorem dL_law_1628 : decode cL_law 1628 = .ok (.iconst 0, 1) := by decide +kernel
theorem dL_law_1629 : decode cL_law 1629 = .ok (.ireturn, 1) := by decide +kernel
theorem dL_law_1630 : decode cL_law 1630 = .ok (.goto 712, 3) := by decide +kernel
theorem dL_law_1633 : decode cL_law 1633 = .ok (.aload_n 1, 1) := by decide +kernel
theorem dL_law_1634 : decode cL_law 1634 = .ok (.aload_n 0, 1) := by decide +kernel
theorem dL_law_1635 : decode cL_law 1635 = .ok (.iload 4, 2) := by decide +kernel
theorem dL_law_1637 : decode cL_law 1637 = .ok (.iconst 1, 1) := by decide +kernel
theorem dL_law_1638 : decode cL_law 1638 = .ok (.iadd, 1) := by decide +kernel
theorem dL_law_1639 : decode cL_law 1639 = .ok (.iaload, 1) := by decide +kernel
theorem dL_law_1640 : decode cL_law 1640 = .ok (.aload_n 0, 1) := by decide +kernel
theorem dL_law_1641 : decode cL_law 1641 = .ok (.iload 4, 2) := by decide +kernel
theorem dL_law_1643 : decode cL_law 1643 = .ok (.iconst 2, 1) := by decide +kernel
theorem dL_law_1644 : decode cL_law 1644 = .ok (.iadd, 1) := by decide +kernel
theorem dL_law_1645 : decode cL_law 1645 = .ok (.iaload, 1) := by decide +kernel
theorem dL_law_1646 : decode cL_law 1646 = .ok (.aload_n 3, 1) := by decide +kernel
theorem dL_law_1647 : decode cL_law 1647 = .ok (.invokestatic 209, 3) := by decide +kernel
theorem dL_law_1650 : decode cL_law 1650 = .ok (.istore 5, 2) := by decide +kernel
theorem dL_law_1652 : decode cL_law 1652 = .ok (.aload_n 2, 1) := by decide +kernel
theorem dL_law_1653 : decode cL_law 1653 = .ok (.aload_n 0, 1) := by decide +kernel
theorem dL_law_1654 : decode cL_law 1654 = .ok (.iload 4, 2) := by decide +kernel
theorem dL_law_1656 : decode cL_law 1656 = .ok (.iconst 1, 1) := by decide +kernel
theorem dL_law_1657 : decode cL_law 1657 = .ok (.iadd, 1) := by decide +kernel
theorem dL_law_1658 : decode cL_law 1658 = .ok (.iaload, 1) := by decide +kernel
theorem dL_law_1659 : decode cL_law 1659 = .ok (.aload_n 0, 1) := by decide +kernel
theorem dL_law_1660 : decode cL_law 1660 = .ok (.iload 4, 2) := by decide +kernel
theorem dL_law_1662 : decode cL_law 1662 = .ok (.iconst 2, 1) := by decide +kernel
theorem dL_law_1663 : decode cL_law 1663 = .ok (.iadd, 1) := by decide +kernel
theorem dL_law_1664 : decode cL_law 1664 = .ok (.iaload, 1) := by decide +kernel
theorem dL_law_1665 : decode cL_law 1665 = .ok (.invokevirtual 211, 3) := by decide +kernel
theorem dL_law_1668 : decode cL_law 1668 = .ok (.istore 6, 2) := by decide +kernel
theorem dL_law_1670 : decode cL_law 1670 = .ok (.aload_n 2, 1) := by decide +kernel
theorem dL_law_1671 : decode cL_law 1671 = .ok (.invokevirtual 128, 3) := by decide +kernel
theorem dL_law_1674 : decode cL_law 1674 = .ok (.iload 5, 2) := by decide +kernel
theorem dL_law_1676 : decode cL_law 1676 = .ok (.if_icmp .eq 5, 3) := by decide +kernel
theorem dL_law_1679 : decode cL_law 1679 = .ok (.iconst 0, 1) := by decide +kernel
theorem dL_law_1680 : decode cL_law 1680 = .ok (.ireturn, 1) := by decide +kernel
theorem dL_law_1681 : decode cL_law 1681 = .ok (.iload 5, 2) := by decide +kernel
theorem dL_law_1683 : decode cL_law 1683 = .ok (.ifCond .ne 16, 3) := by decide +kernel
theorem dL_law_1686 : decode cL_law 1686 = .ok (.aload_n 3, 1) := by decide +kernel
theorem dL_law_1687 : decode cL_law 1687 = .ok (.getfield 13, 3) := by decide +kernel
theorem dL_law_1690 : decode cL_law 1690 = .ok (.iload 6, 2) := by decide +kernel
theorem dL_law_1692 : decode cL_law 1692 = .ok (.i2l, 1) := by decide +kernel
theorem dL_law_1693 : decode cL_law 1693 = .ok (.lcmp, 1) := by decide +kernel
theorem dL_law_1694 : decode cL_law 1694 = .ok (.ifCond .eq 5, 3) := by decide +kernel
theorem dL_law_1697 : decode cL_law 1697 = .ok (.iconst 0, 1) := by decide +kernel
theorem dL_law_1698 : decode cL_law 1698 = .ok (.ireturn, 1) := by decide +kernel
theorem dL_law_1699 : decode cL_law 1699 = .ok (.goto 643, 3) := by decide +kernel
theorem dL_law_1702 : decode cL_law 1702 = .ok (.aload_n 1, 1) := by decide +kernel
theorem dL_law_1703 : decode cL_law 1703 = .ok (.aload_n 0, 1) := by decide +kernel
theorem dL_law_1704 : decode cL_law 1704 = .ok (.iload 4, 2) := by decide +kernel
theorem dL_law_1706 : decode cL_law 1706 = .ok (.iconst 1, 1) := by decide +kernel
theorem dL_law_1707 : decode cL_law 1707 = .ok (.iadd, 1) := by decide +kernel
theorem dL_law_1708 : decode cL_law 1708 = .ok (.iaload, 1) := by decide +kernel
theorem dL_law_1709 : decode cL_law 1709 = .ok (.aload_n 0, 1) := by decide +kernel
theorem dL_law_1710 : decode cL_law 1710 = .ok (.iload 4, 2) := by decide +kernel
theorem dL_law_1712 : decode cL_law 1712 = .ok (.iconst 2, 1) := by decide +kernel
theorem dL_law_1713 : decode cL_law 1713 = .ok (.iadd, 1) := by decide +kernel
theorem dL_law_1714 : decode cL_law 1714 = .ok (.iaload, 1) := by decide +kernel
theorem dL_law_1715 : decode cL_law 1715 = .ok (.aload_n 0, 1) := by decide +kernel
theorem dL_law_1716 : decode cL_law 1716 = .ok (.iload 4, 2) := by decide +kernel
theorem dL_law_1718 : decode cL_law 1718 = .ok (.iconst 3, 1) := by decide +kernel
theorem dL_law_1719 : decode cL_law 1719 = .ok (.iadd, 1) := by decide +kernel
theorem dL_law_1720 : decode cL_law 1720 = .ok (.iaload, 1) := by decide +kernel
theorem dL_law_1721 : decode cL_law 1721 = .ok (.aload_n 3, 1) := by decide +kernel
theorem dL_law_1722 : decode cL_law 1722 = .ok (.invokestatic 212, 3) := by decide +kernel
theorem dL_law_1725 : decode cL_law 1725 = .ok (.istore 5, 2) := by decide +kernel
theorem dL_law_1727 : decode cL_law 1727 = .ok (.aload_n 2, 1) := by decide +kernel
theorem dL_law_1728 : decode cL_law 1728 = .ok (.aload_n 0, 1) := by decide +kernel
theorem dL_law_1729 : decode cL_law 1729 = .ok (.iload 4, 2) := by decide +kernel
theorem dL_law_1731 : decode cL_law 1731 = .ok (.iconst 1, 1) := by decide +kernel
theorem dL_law_1732 : decode cL_law 1732 = .ok (.iadd, 1) := by decide +kernel
theorem dL_law_1733 : decode cL_law 1733 = .ok (.iaload, 1) := by decide +kernel
theorem dL_law_1734 : decode cL_law 1734 = .ok (.aload_n 0, 1) := by decide +kernel
theorem dL_law_1735 : decode cL_law 1735 = .ok (.iload 4, 2) := by decide +kernel
theorem dL_law_1737 : decode cL_law 1737 = .ok (.iconst 2, 1) := by decide +kernel
theorem dL_law_1738 : decode cL_law 1738 = .ok (.iadd, 1) := by decide +kernel
theorem dL_law_1739 : decode cL_law 1739 = .ok (.iaload, 1) := by decide +kernel
theorem dL_law_1740 : decode cL_law 1740 = .ok (.aload_n 0, 1) := by decide +kernel
theorem dL_law_1741 : decode cL_law 1741 = .ok (.iload 4, 2) := by decide +kernel
theorem dL_law_1743 : decode cL_law 1743 = .ok (.iconst 3, 1) := by decide +kernel
theorem dL_law_1744 : decode cL_law 1744 = .ok (.iadd, 1) := by decide +kernel
theorem dL_law_1745 : decode cL_law 1745 = .ok (.iaload, 1) := by decide +kernel
theorem dL_law_1746 : decode cL_law 1746 = .ok (.invokevirtual 214, 3) := by decide +kernel
theorem dL_law_1749 : decode cL_law 1749 = .ok (.istore 6, 2) := by decide +kernel
theorem dL_law_1751 : decode cL_law 1751 = .ok (.aload_n 2, 1) := by decide +kernel
theorem dL_law_1752 : decode cL_law 1752 = .ok (.invokevirtual 128, 3) := by decide +kernel
theorem dL_law_1755 : decode cL_law 1755 = .ok (.iload 5, 2) := by decide +kernel
theorem dL_law_1757 : decode cL_law 1757 = .ok (.if_icmp .eq 5, 3) := by decide +kernel
theorem dL_law_1760 : decode cL_law 1760 = .ok (.iconst 0, 1) := by decide +kernel
theorem dL_law_1761 : decode cL_law 1761 = .ok (.ireturn, 1) := by decide +kernel
theorem dL_law_1762 : decode cL_law 1762 = .ok (.iload 5, 2) := by decide +kernel
theorem dL_law_1764 : decode cL_law 1764 = .ok (.ifCond .ne 16, 3) := by decide +kernel
theorem dL_law_1767 : decode cL_law 1767 = .ok (.aload_n 3, 1) := by decide +kernel
theorem dL_law_1768 : decode cL_law 1768 = .ok (.getfield 13, 3) := by decide +kernel
theorem dL_law_1771 : decode cL_law 1771 = .ok (.iload 6, 2) := by decide +kernel
theorem dL_law_1773 : decode cL_law 1773 = .ok (.i2l, 1) := by decide +kernel
theorem dL_law_1774 : decode cL_law 1774 = .ok (.lcmp, 1) := by decide +kernel
theorem dL_law_1775 : decode cL_law 1775 = .ok (.ifCond .eq 5, 3) := by decide +kernel
theorem dL_law_1778 : decode cL_law 1778 = .ok (.iconst 0, 1) := by decide +kernel
theorem dL_law_1779 : decode cL_law 1779 = .ok (.ireturn, 1) := by decide +kernel
theorem dL_law_1780 : decode cL_law 1780 = .ok (.goto 562, 3) := by decide +kernel
theorem dL_law_1783 : decode cL_law 1783 = .ok (.aload_n 1, 1) := by decide +kernel
theorem dL_law_1784 : decode cL_law 1784 = .ok (.aload_n 0, 1) := by decide +kernel
theorem dL_law_1785 : decode cL_law 1785 = .ok (.iload 4, 2) := by decide +kernel
theorem dL_law_1787 : decode cL_law 1787 = .ok (.iconst 1, 1) := by decide +kernel
theorem dL_law_1788 : decode cL_law 1788 = .ok (.iadd, 1) := by decide +kernel
theorem dL_law_1789 : decode cL_law 1789 = .ok (.iaload, 1) := by decide +kernel
theorem dL_law_1790 : decode cL_law 1790 = .ok (.aload_n 3, 1) := by decide +kernel
theorem dL_law_1791 : decode cL_law 1791 = .ok (.invokestatic 215, 3) := by decide +kernel
theorem dL_law_1794 : decode cL_law 1794 = .ok (.istore 5, 2) := by decide +kernel
theorem dL_law_1796 : decode cL_law 1796 = .ok (.aload_n 2, 1) := by decide +kernel
theorem dL_law_1797 : decode cL_law 1797 = .ok (.aload_n 0, 1) := by decide +kernel
theorem dL_law_1798 : decode cL_law 1798 = .ok (.iload 4, 2) := by decide +kernel
theorem dL_law_1800 : decode cL_law 1800 = .ok (.iconst 1, 1) := by decide +kernel
theorem dL_law_1801 : decode cL_law 1801 = .ok (.iadd, 1) := by decide +kernel
theorem dL_law_1802 : decode cL_law 1802 = .ok (.iaload, 1) := by decide +kernel
theorem dL_law_1803 : decode cL_law 1803 = .ok (.invokevirtual 217, 3) := by decide +kernel
theorem dL_law_1806 : decode cL_law 1806 = .ok (.istore 6, 2) := by decide +kernel
theorem dL_law_1808 : decode cL_law 1808 = .ok (.aload_n 2, 1) := by decide +kernel
theorem dL_law_1809 : decode cL_law 1809 = .ok (.invokevirtual 128, 3) := by decide +kernel
theorem dL_law_1812 : decode cL_law 1812 = .ok (.iload 5, 2) := by decide +kernel
theorem dL_law_1814 : decode cL_law 1814 = .ok (.if_icmp .eq 5, 3) := by decide +kernel
theorem dL_law_1817 : decode cL_law 1817 = .ok (.iconst 0, 1) := by decide +kernel
theorem dL_law_1818 : decode cL_law 1818 = .ok (.ireturn, 1) := by decide +kernel
theorem dL_law_1819 : decode cL_law 1819 = .ok (.iload 5, 2) := by decide +kernel
theorem dL_law_1821 : decode cL_law 1821 = .ok (.ifCond .ne 16, 3) := by decide +kernel
theorem dL_law_1824 : decode cL_law 1824 = .ok (.aload_n 3, 1) := by decide +kernel
theorem dL_law_1825 : decode cL_law 1825 = .ok (.getfield 13, 3) := by decide +kernel
theorem dL_law_1828 : decode cL_law 1828 = .ok (.iload 6, 2) := by decide +kernel
theorem dL_law_1830 : decode cL_law 1830 = .ok (.i2l, 1) := by decide +kernel
theorem dL_law_1831 : decode cL_law 1831 = .ok (.lcmp, 1) := by decide +kernel
theorem dL_law_1832 : decode cL_law 1832 = .ok (.ifCond .eq 5, 3) := by decide +kernel
theorem dL_law_1835 : decode cL_law 1835 = .ok (.iconst 0, 1) := by decide +kernel
theorem dL_law_1836 : decode cL_law 1836 = .ok (.ireturn, 1) := by decide +kernel
theorem dL_law_1837 : decode cL_law 1837 = .ok (.goto 505, 3) := by decide +kernel
theorem dL_law_1840 : decode cL_law 1840 = .ok (.aload_n 1, 1) := by decide +kernel
theorem dL_law_1841 : decode cL_law 1841 = .ok (.aload_n 0, 1) := by decide +kernel
theorem dL_law_1842 : decode cL_law 1842 = .ok (.iload 4, 2) := by decide +kernel
theorem dL_law_1844 : decode cL_law 1844 = .ok (.iconst 1, 1) := by decide +kernel
theorem dL_law_1845 : decode cL_law 1845 = .ok (.iadd, 1) := by decide +kernel
theorem dL_law_1846 : decode cL_law 1846 = .ok (.iaload, 1) := by decide +kernel
theorem dL_law_1847 : decode cL_law 1847 = .ok (.aload_n 0, 1) := by decide +kernel
theorem dL_law_1848 : decode cL_law 1848 = .ok (.iload 4, 2) := by decide +kernel
theorem dL_law_1850 : decode cL_law 1850 = .ok (.iconst 2, 1) := by decide +kernel
theorem dL_law_1851 : decode cL_law 1851 = .ok (.iadd, 1) := by decide +kernel
theorem dL_law_1852 : decode cL_law 1852 = .ok (.iaload, 1) := by decide +kernel
theorem dL_law_1853 : decode cL_law 1853 = .ok (.aload_n 3, 1) := by decide +kernel
theorem dL_law_1854 : decode cL_law 1854 = .ok (.invokestatic 218, 3) := by decide +kernel
theorem dL_law_1857 : decode cL_law 1857 = .ok (.istore 5, 2) := by decide +kernel
theorem dL_law_1859 : decode cL_law 1859 = .ok (.aload_n 2, 1) := by decide +kernel
theorem dL_law_1860 : decode cL_law 1860 = .ok (.aload_n 0, 1) := by decide +kernel
theorem dL_law_1861 : decode cL_law 1861 = .ok (.iload 4, 2) := by decide +kernel
theorem dL_law_1863 : decode cL_law 1863 = .ok (.iconst 1, 1) := by decide +kernel
theorem dL_law_1864 : decode cL_law 1864 = .ok (.iadd, 1) := by decide +kernel
theorem dL_law_1865 : decode cL_law 1865 = .ok (.iaload, 1) := by decide +kernel
theorem dL_law_1866 : decode cL_law 1866 = .ok (.aload_n 0, 1) := by decide +kernel
theorem dL_law_1867 : decode cL_law 1867 = .ok (.iload 4, 2) := by decide +kernel
theorem dL_law_1869 : decode cL_law 1869 = .ok (.iconst 2, 1) := by decide +kernel
theorem dL_law_1870 : decode cL_law 1870 = .ok (.iadd, 1) := by decide +kernel
theorem dL_law_1871 : decode cL_law 1871 = .ok (.iaload, 1) := by decide +kernel
theorem dL_law_1872 : decode cL_law 1872 = .ok (.invokevirtual 220, 3) := by decide +kernel
theorem dL_law_1875 : decode cL_law 1875 = .ok (.astore 6, 2) := by decide +kernel
theorem dL_law_1877 : decode cL_law 1877 = .ok (.aload_n 2, 1) := by decide +kernel
theorem dL_law_1878 : decode cL_law 1878 = .ok (.invokevirtual 128, 3) := by decide +kernel
theorem dL_law_1881 : decode cL_law 1881 = .ok (.iload 5, 2) := by decide +kernel
theorem dL_law_1883 : decode cL_law 1883 = .ok (.if_icmp .eq 5, 3) := by decide +kernel
theorem dL_law_1886 : decode cL_law 1886 = .ok (.iconst 0, 1) := by decide +kernel
theorem dL_law_1887 : decode cL_law 1887 = .ok (.ireturn, 1) := by decide +kernel
theorem dL_law_1888 : decode cL_law 1888 = .ok (.iload 5, 2) := by decide +kernel
theorem dL_law_1890 : decode cL_law 1890 = .ok (.ifCond .ne 17, 3) := by decide +kernel
theorem dL_law_1893 : decode cL_law 1893 = .ok (.aload_n 3, 1) := by decide +kernel
theorem dL_law_1894 : decode cL_law 1894 = .ok (.getfield 47, 3) := by decide +kernel
theorem dL_law_1897 : decode cL_law 1897 = .ok (.aload 6, 2) := by decide +kernel
theorem dL_law_1899 : decode cL_law 1899 = .ok (.invokevirtual 153, 3) := by decide +kernel
theorem dL_law_1902 : decode cL_law 1902 = .ok (.ifCond .ne 5, 3) := by decide +kernel
theorem dL_law_1905 : decode cL_law 1905 = .ok (.iconst 0, 1) := by decide +kernel
theorem dL_law_1906 : decode cL_law 1906 = .ok (.ireturn, 1) := by decide +kernel
theorem dL_law_1907 : decode cL_law 1907 = .ok (.goto 435, 3) := by decide +kernel
theorem dL_law_1910 : decode cL_law 1910 = .ok (.aload_n 1, 1) := by decide +kernel
theorem dL_law_1911 : decode cL_law 1911 = .ok (.aload_n 0, 1) := by decide +kernel
theorem dL_law_1912 : decode cL_law 1912 = .ok (.iload 4, 2) := by decide +kernel
theorem dL_law_1914 : decode cL_law 1914 = .ok (.iconst 1, 1) := by decide +kernel
theorem dL_law_1915 : decode cL_law 1915 = .ok (.iadd, 1) := by decide +kernel
theorem dL_law_1916 : decode cL_law 1916 = .ok (.iaload, 1) := by decide +kernel
theorem dL_law_1917 : decode cL_law 1917 = .ok (.aload_n 3, 1) := by decide +kernel
theorem dL_law_1918 : decode cL_law 1918 = .ok (.invokestatic 221, 3) := by decide +kernel
theorem dL_law_1921 : decode cL_law 1921 = .ok (.istore 5, 2) := by decide +kernel
theorem dL_law_1923 : decode cL_law 1923 = .ok (.aload_n 2, 1) := by decide +kernel
theorem dL_law_1924 : decode cL_law 1924 = .ok (.aload_n 0, 1) := by decide +kernel
theorem dL_law_1925 : decode cL_law 1925 = .ok (.iload 4, 2) := by decide +kernel
theorem dL_law_1927 : decode cL_law 1927 = .ok (.iconst 1, 1) := by decide +kernel
theorem dL_law_1928 : decode cL_law 1928 = .ok (.iadd, 1) := by decide +kernel
theorem dL_law_1929 : decode cL_law 1929 = .ok (.iaload, 1) := by decide +kernel
theorem dL_law_1930 : decode cL_law 1930 = .ok (.invokevirtual 223, 3) := by decide +kernel
theorem dL_law_1933 : decode cL_law 1933 = .ok (.istore 6, 2) := by decide +kernel
theorem dL_law_1935 : decode cL_law 1935 = .ok (.aload_n 2, 1) := by decide +kernel
theorem dL_law_1936 : decode cL_law 1936 = .ok (.invokevirtual 128, 3) := by decide +kernel
theorem dL_law_1939 : decode cL_law 1939 = .ok (.iload 5, 2) := by decide +kernel
theorem dL_law_1941 : decode cL_law 1941 = .ok (.if_icmp .eq 5, 3) := by decide +kernel
theorem dL_law_1944 : decode cL_law 1944 = .ok (.iconst 0, 1) := by decide +kernel
theorem dL_law_1945 : decode cL_law 1945 = .ok (.ireturn, 1) := by decide +kernel
theorem dL_law_1946 : decode cL_law 1946 = .ok (.iload 5, 2) := by decide +kernel
theorem dL_law_1948 : decode cL_law 1948 = .ok (.ifCond .ne 23, 3) := by decide +kernel
theorem dL_law_1951 : decode cL_law 1951 = .ok (.aload_n 3, 1) := by decide +kernel
theorem dL_law_1952 : decode cL_law 1952 = .ok (.getfield 13, 3) := by decide +kernel
theorem dL_law_1955 : decode cL_law 1955 = .ok (.iload 6, 2) := by decide +kernel
theorem dL_law_1957 : decode cL_law 1957 = .ok (.ifCond .eq 7, 3) := by decide +kernel
theorem dL_law_1960 : decode cL_law 1960 = .ok (.lconst 1, 1) := by decide +kernel
theorem dL_law_1961 : decode cL_law 1961 = .ok (.goto 4, 3) := by decide +kernel
theorem dL_law_1964 : decode cL_law 1964 = .ok (.lconst 0, 1) := by decide +kernel
theorem dL_law_1965 : decode cL_law 1965 = .ok (.lcmp, 1) := by decide +kernel
theorem dL_law_1966 : decode cL_law 1966 = .ok (.ifCond .eq 5, 3) := by decide +kernel
theorem dL_law_1969 : decode cL_law 1969 = .ok (.iconst 0, 1) := by decide +kernel
theorem dL_law_1970 : decode cL_law 1970 = .ok (.ireturn, 1) := by decide +kernel
theorem dL_law_1971 : decode cL_law 1971 = .ok (.goto 371, 3) := by decide +kernel
theorem dL_law_1974 : decode cL_law 1974 = .ok (.aload_n 1, 1) := by decide +kernel
theorem dL_law_1975 : decode cL_law 1975 = .ok (.aload_n 0, 1) := by decide +kernel
theorem dL_law_1976 : decode cL_law 1976 = .ok (.iload 4, 2) := by decide +kernel
theorem dL_law_1978 : decode cL_law 1978 = .ok (.iconst 1, 1) := by decide +kernel
theorem dL_law_1979 : decode cL_law 1979 = .ok (.iadd, 1) := by decide +kernel
theorem dL_law_1980 : decode cL_law 1980 = .ok (.iaload, 1) := by decide +kernel
theorem dL_law_1981 : decode cL_law 1981 = .ok (.aload_n 3, 1) := by decide +kernel
theorem dL_law_1982 : decode cL_law 1982 = .ok (.invokestatic 224, 3) := by decide +kernel
theorem dL_law_1985 : decode cL_law 1985 = .ok (.istore 5, 2) := by decide +kernel
theorem dL_law_1987 : decode cL_law 1987 = .ok (.aload_n 2, 1) := by decide +kernel
theorem dL_law_1988 : decode cL_law 1988 = .ok (.aload_n 0, 1) := by decide +kernel
theorem dL_law_1989 : decode cL_law 1989 = .ok (.iload 4, 2) := by decide +kernel
theorem dL_law_1991 : decode cL_law 1991 = .ok (.iconst 1, 1) := by decide +kernel
theorem dL_law_1992 : decode cL_law 1992 = .ok (.iadd, 1) := by decide +kernel
theorem dL_law_1993 : decode cL_law 1993 = .ok (.iaload, 1) := by decide +kernel
theorem dL_law_1994 : decode cL_law 1994 = .ok (.invokevirtual 226, 3) := by decide +kernel
theorem dL_law_1997 : decode cL_law 1997 = .ok (.astore 6, 2) := by decide +kernel
theorem dL_law_1999 : decode cL_law 1999 = .ok (.aload_n 2, 1) := by decide +kernel
theorem dL_law_2000 : decode cL_law 2000 = .ok (.invokevirtual 128, 3) := by decide +kernel
theorem dL_law_2003 : decode cL_law 2003 = .ok (.iload 5, 2) := by decide +kernel
theorem dL_law_2005 : decode cL_law 2005 = .ok (.if_icmp .eq 5, 3) := by decide +kernel
theorem dL_law_2008 : decode cL_law 2008 = .ok (.iconst 0, 1) := by decide +kernel
theorem dL_law_2009 : decode cL_law 2009 = .ok (.ireturn, 1) := by decide +kernel
theorem dL_law_2010 : decode cL_law 2010 = .ok (.iload 5, 2) := by decide +kernel
theorem dL_law_2012 : decode cL_law 2012 = .ok (.ifCond .ne 17, 3) := by decide +kernel
theorem dL_law_2015 : decode cL_law 2015 = .ok (.aload_n 3, 1) := by decide +kernel
theorem dL_law_2016 : decode cL_law 2016 = .ok (.getfield 47, 3) := by decide +kernel
theorem dL_law_2019 : decode cL_law 2019 = .ok (.aload 6, 2) := by decide +kernel
theorem dL_law_2021 : decode cL_law 2021 = .ok (.invokevirtual 153, 3) := by decide +kernel
theorem dL_law_2024 : decode cL_law 2024 = .ok (.ifCond .ne 5, 3) := by decide +kernel
theorem dL_law_2027 : decode cL_law 2027 = .ok (.iconst 0, 1) := by decide +kernel
theorem dL_law_2028 : decode cL_law 2028 = .ok (.ireturn, 1) := by decide +kernel
theorem dL_law_2029 : decode cL_law 2029 = .ok (.goto 313, 3) := by decide +kernel
theorem dL_law_2032 : decode cL_law 2032 = .ok (.aload_n 1, 1) := by decide +kernel
theorem dL_law_2033 : decode cL_law 2033 = .ok (.aload_n 0, 1) := by decide +kernel
theorem dL_law_2034 : decode cL_law 2034 = .ok (.iload 4, 2) := by decide +kernel
theorem dL_law_2036 : decode cL_law 2036 = .ok (.iconst 1, 1) := by decide +kernel
theorem dL_law_2037 : decode cL_law 2037 = .ok (.iadd, 1) := by decide +kernel
theorem dL_law_2038 : decode cL_law 2038 = .ok (.iaload, 1) := by decide +kernel
theorem dL_law_2039 : decode cL_law 2039 = .ok (.aload_n 0, 1) := by decide +kernel
theorem dL_law_2040 : decode cL_law 2040 = .ok (.iload 4, 2) := by decide +kernel
theorem dL_law_2042 : decode cL_law 2042 = .ok (.iconst 2, 1) := by decide +kernel
theorem dL_law_2043 : decode cL_law 2043 = .ok (.iadd, 1) := by decide +kernel
theorem dL_law_2044 : decode cL_law 2044 = .ok (.iaload, 1) := by decide +kernel
theorem dL_law_2045 : decode cL_law 2045 = .ok (.aload_n 3, 1) := by decide +kernel
theorem dL_law_2046 : decode cL_law 2046 = .ok (.invokestatic 227, 3) := by decide +kernel
theorem dL_law_2049 : decode cL_law 2049 = .ok (.istore 5, 2) := by decide +kernel
theorem dL_law_2051 : decode cL_law 2051 = .ok (.aload_n 2, 1) := by decide +kernel
theorem dL_law_2052 : decode cL_law 2052 = .ok (.aload_n 0, 1) := by decide +kernel
theorem dL_law_2053 : decode cL_law 2053 = .ok (.iload 4, 2) := by decide +kernel
theorem dL_law_2055 : decode cL_law 2055 = .ok (.iconst 1, 1) := by decide +kernel
theorem dL_law_2056 : decode cL_law 2056 = .ok (.iadd, 1) := by decide +kernel
theorem dL_law_2057 : decode cL_law 2057 = .ok (.iaload, 1) := by decide +kernel
theorem dL_law_2058 : decode cL_law 2058 = .ok (.aload_n 0, 1) := by decide +kernel
theorem dL_law_2059 : decode cL_law 2059 = .ok (.iload 4, 2) := by decide +kernel
theorem dL_law_2061 : decode cL_law 2061 = .ok (.iconst 2, 1) := by decide +kernel
theorem dL_law_2062 : decode cL_law 2062 = .ok (.iadd, 1) := by decide +kernel
theorem dL_law_2063 : decode cL_law 2063 = .ok (.iaload, 1) := by decide +kernel
theorem dL_law_2064 : decode cL_law 2064 = .ok (.invokevirtual 229, 3) := by decide +kernel
theorem dL_law_2067 : decode cL_law 2067 = .ok (.istore 6, 2) := by decide +kernel
theorem dL_law_2069 : decode cL_law 2069 = .ok (.aload_n 2, 1) := by decide +kernel
theorem dL_law_2070 : decode cL_law 2070 = .ok (.invokevirtual 128, 3) := by decide +kernel
theorem dL_law_2073 : decode cL_law 2073 = .ok (.iload 5, 2) := by decide +kernel
theorem dL_law_2075 : decode cL_law 2075 = .ok (.if_icmp .eq 5, 3) := by decide +kernel
theorem dL_law_2078 : decode cL_law 2078 = .ok (.iconst 0, 1) := by decide +kernel
theorem dL_law_2079 : decode cL_law 2079 = .ok (.ireturn, 1) := by decide +kernel
theorem dL_law_2080 : decode cL_law 2080 = .ok (.iload 5, 2) := by decide +kernel
theorem dL_law_2082 : decode cL_law 2082 = .ok (.ifCond .ne 16, 3) := by decide +kernel
theorem dL_law_2085 : decode cL_law 2085 = .ok (.aload_n 3, 1) := by decide +kernel
theorem dL_law_2086 : decode cL_law 2086 = .ok (.getfield 13, 3) := by decide +kernel
theorem dL_law_2089 : decode cL_law 2089 = .ok (.iload 6, 2) := by decide +kernel
theorem dL_law_2091 : decode cL_law 2091 = .ok (.i2l, 1) := by decide +kernel
theorem dL_law_2092 : decode cL_law 2092 = .ok (.lcmp, 1) := by decide +kernel
theorem dL_law_2093 : decode cL_law 2093 = .ok (.ifCond .eq 5, 3) := by decide +kernel
theorem dL_law_2096 : decode cL_law 2096 = .ok (.iconst 0, 1) := by decide +kernel
theorem dL_law_2097 : decode cL_law 2097 = .ok (.ireturn, 1) := by decide +kernel
theorem dL_law_2098 : decode cL_law 2098 = .ok (.goto 244, 3) := by decide +kernel
theorem dL_law_2101 : decode cL_law 2101 = .ok (.aload_n 1, 1) := by decide +kernel
theorem dL_law_2102 : decode cL_law 2102 = .ok (.invokevirtual 230, 3) := by decide +kernel
theorem dL_law_2105 : decode cL_law 2105 = .ok (.aload_n 2, 1) := by decide +kernel
theorem dL_law_2106 : decode cL_law 2106 = .ok (.invokevirtual 233, 3) := by decide +kernel
theorem dL_law_2109 : decode cL_law 2109 = .ok (.if_icmp .eq 233, 3) := by decide +kernel
theorem dL_law_2112 : decode cL_law 2112 = .ok (.iconst 0, 1) := by decide +kernel
theorem dL_law_2113 : decode cL_law 2113 = .ok (.ireturn, 1) := by decide +kernel
theorem dL_law_2114 : decode cL_law 2114 = .ok (.aload_n 1, 1) := by decide +kernel
theorem dL_law_2115 : decode cL_law 2115 = .ok (.aload_n 0, 1) := by decide +kernel
theorem dL_law_2116 : decode cL_law 2116 = .ok (.iload 4, 2) := by decide +kernel
theorem dL_law_2118 : decode cL_law 2118 = .ok (.iconst 1, 1) := by decide +kernel
theorem dL_law_2119 : decode cL_law 2119 = .ok (.iadd, 1) := by decide +kernel
theorem dL_law_2120 : decode cL_law 2120 = .ok (.iaload, 1) := by decide +kernel
theorem dL_law_2121 : decode cL_law 2121 = .ok (.invokevirtual 234, 3) := by decide +kernel
theorem dL_law_2124 : decode cL_law 2124 = .ok (.aload_n 2, 1) := by decide +kernel
theorem dL_law_2125 : decode cL_law 2125 = .ok (.aload_n 0, 1) := by decide +kernel
theorem dL_law_2126 : decode cL_law 2126 = .ok (.iload 4, 2) := by decide +kernel
theorem dL_law_2128 : decode cL_law 2128 = .ok (.iconst 1, 1) := by decide +kernel
theorem dL_law_2129 : decode cL_law 2129 = .ok (.iadd, 1) := by decide +kernel
theorem dL_law_2130 : decode cL_law 2130 = .ok (.iaload, 1) := by decide +kernel
theorem dL_law_2131 : decode cL_law 2131 = .ok (.invokevirtual 237, 3) := by decide +kernel
theorem dL_law_2134 : decode cL_law 2134 = .ok (.invokevirtual 153, 3) := by decide +kernel
theorem dL_law_2137 : decode cL_law 2137 = .ok (.ifCond .ne 205, 3) := by decide +kernel
theorem dL_law_2140 : decode cL_law 2140 = .ok (.iconst 0, 1) := by decide +kernel
theorem dL_law_2141 : decode cL_law 2141 = .ok (.ireturn, 1) := by decide +kernel
theorem dL_law_2142 : decode cL_law 2142 = .ok (.aload_n 1, 1) := by decide +kernel
theorem dL_law_2143 : decode cL_law 2143 = .ok (.aload_n 0, 1) := by decide +kernel
theorem dL_law_2144 : decode cL_law 2144 = .ok (.iload 4, 2) := by decide +kernel
theorem dL_law_2146 : decode cL_law 2146 = .ok (.iconst 1, 1) := by decide +kernel
theorem dL_law_2147 : decode cL_law 2147 = .ok (.iadd, 1) := by decide +kernel
theorem dL_law_2148 : decode cL_law 2148 = .ok (.iaload, 1) := by decide +kernel
theorem dL_law_2149 : decode cL_law 2149 = .ok (.aload_n 3, 1) := by decide +kernel
theorem dL_law_2150 : decode cL_law 2150 = .ok (.invokestatic 238, 3) := by decide +kernel
theorem dL_law_2153 : decode cL_law 2153 = .ok (.istore 5, 2) := by decide +kernel
theorem dL_law_2155 : decode cL_law 2155 = .ok (.aload_n 2, 1) := by decide +kernel
theorem dL_law_2156 : decode cL_law 2156 = .ok (.aload_n 0, 1) := by decide +kernel
theorem dL_law_2157 : decode cL_law 2157 = .ok (.iload 4, 2) := by decide +kernel
theorem dL_law_2159 : decode cL_law 2159 = .ok (.iconst 1, 1) := by decide +kernel
theorem dL_law_2160 : decode cL_law 2160 = .ok (.iadd, 1) := by decide +kernel
theorem dL_law_2161 : decode cL_law 2161 = .ok (.iaload, 1) := by decide +kernel
theorem dL_law_2162 : decode cL_law 2162 = .ok (.invokevirtual 240, 3) := by decide +kernel
theorem dL_law_2165 : decode cL_law 2165 = .ok (.istore 6, 2) := by decide +kernel
theorem dL_law_2167 : decode cL_law 2167 = .ok (.aload_n 2, 1) := by decide +kernel
theorem dL_law_2168 : decode cL_law 2168 = .ok (.invokevirtual 128, 3) := by decide +kernel
theorem dL_law_2171 : decode cL_law 2171 = .ok (.iload 5, 2) := by decide +kernel
theorem dL_law_2173 : decode cL_law 2173 = .ok (.if_icmp .eq 5, 3) := by decide +kernel
theorem dL_law_2176 : decode cL_law 2176 = .ok (.iconst 0, 1) := by decide +kernel
theorem dL_law_2177 : decode cL_law 2177 = .ok (.ireturn, 1) := by decide +kernel
theorem dL_law_2178 : decode cL_law 2178 = .ok (.iload 5, 2) := by decide +kernel
theorem dL_law_2180 : decode cL_law 2180 = .ok (.ifCond .ne 23, 3) := by decide +kernel
theorem dL_law_2183 : decode cL_law 2183 = .ok (.aload_n 3, 1) := by decide +kernel
theorem dL_law_2184 : decode cL_law 2184 = .ok (.getfield 13, 3) := by decide +kernel
theorem dL_law_2187 : decode cL_law 2187 = .ok (.iload 6, 2) := by decide +kernel
theorem dL_law_2189 : decode cL_law 2189 = .ok (.ifCond .eq 7, 3) := by decide +kernel
theorem dL_law_2192 : decode cL_law 2192 = .ok (.lconst 1, 1) := by decide +kernel
theorem dL_law_2193 : decode cL_law 2193 = .ok (.goto 4, 3) := by decide +kernel
theorem dL_law_2196 : decode cL_law 2196 = .ok (.lconst 0, 1) := by decide +kernel
theorem dL_law_2197 : decode cL_law 2197 = .ok (.lcmp, 1) := by decide +kernel
theorem dL_law_2198 : decode cL_law 2198 = .ok (.ifCond .eq 5, 3) := by decide +kernel
theorem dL_law_2201 : decode cL_law 2201 = .ok (.iconst 0, 1) := by decide +kernel
theorem dL_law_2202 : decode cL_law 2202 = .ok (.ireturn, 1) := by decide +kernel
theorem dL_law_2203 : decode cL_law 2203 = .ok (.goto 139, 3) := by decide +kernel
theorem dL_law_2206 : decode cL_law 2206 = .ok (.aload_n 1, 1) := by decide +kernel
theorem dL_law_2207 : decode cL_law 2207 = .ok (.invokevirtual 241, 3) := by decide +kernel
theorem dL_law_2210 : decode cL_law 2210 = .ok (.aload_n 2, 1) := by decide +kernel
theorem dL_law_2211 : decode cL_law 2211 = .ok (.invokevirtual 244, 3) := by decide +kernel
theorem dL_law_2214 : decode cL_law 2214 = .ok (.if_icmp .eq 128, 3) := by decide +kernel
theorem dL_law_2217 : decode cL_law 2217 = .ok (.iconst 0, 1) := by decide +kernel
theorem dL_law_2218 : decode cL_law 2218 = .ok (.ireturn, 1) := by decide +kernel
theorem dL_law_2219 : decode cL_law 2219 = .ok (.aload_n 1, 1) := by decide +kernel
theorem dL_law_2220 : decode cL_law 2220 = .ok (.invokevirtual 245, 3) := by decide +kernel
theorem dL_law_2223 : decode cL_law 2223 = .ok (.aload_n 2, 1) := by decide +kernel
theorem dL_law_2224 : decode cL_law 2224 = .ok (.invokevirtual 248, 3) := by decide +kernel
theorem dL_law_2227 : decode cL_law 2227 = .ok (.if_icmp .eq 115, 3) := by decide +kernel
theorem dL_law_2230 : decode cL_law 2230 = .ok (.iconst 0, 1) := by decide +kernel
theorem dL_law_2231 : decode cL_law 2231 = .ok (.ireturn, 1) := by decide +kernel
theorem dL_law_2232 : decode cL_law 2232 = .ok (.aload_n 1, 1) := by decide +kernel
theorem dL_law_2233 : decode cL_law 2233 = .ok (.invokevirtual 249, 3) := by decide +kernel
theorem dL_law_2236 : decode cL_law 2236 = .ok (.aload_n 2, 1) := by decide +kernel
theorem dL_law_2237 : decode cL_law 2237 = .ok (.invokevirtual 252, 3) := by decide +kernel
theorem dL_law_2240 : decode cL_law 2240 = .ok (.if_icmp .eq 102, 3) := by decide +kernel
theorem dL_law_2243 : decode cL_law 2243 = .ok (.iconst 0, 1) := by decide +kernel
theorem dL_law_2244 : decode cL_law 2244 = .ok (.ireturn, 1) := by decide +kernel
theorem dL_law_2245 : decode cL_law 2245 = .ok (.aload_n 1, 1) := by decide +kernel
theorem dL_law_2246 : decode cL_law 2246 = .ok (.aload_n 0, 1) := by decide +kernel
theorem dL_law_2247 : decode cL_law 2247 = .ok (.iload 4, 2) := by decide +kernel
theorem dL_law_2249 : decode cL_law 2249 = .ok (.iconst 1, 1) := by decide +kernel
theorem dL_law_2250 : decode cL_law 2250 = .ok (.iadd, 1) := by decide +kernel
theorem dL_law_2251 : decode cL_law 2251 = .ok (.iaload, 1) := by decide +kernel
theorem dL_law_2252 : decode cL_law 2252 = .ok (.aload_n 3, 1) := by decide +kernel
theorem dL_law_2253 : decode cL_law 2253 = .ok (.invokestatic 253, 3) := by decide +kernel
theorem dL_law_2256 : decode cL_law 2256 = .ok (.istore 5, 2) := by decide +kernel
theorem dL_law_2258 : decode cL_law 2258 = .ok (.aload_n 2, 1) := by decide +kernel
theorem dL_law_2259 : decode cL_law 2259 = .ok (.aload_n 0, 1) := by decide +kernel
theorem dL_law_2260 : decode cL_law 2260 = .ok (.iload 4, 2) := by decide +kernel
theorem dL_law_2262 : decode cL_law 2262 = .ok (.iconst 1, 1) := by decide +kernel
theorem dL_law_2263 : decode cL_law 2263 = .ok (.iadd, 1) := by decide +kernel
theorem dL_law_2264 : decode cL_law 2264 = .ok (.iaload, 1) := by decide +kernel
theorem dL_law_2265 : decode cL_law 2265 = .ok (.invokevirtual 255, 3) := by decide +kernel
theorem dL_law_2268 : decode cL_law 2268 = .ok (.istore 6, 2) := by decide +kernel
theorem dL_law_2270 : decode cL_law 2270 = .ok (.aload_n 2, 1) := by decide +kernel
theorem dL_law_2271 : decode cL_law 2271 = .ok (.invokevirtual 128, 3) := by decide +kernel
theorem dL_law_2274 : decode cL_law 2274 = .ok (.iload 5, 2) := by decide +kernel
theorem dL_law_2276 : decode cL_law 2276 = .ok (.if_icmp .eq 5, 3) := by decide +kernel
theorem dL_law_2279 : decode cL_law 2279 = .ok (.iconst 0, 1) := by decide +kernel
theorem dL_law_2280 : decode cL_law 2280 = .ok (.ireturn, 1) := by decide +kernel
theorem dL_law_2281 : decode cL_law 2281 = .ok (.iload 5, 2) := by decide +kernel
theorem dL_law_2283 : decode cL_law 2283 = .ok (.ifCond .ne 16, 3) := by decide +kernel
theorem dL_law_2286 : decode cL_law 2286 = .ok (.aload_n 3, 1) := by decide +kernel
theorem dL_law_2287 : decode cL_law 2287 = .ok (.getfield 13, 3) := by decide +kernel
theorem dL_law_2290 : decode cL_law 2290 = .ok (.iload 6, 2) := by decide +kernel
theorem dL_law_2292 : decode cL_law 2292 = .ok (.i2l, 1) := by decide +kernel
theorem dL_law_2293 : decode cL_law 2293 = .ok (.lcmp, 1) := by decide +kernel
theorem dL_law_2294 : decode cL_law 2294 = .ok (.ifCond .eq 5, 3) := by decide +kernel
theorem dL_law_2297 : decode cL_law 2297 = .ok (.iconst 0, 1) := by decide +kernel
theorem dL_law_2298 : decode cL_law 2298 = .ok (.ireturn, 1) := by decide +kernel
theorem dL_law_2299 : decode cL_law 2299 = .ok (.goto 43, 3) := by decide +kernel
theorem dL_law_2302 : decode cL_law 2302 = .ok (.aload_n 1, 1) := by decide +kernel
theorem dL_law_2303 : decode cL_law 2303 = .ok (.invokevirtual 256, 3) := by decide +kernel
theorem dL_law_2306 : decode cL_law 2306 = .ok (.aload_n 2, 1) := by decide +kernel
theorem dL_law_2307 : decode cL_law 2307 = .ok (.invokevirtual 259, 3) := by decide +kernel
theorem dL_law_2310 : decode cL_law 2310 = .ok (.if_icmp .eq 32, 3) := by decide +kernel
theorem dL_law_2313 : decode cL_law 2313 = .ok (.iconst 0, 1) := by decide +kernel
theorem dL_law_2314 : decode cL_law 2314 = .ok (.ireturn, 1) := by decide +kernel
theorem dL_law_2315 : decode cL_law 2315 = .ok (.aload_n 1, 1) := by decide +kernel
theorem dL_law_2316 : decode cL_law 2316 = .ok (.invokevirtual 260, 3) := by decide +kernel
theorem dL_law_2319 : decode cL_law 2319 = .ok (.aload_n 2, 1) := by decide +kernel
theorem dL_law_2320 : decode cL_law 2320 = .ok (.invokevirtual 263, 3) := by decide +kernel
theorem dL_law_2323 : decode cL_law 2323 = .ok (.if_icmp .eq 19, 3) := by decide +kernel
theorem dL_law_2326 : decode cL_law 2326 = .ok (.iconst 0, 1) := by decide +kernel
theorem dL_law_2327 : decode cL_law 2327 = .ok (.ireturn, 1) := by decide +kernel
theorem dL_law_2328 : decode cL_law 2328 = .ok (.aload_n 1, 1) := by decide +kernel
theorem dL_law_2329 : decode cL_law 2329 = .ok (.invokevirtual 264, 3) := by decide +kernel
theorem dL_law_2332 : decode cL_law 2332 = .ok (.aload_n 2, 1) := by decide +kernel
theorem dL_law_2333 : decode cL_law 2333 = .ok (.invokevirtual 268, 3) := by decide +kernel
theorem dL_law_2336 : decode cL_law 2336 = .ok (.lcmp, 1) := by decide +kernel
theorem dL_law_2337 : decode cL_law 2337 = .ok (.ifCond .eq 5, 3) := by decide +kernel
theorem dL_law_2340 : decode cL_law 2340 = .ok (.iconst 0, 1) := by decide +kernel
theorem dL_law_2341 : decode cL_law 2341 = .ok (.ireturn, 1) := by decide +kernel
theorem dL_law_2342 : decode cL_law 2342 = .ok (.iinc 4 7, 3) := by decide +kernel
theorem dL_law_2345 : decode cL_law 2345 = .ok (.goto (-2318), 3) := by decide +kernel
theorem dL_law_2348 : decode cL_law 2348 = .ok (.iconst 1, 1) := by decide +kernel
theorem dL_law_2349 : decode cL_law 2349 = .ok (.ireturn, 1) := by decide +kernel
abbrev vwCl : List vw_C := [(RJ0, TJ0, 4), (RJ4, TJ4, 4), (RJ6, TJ6, 1), (RJx4a65c, TJx4a65c, 3), (RX0, TX0, 8), (RX1, TX1, 8), (RX2, TX2, 2), (RX3, TX3, 9), (RX4, TX4, 2), (RX5, TX5, 7)]
