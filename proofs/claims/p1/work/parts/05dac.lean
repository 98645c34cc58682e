theorem dX3_digest_15 : decode cX3_digest 15 = .ok (.getfield 46, 3) := by decide +kernel
theorem dX3_digest_18 : decode cX3_digest 18 = .ok (.invokestatic 267, 3) := by decide +kernel
theorem dX3_digest_21 : decode cX3_digest 21 = .ok (.lstore_n 1, 1) := by decide +kernel
theorem dX3_digest_22 : decode cX3_digest 22 = .ok (.lload_n 1, 1) := by decide +kernel
theorem dX3_digest_23 : decode cX3_digest 23 = .ok (.aload_n 0, 1) := by decide +kernel
theorem dX3_digest_24 : decode cX3_digest 24 = .ok (.invokevirtual 247, 3) := by decide +kernel
theorem dX3_digest_27 : decode cX3_digest 27 = .ok (.invokestatic 267, 3) := by decide +kernel
theorem dX3_digest_30 : decode cX3_digest 30 = .ok (.lstore_n 1, 1) := by decide +kernel
theorem dX3_digest_31 : decode cX3_digest 31 = .ok (.lload_n 1, 1) := by decide +kernel
theorem dX3_digest_32 : decode cX3_digest 32 = .ok (.aload_n 0, 1) := by decide +kernel
theorem dX3_digest_33 : decode cX3_digest 33 = .ok (.getfield 49, 3) := by decide +kernel
theorem dX3_digest_36 : decode cX3_digest 36 = .ok (.invokestatic 267, 3) := by decide +kernel
theorem dX3_digest_39 : decode cX3_digest 39 = .ok (.lstore_n 1, 1) := by decide +kernel
theorem dX3_digest_40 : decode cX3_digest 40 = .ok (.iconst 0, 1) := by decide +kernel
theorem dX3_digest_41 : decode cX3_digest 41 = .ok (.istore_n 3, 1) := by decide +kernel
theorem dX3_digest_42 : decode cX3_digest 42 = .ok (.iload_n 3, 1) := by decide +kernel
theorem dX3_digest_43 : decode cX3_digest 43 = .ok (.iconst 4, 1) := by decide +kernel
theorem dX3_digest_44 : decode cX3_digest 44 = .ok (.if_icmp .ge 71, 3) := by decide +kernel
theorem dX3_digest_47 : decode cX3_digest 47 = .ok (.aload_n 0, 1) := by decide +kernel
theorem dX3_digest_48 : decode cX3_digest 48 = .ok (.getfield 11, 3) := by decide +kernel
theorem dX3_digest_51 : decode cX3_digest 51 = .ok (.iload_n 3, 1) := by decide +kernel
theorem dX3_digest_52 : decode cX3_digest 52 = .ok (.aaload, 1) := by decide +kernel
theorem dX3_digest_53 : decode cX3_digest 53 = .ok (.lload_n 1, 1) := by decide +kernel
theorem dX3_digest_54 : decode cX3_digest 54 = .ok (.invokevirtual 271, 3) := by decide +kernel
theorem dX3_digest_57 : decode cX3_digest 57 = .ok (.lstore_n 1, 1) := by decide +kernel
theorem dX3_digest_58 : decode cX3_digest 58 = .ok (.lload_n 1, 1) := by decide +kernel
theorem dX3_digest_59 : decode cX3_digest 59 = .ok (.aload_n 0, 1) := by decide +kernel
theorem dX3_digest_60 : decode cX3_digest 60 = .ok (.getfield 18, 3) := by decide +kernel
theorem dX3_digest_63 : decode cX3_digest 63 = .ok (.aload_n 0, 1) := by decide +kernel
theorem dX3_digest_64 : decode cX3_digest 64 = .ok (.getfield 11, 3) := by decide +kernel
theorem dX3_digest_67 : decode cX3_digest 67 = .ok (.iload_n 3, 1) := by decide +kernel
theorem dX3_digest_68 : decode cX3_digest 68 = .ok (.aaload, 1) := by decide +kernel
theorem dX3_digest_69 : decode cX3_digest 69 = .ok (.invokevirtual 192, 3) := by decide +kernel
theorem dX3_digest_72 : decode cX3_digest 72 = .ok (.invokestatic 267, 3) := by decide +kernel
theorem dX3_digest_75 : decode cX3_digest 75 = .ok (.lstore_n 1, 1) := by decide +kernel
theorem dX3_digest_76 : decode cX3_digest 76 = .ok (.aload_n 0, 1) := by decide +kernel
theorem dX3_digest_77 : decode cX3_digest 77 = .ok (.getfield 32, 3) := by decide +kernel
theorem dX3_digest_80 : decode cX3_digest 80 = .ok (.aload_n 0, 1) := by decide +kernel
theorem dX3_digest_81 : decode cX3_digest 81 = .ok (.getfield 11, 3) := by decide +kernel
theorem dX3_digest_84 : decode cX3_digest 84 = .ok (.iload_n 3, 1) := by decide +kernel
theorem dX3_digest_85 : decode cX3_digest 85 = .ok (.aaload, 1) := by decide +kernel
theorem dX3_digest_86 : decode cX3_digest 86 = .ok (.invokevirtual 79, 3) := by decide +kernel
theorem dX3_digest_89 : decode cX3_digest 89 = .ok (.aload_n 0, 1) := by decide +kernel
theorem dX3_digest_90 : decode cX3_digest 90 = .ok (.getfield 18, 3) := by decide +kernel
theorem dX3_digest_93 : decode cX3_digest 93 = .ok (.aload_n 0, 1) := by decide +kernel
theorem dX3_digest_94 : decode cX3_digest 94 = .ok (.getfield 32, 3) := by decide +kernel
theorem dX3_digest_97 : decode cX3_digest 97 = .ok (.invokevirtual 210, 3) := by decide +kernel
theorem dX3_digest_100 : decode cX3_digest 100 = .ok (.aload_n 0, 1) := by decide +kernel
theorem dX3_digest_101 : decode cX3_digest 101 = .ok (.getfield 32, 3) := by decide +kernel
theorem dX3_digest_104 : decode cX3_digest 104 = .ok (.lload_n 1, 1) := by decide +kernel
theorem dX3_digest_105 : decode cX3_digest 105 = .ok (.invokevirtual 271, 3) := by decide +kernel
theorem dX3_digest_108 : decode cX3_digest 108 = .ok (.lstore_n 1, 1) := by decide +kernel
theorem dX3_digest_109 : decode cX3_digest 109 = .ok (.iinc 3 1, 3) := by decide +kernel
theorem dX3_digest_112 : decode cX3_digest 112 = .ok (.goto (-70), 3) := by decide +kernel
theorem dX3_digest_115 : decode cX3_digest 115 = .ok (.iconst 0, 1) := by decide +kernel
theorem dX3_digest_116 : decode cX3_digest 116 = .ok (.istore_n 3, 1) := by decide +kernel
theorem dX3_digest_117 : decode cX3_digest 117 = .ok (.iload_n 3, 1) := by decide +kernel
theorem dX3_digest_118 : decode cX3_digest 118 = .ok (.aload_n 0, 1) := by decide +kernel
theorem dX3_digest_119 : decode cX3_digest 119 = .ok (.getfield 18, 3) := by decide +kernel
theorem dX3_digest_122 : decode cX3_digest 122 = .ok (.getfield 128, 3) := by decide +kernel
theorem dX3_digest_125 : decode cX3_digest 125 = .ok (.if_icmp .ge 44, 3) := by decide +kernel
theorem dX3_digest_169 : decode cX3_digest 169 = .ok (.lload_n 1, 1) := by decide +kernel
theorem dX3_digest_170 : decode cX3_digest 170 = .ok (.aload_n 0, 1) := by decide +kernel
theorem dX3_digest_171 : decode cX3_digest 171 = .ok (.getfield 18, 3) := by decide +kernel
theorem dX3_digest_174 : decode cX3_digest 174 = .ok (.invokevirtual 161, 3) := by decide +kernel
theorem dX3_digest_177 : decode cX3_digest 177 = .ok (.ifCond .eq 7, 3) := by decide +kernel
theorem dX3_digest_180 : decode cX3_digest 180 = .ok (.iconst 1, 1) := by decide +kernel
theorem dX3_digest_181 : decode cX3_digest 181 = .ok (.goto 4, 3) := by decide +kernel
theorem dX3_digest_185 : decode cX3_digest 185 = .ok (.invokestatic 267, 3) := by decide +kernel
theorem dX3_digest_188 : decode cX3_digest 188 = .ok (.lstore_n 1, 1) := by decide +kernel
theorem dX3_digest_189 : decode cX3_digest 189 = .ok (.lload_n 1, 1) := by decide +kernel
theorem dX3_digest_190 : decode cX3_digest 190 = .ok (.aload_n 0, 1) := by decide +kernel
theorem dX3_digest_191 : decode cX3_digest 191 = .ok (.getfield 27, 3) := by decide +kernel
theorem dX3_digest_194 : decode cX3_digest 194 = .ok (.invokevirtual 219, 3) := by decide +kernel
theorem dX3_digest_197 : decode cX3_digest 197 = .ok (.invokestatic 267, 3) := by decide +kernel
theorem dX3_digest_200 : decode cX3_digest 200 = .ok (.lstore_n 1, 1) := by decide +kernel
theorem dX3_digest_201 : decode cX3_digest 201 = .ok (.lload_n 1, 1) := by decide +kernel
theorem dX3_digest_202 : decode cX3_digest 202 = .ok (.aload_n 0, 1) := by decide +kernel
theorem dX3_digest_203 : decode cX3_digest 203 = .ok (.getfield 27, 3) := by decide +kernel
theorem dX3_digest_206 : decode cX3_digest 206 = .ok (.invokevirtual 216, 3) := by decide +kernel
theorem dX3_digest_209 : decode cX3_digest 209 = .ok (.invokestatic 267, 3) := by decide +kernel
theorem dX3_digest_212 : decode cX3_digest 212 = .ok (.lstore_n 1, 1) := by decide +kernel
theorem dX3_digest_213 : decode cX3_digest 213 = .ok (.lload_n 1, 1) := by decide +kernel
theorem dX3_digest_214 : decode cX3_digest 214 = .ok (.aload_n 0, 1) := by decide +kernel
theorem dX3_digest_215 : decode cX3_digest 215 = .ok (.invokevirtual 275, 3) := by decide +kernel
theorem dX3_digest_218 : decode cX3_digest 218 = .ok (.ifCond .eq 7, 3) := by decide +kernel
theorem dX3_digest_221 : decode cX3_digest 221 = .ok (.iconst 1, 1) := by decide +kernel
theorem dX3_digest_222 : decode cX3_digest 222 = .ok (.goto 4, 3) := by decide +kernel
theorem dX3_digest_226 : decode cX3_digest 226 = .ok (.invokestatic 267, 3) := by decide +kernel
theorem dX3_digest_229 : decode cX3_digest 229 = .ok (.lreturn, 1) := by decide +kernel
theorem dX3_needRope_0 : decode cX3_needRope 0 = .ok (.iload_n 0, 1) := by decide +kernel
theorem dX3_needRope_1 : decode cX3_needRope 1 = .ok (.ifCond .lt 8, 3) := by decide +kernel
theorem dX3_needRope_4 : decode cX3_needRope 4 = .ok (.iload_n 0, 1) := by decide +kernel
theorem dX3_needRope_5 : decode cX3_needRope 5 = .ok (.iconst 4, 1) := by decide +kernel
theorem dX3_needRope_6 : decode cX3_needRope 6 = .ok (.if_icmp .lt 14, 3) := by decide +kernel
theorem dX3_needRope_9 : decode cX3_needRope 9 = .ok (.new 236, 3) := by decide +kernel
theorem dX3_needRope_12 : decode cX3_needRope 12 = .ok (.dup, 1) := by decide +kernel
theorem dX3_needRope_13 : decode cX3_needRope 13 = .ok (.ldc_w 278, 3) := by decide +kernel
theorem dX3_needRope_16 : decode cX3_needRope 16 = .ok (.invokespecial 240, 3) := by decide +kernel
theorem dX3_needRope_19 : decode cX3_needRope 19 = .ok (.athrow, 1) := by decide +kernel
theorem dX3_needRope_20 : decode cX3_needRope 20 = .ok (.return_, 1) := by decide +kernel
theorem dX3_needRule_0 : decode cX3_needRule 0 = .ok (.iload_n 1, 1) := by decide +kernel
theorem dX3_needRule_1 : decode cX3_needRule 1 = .ok (.ifCond .lt 14, 3) := by decide +kernel
theorem dX3_needRule_4 : decode cX3_needRule 4 = .ok (.iload_n 1, 1) := by decide +kernel
theorem dX3_needRule_5 : decode cX3_needRule 5 = .ok (.aload_n 0, 1) := by decide +kernel
theorem dX3_needRule_6 : decode cX3_needRule 6 = .ok (.getfield 18, 3) := by decide +kernel
theorem dX3_needRule_9 : decode cX3_needRule 9 = .ok (.getfield 128, 3) := by decide +kernel
theorem dX3_needRule_12 : decode cX3_needRule 12 = .ok (.if_icmp .lt 14, 3) := by decide +kernel
theorem dX3_needRule_15 : decode cX3_needRule 15 = .ok (.new 236, 3) := by decide +kernel
theorem dX3_needRule_18 : decode cX3_needRule 18 = .ok (.dup, 1) := by decide +kernel
theorem dX3_needRule_19 : decode cX3_needRule 19 = .ok (.ldc_w 280, 3) := by decide +kernel
theorem dX3_needRule_22 : decode cX3_needRule 22 = .ok (.invokespecial 240, 3) := by decide +kernel
theorem dX3_needRule_25 : decode cX3_needRule 25 = .ok (.athrow, 1) := by decide +kernel
theorem dX3_needPlace_0 : decode cX3_needPlace 0 = .ok (.iload_n 1, 1) := by decide +kernel
theorem dX3_needPlace_1 : decode cX3_needPlace 1 = .ok (.ifCond .lt 11, 3) := by decide +kernel
theorem dX3_needPlace_4 : decode cX3_needPlace 4 = .ok (.iload_n 1, 1) := by decide +kernel
theorem dX3_needPlace_5 : decode cX3_needPlace 5 = .ok (.aload_n 0, 1) := by decide +kernel
theorem dX3_needPlace_6 : decode cX3_needPlace 6 = .ok (.getfield 65, 3) := by decide +kernel
theorem dX3_needPlace_9 : decode cX3_needPlace 9 = .ok (.if_icmp .le 14, 3) := by decide +kernel
theorem dX3_needPlace_12 : decode cX3_needPlace 12 = .ok (.new 236, 3) := by decide +kernel
theorem dX3_needPlace_15 : decode cX3_needPlace 15 = .ok (.dup, 1) := by decide +kernel
theorem dX3_needPlace_16 : decode cX3_needPlace 16 = .ok (.ldc_w 282, 3) := by decide +kernel
theorem dX3_needPlace_19 : decode cX3_needPlace 19 = .ok (.invokespecial 240, 3) := by decide +kernel
theorem dX3_needPlace_22 : decode cX3_needPlace 22 = .ok (.athrow, 1) := by decide +kernel
theorem dX3_needPlace_23 : decode cX3_needPlace 23 = .ok (.return_, 1) := by decide +kernel
theorem dX3_needLetterOrNone_0 : decode cX3_needLetterOrNone 0 = .ok (.iload_n 0, 1) := by decide +kernel
theorem dX3_needLetterOrNone_1 : decode cX3_needLetterOrNone 1 = .ok (.iconst (-1), 1) := by decide +kernel
theorem dX3_needLetterOrNone_2 : decode cX3_needLetterOrNone 2 = .ok (.if_icmp .lt 8, 3) := by decide +kernel
theorem dX3_needLetterOrNone_5 : decode cX3_needLetterOrNone 5 = .ok (.iload_n 0, 1) := by decide +kernel
theorem dX3_needLetterOrNone_6 : decode cX3_needLetterOrNone 6 = .ok (.iconst 4, 1) := by decide +kernel
theorem dX3_needLetterOrNone_7 : decode cX3_needLetterOrNone 7 = .ok (.if_icmp .lt 14, 3) := by decide +kernel
theorem dX3_needLetterOrNone_10 : decode cX3_needLetterOrNone 10 = .ok (.new 95, 3) := by decide +kernel
theorem dX3_needLetterOrNone_13 : decode cX3_needLetterOrNone 13 = .ok (.dup, 1) := by decide +kernel
theorem dX3_needLetterOrNone_14 : decode cX3_needLetterOrNone 14 = .ok (.ldc_w 284, 3) := by decide +kernel
theorem dX3_needLetterOrNone_17 : decode cX3_needLetterOrNone 17 = .ok (.invokespecial 99, 3) := by decide +kernel
theorem dX3_needLetterOrNone_20 : decode cX3_needLetterOrNone 20 = .ok (.athrow, 1) := by decide +kernel
theorem dX3_needLetterOrNone_21 : decode cX3_needLetterOrNone 21 = .ok (.return_, 1) := by decide +kernel
theorem dX3_needWay_0 : decode cX3_needWay 0 = .ok (.iload_n 0, 1) := by decide +kernel
theorem dX3_needWay_1 : decode cX3_needWay 1 = .ok (.ifCond .lt 8, 3) := by decide +kernel
theorem dX3_needWay_4 : decode cX3_needWay 4 = .ok (.iload_n 0, 1) := by decide +kernel
theorem dX3_needWay_5 : decode cX3_needWay 5 = .ok (.iconst 3, 1) := by decide +kernel
theorem dX3_needWay_6 : decode cX3_needWay 6 = .ok (.if_icmp .lt 14, 3) := by decide +kernel
theorem dX3_needWay_9 : decode cX3_needWay 9 = .ok (.new 95, 3) := by decide +kernel
theorem dX3_needWay_12 : decode cX3_needWay 12 = .ok (.dup, 1) := by decide +kernel
theorem dX3_needWay_13 : decode cX3_needWay 13 = .ok (.ldc_w 286, 3) := by decide +kernel
theorem dX3_needWay_16 : decode cX3_needWay 16 = .ok (.invokespecial 99, 3) := by decide +kernel
theorem dX3_needWay_19 : decode cX3_needWay 19 = .ok (.athrow, 1) := by decide +kernel
theorem dX3_needWay_20 : decode cX3_needWay 20 = .ok (.return_, 1) := by decide +kernel
theorem dX3_refuse_0 : decode cX3_refuse 0 = .ok (.aload_n 0, 1) := by decide +kernel
theorem dX3_refuse_1 : decode cX3_refuse 1 = .ok (.dup, 1) := by decide +kernel
theorem dX3_refuse_2 : decode cX3_refuse 2 = .ok (.getfield 42, 3) := by decide +kernel
theorem dX3_refuse_5 : decode cX3_refuse 5 = .ok (.iconst 1, 1) := by decide +kernel
theorem dX3_refuse_6 : decode cX3_refuse 6 = .ok (.iadd, 1) := by decide +kernel
theorem dX3_refuse_7 : decode cX3_refuse 7 = .ok (.putfield 42, 3) := by decide +kernel
theorem dX3_refuse_10 : decode cX3_refuse 10 = .ok (.bipush (-9), 2) := by decide +kernel
theorem dX3_refuse_12 : decode cX3_refuse 12 = .ok (.ireturn, 1) := by decide +kernel
set_option maxRecDepth 20000 in
theorem ggX3_addRule_X3_refuse : GoodIn wsX3_addRule wsX3_refuse := goodIn_r _ [8, 9, 32, 33, 34, 35, 36, 37, 38, 39, 40] (by decide +kernel) (by decide +kernel)
set_option maxRecDepth 20000 in
theorem gX3_addRule_X3_refuse : GoodIn wsX3_addRule (wsV RX3 87 RX3 yX3_refuse wsX3_refuse) := goodIn_app (goodIn_of _ (by decide +kernel)) ggX3_addRule_X3_refuse
theorem dX3_addRule_0 : decode cX3_addRule 0 = .ok (.aload_n 1, 1) := by decide +kernel
theorem dX3_addRule_1 : decode cX3_addRule 1 = .ok (.getfield 65, 3) := by decide +kernel
theorem dX3_addRule_4 : decode cX3_addRule 4 = .ok (.ifCond .le 25, 3) := by decide +kernel
theorem dX3_addRule_29 : decode cX3_addRule 29 = .ok (.iconst 0, 1) := by decide +kernel
theorem dX3_addRule_30 : decode cX3_addRule 30 = .ok (.istore_n 3, 1) := by decide +kernel
theorem dX3_addRule_31 : decode cX3_addRule 31 = .ok (.iload_n 3, 1) := by decide +kernel
theorem dX3_addRule_32 : decode cX3_addRule 32 = .ok (.ifCond .eq 15, 3) := by decide +kernel
theorem dX3_addRule_47 : decode cX3_addRule 47 = .ok (.aload_n 0, 1) := by decide +kernel
theorem dX3_addRule_48 : decode cX3_addRule 48 = .ok (.invokevirtual 87, 3) := by decide +kernel
theorem dX3_addRule_51 : decode cX3_addRule 51 = .ok (.ireturn, 1) := by decide +kernel
set_option maxRecDepth 20000 in
theorem ggX3_addFallingRule_X2_compareWith : GoodIn wsX3_addFallingRule wsX2_compareWith := goodIn_r _ [5, 6, 7, 38, 39] (by decide +kernel) (by decide +kernel)
set_option maxRecDepth 20000 in
theorem gX3_addFallingRule_X2_compareWith : GoodIn wsX3_addFallingRule (wsV RX3 107 RX2 yX2_compareWith wsX2_compareWith) := goodIn_app (goodIn_of _ (by decide +kernel)) ggX3_addFallingRule_X2_compareWith
set_option maxRecDepth 20000 in
theorem ggX3_addFallingRule_X3_refuse : GoodIn wsX3_addFallingRule wsX3_refuse := goodIn_r _ [12, 13, 40, 41, 42, 43, 44, 45, 46, 47, 48] (by decide +kernel) (by decide +kernel)
set_option maxRecDepth 20000 in
theorem gX3_addFallingRule_X3_refuse : GoodIn wsX3_addFallingRule (wsV RX3 87 RX3 yX3_refuse wsX3_refuse) := goodIn_app (goodIn_of _ (by decide +kernel)) ggX3_addFallingRule_X3_refuse
theorem dX3_addFallingRule_0 : decode cX3_addFallingRule 0 = .ok (.aload_n 1, 1) := by decide +kernel
theorem dX3_addFallingRule_1 : decode cX3_addFallingRule 1 = .ok (.aload_n 2, 1) := by decide +kernel
theorem dX3_addFallingRule_2 : decode cX3_addFallingRule 2 = .ok (.invokevirtual 107, 3) := by decide +kernel
theorem dX3_addFallingRule_5 : decode cX3_addFallingRule 5 = .ok (.istore_n 3, 1) := by decide +kernel
theorem dX3_addFallingRule_6 : decode cX3_addFallingRule 6 = .ok (.iload_n 3, 1) := by decide +kernel
theorem dX3_addFallingRule_7 : decode cX3_addFallingRule 7 = .ok (.ifCond .ne 8, 3) := by decide +kernel
theorem dX3_addFallingRule_10 : decode cX3_addFallingRule 10 = .ok (.aload_n 0, 1) := by decide +kernel
theorem dX3_addFallingRule_11 : decode cX3_addFallingRule 11 = .ok (.invokevirtual 87, 3) := by decide +kernel
theorem dX3_addFallingRule_14 : decode cX3_addFallingRule 14 = .ok (.ireturn, 1) := by decide +kernel
theorem dX3_lettersOfRopes_0 : decode cX3_lettersOfRopes 0 = .ok (.iconst 0, 1) := by decide +kernel
theorem dX3_lettersOfRopes_1 : decode cX3_lettersOfRopes 1 = .ok (.istore_n 1, 1) := by decide +kernel
theorem dX3_lettersOfRopes_2 : decode cX3_lettersOfRopes 2 = .ok (.iconst 0, 1) := by decide +kernel
theorem dX3_lettersOfRopes_3 : decode cX3_lettersOfRopes 3 = .ok (.istore_n 2, 1) := by decide +kernel
theorem dX3_lettersOfRopes_4 : decode cX3_lettersOfRopes 4 = .ok (.iload_n 2, 1) := by decide +kernel
theorem dX3_lettersOfRopes_5 : decode cX3_lettersOfRopes 5 = .ok (.iconst 4, 1) := by decide +kernel
theorem dX3_lettersOfRopes_6 : decode cX3_lettersOfRopes 6 = .ok (.if_icmp .ge 21, 3) := by decide +kernel
theorem dX3_lettersOfRopes_9 : decode cX3_lettersOfRopes 9 = .ok (.iload_n 1, 1) := by decide +kernel
theorem dX3_lettersOfRopes_10 : decode cX3_lettersOfRopes 10 = .ok (.aload_n 0, 1) := by decide +kernel
theorem dX3_lettersOfRopes_11 : decode cX3_lettersOfRopes 11 = .ok (.getfield 11, 3) := by decide +kernel
theorem dX3_lettersOfRopes_14 : decode cX3_lettersOfRopes 14 = .ok (.iload_n 2, 1) := by decide +kernel
theorem dX3_lettersOfRopes_15 : decode cX3_lettersOfRopes 15 = .ok (.aaload, 1) := by decide +kernel
theorem dX3_lettersOfRopes_16 : decode cX3_lettersOfRopes 16 = .ok (.getfield 65, 3) := by decide +kernel
theorem dX3_lettersOfRopes_19 : decode cX3_lettersOfRopes 19 = .ok (.iadd, 1) := by decide +kernel
theorem dX3_lettersOfRopes_20 : decode cX3_lettersOfRopes 20 = .ok (.istore_n 1, 1) := by decide +kernel
theorem dX3_lettersOfRopes_21 : decode cX3_lettersOfRopes 21 = .ok (.iinc 2 1, 3) := by decide +kernel
theorem dX3_lettersOfRopes_24 : decode cX3_lettersOfRopes 24 = .ok (.goto (-20), 3) := by decide +kernel
theorem dX3_lettersOfRopes_27 : decode cX3_lettersOfRopes 27 = .ok (.iload_n 1, 1) := by decide +kernel
theorem dX3_lettersOfRopes_28 : decode cX3_lettersOfRopes 28 = .ok (.ireturn, 1) := by decide +kernel
theorem dX3_mix_0 : decode cX3_mix 0 = .ok (.lload_n 0, 1) := by decide +kernel
theorem dX3_mix_1 : decode cX3_mix 1 = .ok (.ldc2_w 295, 3) := by decide +kernel
theorem dX3_mix_4 : decode cX3_mix 4 = .ok (.lmul, 1) := by decide +kernel
theorem dX3_mix_5 : decode cX3_mix 5 = .ok (.iload_n 2, 1) := by decide +kernel
theorem dX3_mix_6 : decode cX3_mix 6 = .ok (.i2l, 1) := by decide +kernel
theorem dX3_mix_7 : decode cX3_mix 7 = .ok (.ladd, 1) := by decide +kernel
theorem dX3_mix_8 : decode cX3_mix 8 = .ok (.lreturn, 1) := by decide +kernel
set_option maxRecDepth 20000 in
theorem ggX3_areSpotsSound_X1_spotFrom : GoodIn wsX3_areSpotsSound wsX1_spotFrom := goodIn_r _ [9, 10, 11, 12, 13, 14, 8, 15, 16, 17, 18, 19, 20, 21, 22, 23, 24, 25, 72, 73, 64, 65, 66, 67, 68, 69, 70, 71] (by decide +kernel) (by decide +kernel)
set_option maxRecDepth 20000 in
theorem gX3_areSpotsSound_X1_spotFrom : GoodIn wsX3_areSpotsSound (wsV RX3 297 RX1 yX1_spotFrom wsX1_spotFrom) := goodIn_app (goodIn_of _ (by decide +kernel)) ggX3_areSpotsSound_X1_spotFrom
theorem dX3_areSpotsSound_0 : decode cX3_areSpotsSound 0 = .ok (.aload_n 0, 1) := by decide +kernel
theorem dX3_areSpotsSound_1 : decode cX3_areSpotsSound 1 = .ok (.getfield 18, 3) := by decide +kernel
theorem dX3_areSpotsSound_4 : decode cX3_areSpotsSound 4 = .ok (.aload_n 1, 1) := by decide +kernel
theorem dX3_areSpotsSound_5 : decode cX3_areSpotsSound 5 = .ok (.iconst 0, 1) := by decide +kernel
theorem dX3_areSpotsSound_6 : decode cX3_areSpotsSound 6 = .ok (.invokevirtual 297, 3) := by decide +kernel
theorem dX3_areSpotsSound_9 : decode cX3_areSpotsSound 9 = .ok (.istore_n 2, 1) := by decide +kernel
theorem dX3_areSpotsSound_10 : decode cX3_areSpotsSound 10 = .ok (.iconst 0, 1) := by decide +kernel
theorem dX3_areSpotsSound_11 : decode cX3_areSpotsSound 11 = .ok (.istore_n 3, 1) := by decide +kernel
theorem dX3_areSpotsSound_12 : decode cX3_areSpotsSound 12 = .ok (.iload_n 3, 1) := by decide +kernel
theorem dX3_areSpotsSound_13 : decode cX3_areSpotsSound 13 = .ok (.sipush 512, 3) := by decide +kernel
theorem dX3_areSpotsSound_16 : decode cX3_areSpotsSound 16 = .ok (.if_icmp .ge 140, 3) := by decide +kernel
theorem dX3_areSpotsSound_19 : decode cX3_areSpotsSound 19 = .ok (.iload_n 2, 1) := by decide +kernel
theorem dX3_areSpotsSound_20 : decode cX3_areSpotsSound 20 = .ok (.iconst (-1), 1) := by decide +kernel
theorem dX3_areSpotsSound_21 : decode cX3_areSpotsSound 21 = .ok (.if_icmp .eq 135, 3) := by decide +kernel
theorem dX3_areSpotsSound_156 : decode cX3_areSpotsSound 156 = .ok (.iconst 1, 1) := by decide +kernel
theorem dX3_areSpotsSound_157 : decode cX3_areSpotsSound 157 = .ok (.ireturn, 1) := by decide +kernel
set_option maxRecDepth 20000 in
theorem ggX3_isTurnSound_X2_become : GoodIn wsX3_isTurnSound wsX2_become := goodIn_r _ [6, 7, 8, 9, 10, 11, 12, 34, 35] (by decide +kernel) (by decide +kernel)
set_option maxRecDepth 20000 in
theorem gX3_isTurnSound_X2_become : GoodIn wsX3_isTurnSound (wsV RX3 79 RX2 yX2_become wsX2_become) := goodIn_app (goodIn_of _ (by decide +kernel)) ggX3_isTurnSound_X2_become
set_option maxRecDepth 20000 in
theorem ggX3_isTurnSound_X2_turnRound : GoodIn wsX3_isTurnSound wsX2_turnRound := goodIn_r _ [16, 8, 7, 34, 35] (by decide +kernel) (by decide +kernel)
set_option maxRecDepth 20000 in
theorem gX3_isTurnSound_X2_turnRound : GoodIn wsX3_isTurnSound (wsV RX3 100 RX2 yX2_turnRound wsX2_turnRound) := goodIn_app (goodIn_of _ (by decide +kernel)) ggX3_isTurnSound_X2_turnRound
set_option maxRecDepth 20000 in
theorem ggX3_isTurnSound_X2_isSameAs : GoodIn wsX3_isTurnSound wsX2_isSameAs := goodIn_r _ [20, 8, 21, 22, 23, 5, 24, 7, 34, 35] (by decide +kernel) (by decide +kernel)
set_option maxRecDepth 20000 in
theorem gX3_isTurnSound_X2_isSameAs : GoodIn wsX3_isTurnSound (wsV RX3 213 RX2 yX2_isSameAs wsX2_isSameAs) := goodIn_app (goodIn_of _ (by decide +kernel)) ggX3_isTurnSound_X2_isSameAs
theorem dX3_isTurnSound_0 : decode cX3_isTurnSound 0 = .ok (.aload_n 0, 1) := by decide +kernel
theorem dX3_isTurnSound_1 : decode cX3_isTurnSound 1 = .ok (.getfield 32, 3) := by decide +kernel
theorem dX3_isTurnSound_4 : decode cX3_isTurnSound 4 = .ok (.aload_n 1, 1) := by decide +kernel
theorem dX3_isTurnSound_5 : decode cX3_isTurnSound 5 = .ok (.invokevirtual 79, 3) := by decide +kernel
theorem dX3_isTurnSound_8 : decode cX3_isTurnSound 8 = .ok (.aload_n 0, 1) := by decide +kernel
theorem dX3_isTurnSound_9 : decode cX3_isTurnSound 9 = .ok (.getfield 32, 3) := by decide +kernel
theorem dX3_isTurnSound_12 : decode cX3_isTurnSound 12 = .ok (.invokevirtual 100, 3) := by decide +kernel
theorem dX3_isTurnSound_15 : decode cX3_isTurnSound 15 = .ok (.aload_n 0, 1) := by decide +kernel
theorem dX3_isTurnSound_16 : decode cX3_isTurnSound 16 = .ok (.getfield 32, 3) := by decide +kernel
theorem dX3_isTurnSound_19 : decode cX3_isTurnSound 19 = .ok (.invokevirtual 100, 3) := by decide +kernel
theorem dX3_isTurnSound_22 : decode cX3_isTurnSound 22 = .ok (.aload_n 0, 1) := by decide +kernel
theorem dX3_isTurnSound_23 : decode cX3_isTurnSound 23 = .ok (.getfield 32, 3) := by decide +kernel
theorem dX3_isTurnSound_26 : decode cX3_isTurnSound 26 = .ok (.aload_n 1, 1) := by decide +kernel
theorem dX3_isTurnSound_27 : decode cX3_isTurnSound 27 = .ok (.invokevirtual 213, 3) := by decide +kernel
theorem dX3_isTurnSound_30 : decode cX3_isTurnSound 30 = .ok (.ireturn, 1) := by decide +kernel
set_option maxRecDepth 20000 in
theorem ggX3_isSameByWays_X2_become : GoodIn wsX3_isSameByWays wsX2_become := goodIn_r _ [8, 9, 10, 11, 12, 13, 14, 80, 81] (by decide +kernel) (by decide +kernel)
set_option maxRecDepth 20000 in
theorem gX3_isSameByWays_X2_become : GoodIn wsX3_isSameByWays (wsV RX3 79 RX2 yX2_become wsX2_become) := goodIn_app (goodIn_of _ (by decide +kernel)) ggX3_isSameByWays_X2_become
set_option maxRecDepth 20000 in
theorem ggX3_isSameByWays_X1_rewriteByWay : GoodIn wsX3_isSameByWays wsX1_rewriteByWay := goodIn_r _ [19, 20, 21, 22, 18, 23, 24, 25, 26, 27, 28, 29, 30, 31, 32, 33, 7, 34, 10, 9, 35, 36, 37, 38, 39, 40, 41, 42, 43, 44, 45, 46, 47, 48, 49, 50, 51, 52, 53, 54, 55, 56, 57, 58, 59, 60, 61, 11, 12, 13, 14, 80, 81, 82, 83, 84, 85, 86, 87, 88, 89] (by decide +kernel) (by decide +kernel)
set_option maxRecDepth 20000 in
theorem gX3_isSameByWays_X1_rewriteByWay : GoodIn wsX3_isSameByWays (wsV RX3 182 RX1 yX1_rewriteByWay wsX1_rewriteByWay) := goodIn_app (goodIn_of _ (by decide +kernel)) ggX3_isSameByWays_X1_rewriteByWay
set_option maxRecDepth 20000 in
theorem ggX3_isSameByWays_X1_isDone : GoodIn wsX3_isSameByWays wsX1_isDone := goodIn_r _ [65, 39, 40, 41, 18, 42, 28, 29, 30, 43, 44, 45, 46, 47, 48, 31, 32, 33, 7, 34, 10, 9, 80, 81, 82, 83, 84, 85, 86, 87, 88, 89] (by decide +kernel) (by decide +kernel)
set_option maxRecDepth 20000 in
theorem gX3_isSameByWays_X1_isDone : GoodIn wsX3_isSameByWays (wsV RX3 206 RX1 yX1_isDone wsX1_isDone) := goodIn_app (goodIn_of _ (by decide +kernel)) ggX3_isSameByWays_X1_isDone
set_option maxRecDepth 20000 in
theorem ggX3_isSameByWays_X2_isSameAs : GoodIn wsX3_isSameByWays wsX2_isSameAs := goodIn_r _ [69, 10, 70, 32, 33, 7, 34, 9, 80, 81] (by decide +kernel) (by decide +kernel)
set_option maxRecDepth 20000 in
theorem gX3_isSameByWays_X2_isSameAs : GoodIn wsX3_isSameByWays (wsV RX3 213 RX2 yX2_isSameAs wsX2_isSameAs) := goodIn_app (goodIn_of _ (by decide +kernel)) ggX3_isSameByWays_X2_isSameAs
theorem dX3_isSameByWays_0 : decode cX3_isSameByWays 0 = .ok (.iconst 0, 1) := by decide +kernel
theorem dX3_isSameByWays_1 : decode cX3_isSameByWays 1 = .ok (.istore_n 2, 1) := by decide +kernel
theorem dX3_isSameByWays_2 : decode cX3_isSameByWays 2 = .ok (.iconst 0, 1) := by decide +kernel
theorem dX3_isSameByWays_3 : decode cX3_isSameByWays 3 = .ok (.istore_n 3, 1) := by decide +kernel
theorem dX3_isSameByWays_4 : decode cX3_isSameByWays 4 = .ok (.iload_n 3, 1) := by decide +kernel
theorem dX3_isSameByWays_5 : decode cX3_isSameByWays 5 = .ok (.iconst 3, 1) := by decide +kernel
theorem dX3_isSameByWays_6 : decode cX3_isSameByWays 6 = .ok (.if_icmp .ge 82, 3) := by decide +kernel
theorem dX3_isSameByWays_9 : decode cX3_isSameByWays 9 = .ok (.aload_n 0, 1) := by decide +kernel
theorem dX3_isSameByWays_10 : decode cX3_isSameByWays 10 = .ok (.getfield 36, 3) := by decide +kernel
theorem dX3_isSameByWays_13 : decode cX3_isSameByWays 13 = .ok (.aload_n 1, 1) := by decide +kernel
theorem dX3_isSameByWays_14 : decode cX3_isSameByWays 14 = .ok (.invokevirtual 79, 3) := by decide +kernel
theorem dX3_isSameByWays_17 : decode cX3_isSameByWays 17 = .ok (.aload_n 0, 1) := by decide +kernel
theorem dX3_isSameByWays_18 : decode cX3_isSameByWays 18 = .ok (.getfield 18, 3) := by decide +kernel
theorem dX3_isSameByWays_21 : decode cX3_isSameByWays 21 = .ok (.aload_n 0, 1) := by decide +kernel
theorem dX3_isSameByWays_22 : decode cX3_isSameByWays 22 = .ok (.getfield 36, 3) := by decide +kernel
theorem dX3_isSameByWays_25 : decode cX3_isSameByWays 25 = .ok (.iload_n 3, 1) := by decide +kernel
theorem dX3_isSameByWays_26 : decode cX3_isSameByWays 26 = .ok (.bipush 40, 2) := by decide +kernel
theorem dX3_isSameByWays_28 : decode cX3_isSameByWays 28 = .ok (.invokevirtual 182, 3) := by decide +kernel
theorem dX3_isSameByWays_31 : decode cX3_isSameByWays 31 = .ok (.pop, 1) := by decide +kernel
theorem dX3_isSameByWays_32 : decode cX3_isSameByWays 32 = .ok (.aload_n 0, 1) := by decide +kernel
theorem dX3_isSameByWays_33 : decode cX3_isSameByWays 33 = .ok (.getfield 18, 3) := by decide +kernel
theorem dX3_isSameByWays_36 : decode cX3_isSameByWays 36 = .ok (.aload_n 0, 1) := by decide +kernel
theorem dX3_isSameByWays_37 : decode cX3_isSameByWays 37 = .ok (.getfield 36, 3) := by decide +kernel
theorem dX3_isSameByWays_40 : decode cX3_isSameByWays 40 = .ok (.invokevirtual 206, 3) := by decide +kernel
theorem dX3_isSameByWays_43 : decode cX3_isSameByWays 43 = .ok (.ifCond .ne 6, 3) := by decide +kernel
theorem dX3_isSameByWays_49 : decode cX3_isSameByWays 49 = .ok (.iload_n 2, 1) := by decide +kernel
theorem dX3_isSameByWays_50 : decode cX3_isSameByWays 50 = .ok (.ifCond .eq 19, 3) := by decide +kernel
theorem dX3_isSameByWays_53 : decode cX3_isSameByWays 53 = .ok (.aload_n 0, 1) := by decide +kernel
theorem dX3_isSameByWays_54 : decode cX3_isSameByWays 54 = .ok (.getfield 36, 3) := by decide +kernel
theorem dX3_isSameByWays_57 : decode cX3_isSameByWays 57 = .ok (.aload_n 0, 1) := by decide +kernel
theorem dX3_isSameByWays_58 : decode cX3_isSameByWays 58 = .ok (.getfield 32, 3) := by decide +kernel
theorem dX3_isSameByWays_61 : decode cX3_isSameByWays 61 = .ok (.invokevirtual 213, 3) := by decide +kernel
theorem dX3_isSameByWays_64 : decode cX3_isSameByWays 64 = .ok (.ifCond .ne 5, 3) := by decide +kernel
theorem dX3_isSameByWays_69 : decode cX3_isSameByWays 69 = .ok (.aload_n 0, 1) := by decide +kernel
theorem dX3_isSameByWays_70 : decode cX3_isSameByWays 70 = .ok (.getfield 32, 3) := by decide +kernel
theorem dX3_isSameByWays_73 : decode cX3_isSameByWays 73 = .ok (.aload_n 0, 1) := by decide +kernel
theorem dX3_isSameByWays_74 : decode cX3_isSameByWays 74 = .ok (.getfield 36, 3) := by decide +kernel
theorem dX3_isSameByWays_77 : decode cX3_isSameByWays 77 = .ok (.invokevirtual 79, 3) := by decide +kernel
theorem dX3_isSameByWays_80 : decode cX3_isSameByWays 80 = .ok (.iconst 1, 1) := by decide +kernel
theorem dX3_isSameByWays_81 : decode cX3_isSameByWays 81 = .ok (.istore_n 2, 1) := by decide +kernel
theorem dX3_isSameByWays_82 : decode cX3_isSameByWays 82 = .ok (.iinc 3 1, 3) := by decide +kernel
theorem dX3_isSameByWays_85 : decode cX3_isSameByWays 85 = .ok (.goto (-81), 3) := by decide +kernel
theorem dX3_isSameByWays_88 : decode cX3_isSameByWays 88 = .ok (.iconst 1, 1) := by decide +kernel
theorem dX3_isSameByWays_89 : decode cX3_isSameByWays 89 = .ok (.ireturn, 1) := by decide +kernel
set_option maxRecDepth 20000 in
theorem ggX3_isSameJoined_X2_become : GoodIn wsX3_isSameJoined wsX2_become := goodIn_r _ [10, 11, 12, 13, 14, 15, 16, 74, 75] (by decide +kernel) (by decide +kernel)
set_option maxRecDepth 20000 in
theorem gX3_isSameJoined_X2_become : GoodIn wsX3_isSameJoined (wsV RX3 79 RX2 yX2_become wsX2_become) := goodIn_app (goodIn_of _ (by decide +kernel)) ggX3_isSameJoined_X2_become
set_option maxRecDepth 20000 in
theorem ggX3_isSameJoined_X1_toForm : GoodIn wsX3_isSameJoined wsX1_toForm := goodIn_r _ [21, 22, 23, 24, 20, 25, 26, 27, 28, 29, 30, 31, 32, 33, 34, 35, 36, 37, 9, 38, 12, 11, 39, 40, 41, 42, 43, 44, 45, 46, 47, 48, 49, 50, 51, 13, 14, 15, 16, 74, 75, 76, 77, 78, 79, 80, 81, 82, 83] (by decide +kernel) (by decide +kernel)
set_option maxRecDepth 20000 in
theorem gX3_isSameJoined_X1_toForm : GoodIn wsX3_isSameJoined (wsV RX3 210 RX1 yX1_toForm wsX1_toForm) := goodIn_app (goodIn_of _ (by decide +kernel)) ggX3_isSameJoined_X1_toForm
set_option maxRecDepth 20000 in
theorem ggX3_isSameJoined_X1_isDone : GoodIn wsX3_isSameJoined wsX1_isDone := goodIn_r _ [55, 22, 23, 24, 20, 25, 26, 27, 28, 29, 30, 31, 32, 33, 34, 35, 36, 37, 9, 38, 12, 11, 74, 75, 76, 77, 78, 79, 80, 81, 82, 83] (by decide +kernel) (by decide +kernel)
set_option maxRecDepth 20000 in
theorem gX3_isSameJoined_X1_isDone : GoodIn wsX3_isSameJoined (wsV RX3 206 RX1 yX1_isDone wsX1_isDone) := goodIn_app (goodIn_of _ (by decide +kernel)) ggX3_isSameJoined_X1_isDone
set_option maxRecDepth 20000 in
theorem ggX3_isSameJoined_X2_addPart : GoodIn wsX3_isSameJoined wsX2_addPart := goodIn_r _ [59, 12, 11, 13, 14, 15, 16, 74, 75] (by decide +kernel) (by decide +kernel)
set_option maxRecDepth 20000 in
theorem gX3_isSameJoined_X2_addPart : GoodIn wsX3_isSameJoined (wsV RX3 75 RX2 yX2_addPart wsX2_addPart) := goodIn_app (goodIn_of _ (by decide +kernel)) ggX3_isSameJoined_X2_addPart
set_option maxRecDepth 20000 in
theorem ggX3_isSameJoined_X2_isSameAs : GoodIn wsX3_isSameJoined wsX2_isSameAs := goodIn_r _ [63, 12, 64, 36, 37, 9, 38, 11, 74, 75] (by decide +kernel) (by decide +kernel)
set_option maxRecDepth 20000 in
theorem gX3_isSameJoined_X2_isSameAs : GoodIn wsX3_isSameJoined (wsV RX3 213 RX2 yX2_isSameAs wsX2_isSameAs) := goodIn_app (goodIn_of _ (by decide +kernel)) ggX3_isSameJoined_X2_isSameAs
theorem dX3_isSameJoined_0 : decode cX3_isSameJoined 0 = .ok (.aload_n 0, 1) := by decide +kernel
theorem dX3_isSameJoined_1 : decode cX3_isSameJoined 1 = .ok (.getfield 36, 3) := by decide +kernel
theorem dX3_isSameJoined_4 : decode cX3_isSameJoined 4 = .ok (.aload_n 1, 1) := by decide +kernel
theorem dX3_isSameJoined_5 : decode cX3_isSameJoined 5 = .ok (.invokevirtual 79, 3) := by decide +kernel
theorem dX3_isSameJoined_8 : decode cX3_isSameJoined 8 = .ok (.aload_n 0, 1) := by decide +kernel
theorem dX3_isSameJoined_9 : decode cX3_isSameJoined 9 = .ok (.getfield 39, 3) := by decide +kernel
theorem dX3_isSameJoined_12 : decode cX3_isSameJoined 12 = .ok (.aload_n 2, 1) := by decide +kernel
theorem dX3_isSameJoined_13 : decode cX3_isSameJoined 13 = .ok (.invokevirtual 79, 3) := by decide +kernel
theorem dX3_isSameJoined_16 : decode cX3_isSameJoined 16 = .ok (.aload_n 0, 1) := by decide +kernel
theorem dX3_isSameJoined_17 : decode cX3_isSameJoined 17 = .ok (.getfield 18, 3) := by decide +kernel
theorem dX3_isSameJoined_20 : decode cX3_isSameJoined 20 = .ok (.aload_n 0, 1) := by decide +kernel
theorem dX3_isSameJoined_21 : decode cX3_isSameJoined 21 = .ok (.getfield 36, 3) := by decide +kernel
theorem dX3_isSameJoined_24 : decode cX3_isSameJoined 24 = .ok (.invokevirtual 210, 3) := by decide +kernel
theorem dX3_isSameJoined_27 : decode cX3_isSameJoined 27 = .ok (.aload_n 0, 1) := by decide +kernel
theorem dX3_isSameJoined_28 : decode cX3_isSameJoined 28 = .ok (.getfield 18, 3) := by decide +kernel
theorem dX3_isSameJoined_31 : decode cX3_isSameJoined 31 = .ok (.aload_n 0, 1) := by decide +kernel
theorem dX3_isSameJoined_32 : decode cX3_isSameJoined 32 = .ok (.getfield 39, 3) := by decide +kernel
theorem dX3_isSameJoined_35 : decode cX3_isSameJoined 35 = .ok (.invokevirtual 210, 3) := by decide +kernel
theorem dX3_isSameJoined_38 : decode cX3_isSameJoined 38 = .ok (.aload_n 0, 1) := by decide +kernel
theorem dX3_isSameJoined_39 : decode cX3_isSameJoined 39 = .ok (.getfield 18, 3) := by decide +kernel
theorem dX3_isSameJoined_42 : decode cX3_isSameJoined 42 = .ok (.aload_n 0, 1) := by decide +kernel
theorem dX3_isSameJoined_43 : decode cX3_isSameJoined 43 = .ok (.getfield 36, 3) := by decide +kernel
theorem dX3_isSameJoined_46 : decode cX3_isSameJoined 46 = .ok (.invokevirtual 206, 3) := by decide +kernel
theorem dX3_isSameJoined_49 : decode cX3_isSameJoined 49 = .ok (.ifCond .eq 21, 3) := by decide +kernel
theorem dX3_isSameJoined_52 : decode cX3_isSameJoined 52 = .ok (.aload_n 0, 1) := by decide +kernel
theorem dX3_isSameJoined_53 : decode cX3_isSameJoined 53 = .ok (.getfield 18, 3) := by decide +kernel
theorem dX3_isSameJoined_56 : decode cX3_isSameJoined 56 = .ok (.aload_n 0, 1) := by decide +kernel
theorem dX3_isSameJoined_57 : decode cX3_isSameJoined 57 = .ok (.getfield 39, 3) := by decide +kernel
theorem dX3_isSameJoined_60 : decode cX3_isSameJoined 60 = .ok (.invokevirtual 206, 3) := by decide +kernel
theorem dX3_isSameJoined_63 : decode cX3_isSameJoined 63 = .ok (.ifCond .eq 7, 3) := by decide +kernel
theorem dX3_isSameJoined_66 : decode cX3_isSameJoined 66 = .ok (.iconst 1, 1) := by decide +kernel
theorem dX3_isSameJoined_67 : decode cX3_isSameJoined 67 = .ok (.goto 4, 3) := by decide +kernel
theorem dX3_isSameJoined_71 : decode cX3_isSameJoined 71 = .ok (.istore_n 3, 1) := by decide +kernel
theorem dX3_isSameJoined_72 : decode cX3_isSameJoined 72 = .ok (.aload_n 0, 1) := by decide +kernel
theorem dX3_isSameJoined_73 : decode cX3_isSameJoined 73 = .ok (.getfield 36, 3) := by decide +kernel
theorem dX3_isSameJoined_76 : decode cX3_isSameJoined 76 = .ok (.aload_n 0, 1) := by decide +kernel
theorem dX3_isSameJoined_77 : decode cX3_isSameJoined 77 = .ok (.getfield 39, 3) := by decide +kernel
theorem dX3_isSameJoined_80 : decode cX3_isSameJoined 80 = .ok (.iconst 0, 1) := by decide +kernel
theorem dX3_isSameJoined_81 : decode cX3_isSameJoined 81 = .ok (.aload_n 0, 1) := by decide +kernel
theorem dX3_isSameJoined_82 : decode cX3_isSameJoined 82 = .ok (.getfield 39, 3) := by decide +kernel
theorem dX3_isSameJoined_85 : decode cX3_isSameJoined 85 = .ok (.getfield 65, 3) := by decide +kernel
theorem dX3_isSameJoined_88 : decode cX3_isSameJoined 88 = .ok (.invokevirtual 75, 3) := by decide +kernel
theorem dX3_isSameJoined_91 : decode cX3_isSameJoined 91 = .ok (.aload_n 0, 1) := by decide +kernel
theorem dX3_isSameJoined_92 : decode cX3_isSameJoined 92 = .ok (.getfield 18, 3) := by decide +kernel
theorem dX3_isSameJoined_95 : decode cX3_isSameJoined 95 = .ok (.aload_n 0, 1) := by decide +kernel
theorem dX3_isSameJoined_96 : decode cX3_isSameJoined 96 = .ok (.getfield 36, 3) := by decide +kernel
theorem dX3_isSameJoined_99 : decode cX3_isSameJoined 99 = .ok (.invokevirtual 210, 3) := by decide +kernel
theorem dX3_isSameJoined_102 : decode cX3_isSameJoined 102 = .ok (.aload_n 0, 1) := by decide +kernel
theorem dX3_isSameJoined_103 : decode cX3_isSameJoined 103 = .ok (.getfield 32, 3) := by decide +kernel
theorem dX3_isSameJoined_106 : decode cX3_isSameJoined 106 = .ok (.aload_n 1, 1) := by decide +kernel
theorem dX3_isSameJoined_107 : decode cX3_isSameJoined 107 = .ok (.invokevirtual 79, 3) := by decide +kernel
theorem dX3_isSameJoined_110 : decode cX3_isSameJoined 110 = .ok (.aload_n 0, 1) := by decide +kernel
theorem dX3_isSameJoined_111 : decode cX3_isSameJoined 111 = .ok (.getfield 32, 3) := by decide +kernel
theorem dX3_isSameJoined_114 : decode cX3_isSameJoined 114 = .ok (.aload_n 2, 1) := by decide +kernel
theorem dX3_isSameJoined_115 : decode cX3_isSameJoined 115 = .ok (.iconst 0, 1) := by decide +kernel
theorem dX3_isSameJoined_116 : decode cX3_isSameJoined 116 = .ok (.aload_n 2, 1) := by decide +kernel
theorem dX3_isSameJoined_117 : decode cX3_isSameJoined 117 = .ok (.getfield 65, 3) := by decide +kernel
theorem dX3_isSameJoined_120 : decode cX3_isSameJoined 120 = .ok (.invokevirtual 75, 3) := by decide +kernel
theorem dX3_isSameJoined_123 : decode cX3_isSameJoined 123 = .ok (.aload_n 0, 1) := by decide +kernel
theorem dX3_isSameJoined_124 : decode cX3_isSameJoined 124 = .ok (.getfield 18, 3) := by decide +kernel
theorem dX3_isSameJoined_127 : decode cX3_isSameJoined 127 = .ok (.aload_n 0, 1) := by decide +kernel
theorem dX3_isSameJoined_128 : decode cX3_isSameJoined 128 = .ok (.getfield 32, 3) := by decide +kernel
theorem dX3_isSameJoined_131 : decode cX3_isSameJoined 131 = .ok (.invokevirtual 210, 3) := by decide +kernel
theorem dX3_isSameJoined_134 : decode cX3_isSameJoined 134 = .ok (.iload_n 3, 1) := by decide +kernel
theorem dX3_isSameJoined_135 : decode cX3_isSameJoined 135 = .ok (.ifCond .eq 35, 3) := by decide +kernel
theorem dX3_isSameJoined_138 : decode cX3_isSameJoined 138 = .ok (.aload_n 0, 1) := by decide +kernel
theorem dX3_isSameJoined_139 : decode cX3_isSameJoined 139 = .ok (.getfield 18, 3) := by decide +kernel
theorem dX3_isSameJoined_142 : decode cX3_isSameJoined 142 = .ok (.aload_n 0, 1) := by decide +kernel
theorem dX3_isSameJoined_143 : decode cX3_isSameJoined 143 = .ok (.getfield 32, 3) := by decide +kernel
theorem dX3_isSameJoined_146 : decode cX3_isSameJoined 146 = .ok (.invokevirtual 206, 3) := by decide +kernel
theorem dX3_isSameJoined_149 : decode cX3_isSameJoined 149 = .ok (.ifCond .eq 21, 3) := by decide +kernel
theorem dX3_isSameJoined_152 : decode cX3_isSameJoined 152 = .ok (.aload_n 0, 1) := by decide +kernel
theorem dX3_isSameJoined_153 : decode cX3_isSameJoined 153 = .ok (.getfield 18, 3) := by decide +kernel
theorem dX3_isSameJoined_156 : decode cX3_isSameJoined 156 = .ok (.aload_n 0, 1) := by decide +kernel
theorem dX3_isSameJoined_157 : decode cX3_isSameJoined 157 = .ok (.getfield 36, 3) := by decide +kernel
theorem dX3_isSameJoined_160 : decode cX3_isSameJoined 160 = .ok (.invokevirtual 206, 3) := by decide +kernel
theorem dX3_isSameJoined_163 : decode cX3_isSameJoined 163 = .ok (.ifCond .eq 7, 3) := by decide +kernel
theorem dX3_isSameJoined_166 : decode cX3_isSameJoined 166 = .ok (.iconst 1, 1) := by decide +kernel
theorem dX3_isSameJoined_167 : decode cX3_isSameJoined 167 = .ok (.goto 4, 3) := by decide +kernel
theorem dX3_isSameJoined_171 : decode cX3_isSameJoined 171 = .ok (.istore_n 3, 1) := by decide +kernel
theorem dX3_isSameJoined_172 : decode cX3_isSameJoined 172 = .ok (.aload_n 0, 1) := by decide +kernel
theorem dX3_isSameJoined_173 : decode cX3_isSameJoined 173 = .ok (.getfield 32, 3) := by decide +kernel
theorem dX3_isSameJoined_176 : decode cX3_isSameJoined 176 = .ok (.getfield 65, 3) := by decide +kernel
theorem dX3_isSameJoined_179 : decode cX3_isSameJoined 179 = .ok (.bipush 32, 2) := by decide +kernel
theorem dX3_isSameJoined_181 : decode cX3_isSameJoined 181 = .ok (.if_icmp .gt 19, 3) := by decide +kernel
theorem dX3_isSameJoined_184 : decode cX3_isSameJoined 184 = .ok (.aload_n 0, 1) := by decide +kernel
theorem dX3_isSameJoined_185 : decode cX3_isSameJoined 185 = .ok (.getfield 36, 3) := by decide +kernel
theorem dX3_isSameJoined_188 : decode cX3_isSameJoined 188 = .ok (.getfield 65, 3) := by decide +kernel
theorem dX3_isSameJoined_191 : decode cX3_isSameJoined 191 = .ok (.bipush 32, 2) := by decide +kernel
theorem dX3_isSameJoined_193 : decode cX3_isSameJoined 193 = .ok (.if_icmp .gt 7, 3) := by decide +kernel
theorem dX3_isSameJoined_196 : decode cX3_isSameJoined 196 = .ok (.iconst 1, 1) := by decide +kernel
theorem dX3_isSameJoined_197 : decode cX3_isSameJoined 197 = .ok (.goto 4, 3) := by decide +kernel
theorem dX3_isSameJoined_201 : decode cX3_isSameJoined 201 = .ok (.istore 4, 2) := by decide +kernel
theorem dX3_isSameJoined_203 : decode cX3_isSameJoined 203 = .ok (.iload_n 3, 1) := by decide +kernel
theorem dX3_isSameJoined_204 : decode cX3_isSameJoined 204 = .ok (.ifCond .eq 22, 3) := by decide +kernel
theorem dX3_isSameJoined_207 : decode cX3_isSameJoined 207 = .ok (.iload 4, 2) := by decide +kernel
theorem dX3_isSameJoined_209 : decode cX3_isSameJoined 209 = .ok (.ifCond .eq 17, 3) := by decide +kernel
theorem dX3_isSameJoined_212 : decode cX3_isSameJoined 212 = .ok (.aload_n 0, 1) := by decide +kernel
theorem dX3_isSameJoined_213 : decode cX3_isSameJoined 213 = .ok (.getfield 32, 3) := by decide +kernel
theorem dX3_isSameJoined_216 : decode cX3_isSameJoined 216 = .ok (.aload_n 0, 1) := by decide +kernel
theorem dX3_isSameJoined_217 : decode cX3_isSameJoined 217 = .ok (.getfield 36, 3) := by decide +kernel
theorem dX3_isSameJoined_220 : decode cX3_isSameJoined 220 = .ok (.invokevirtual 213, 3) := by decide +kernel
theorem dX3_isSameJoined_223 : decode cX3_isSameJoined 223 = .ok (.ifCond .eq 7, 3) := by decide +kernel
theorem dX3_isSameJoined_226 : decode cX3_isSameJoined 226 = .ok (.iconst 1, 1) := by decide +kernel
theorem dX3_isSameJoined_227 : decode cX3_isSameJoined 227 = .ok (.goto 4, 3) := by decide +kernel
theorem dX3_isSameJoined_231 : decode cX3_isSameJoined 231 = .ok (.ireturn, 1) := by decide +kernel
theorem dX4_init_0 : decode cX4_init 0 = .ok (.aload_n 0, 1) := by decide +kernel
theorem dX4_init_1 : decode cX4_init 1 = .ok (.invokespecial 1, 3) := by decide +kernel
theorem dX4_init_4 : decode cX4_init 4 = .ok (.return_, 1) := by decide +kernel
set_option maxRecDepth 20000 in
theorem ggX5_init_Jx4a65c_init_da8c8 : GoodIn wsX5_init wsJx4a65c_init_da8c8 := goodIn_r _ [13, 14, 15, 16, 17, 18, 19, 20, 21, 22, 23, 24, 25, 2, 3, 33, 34, 35] (by decide +kernel) (by decide +kernel)
set_option maxRecDepth 20000 in
theorem gX5_init_Jx4a65c_init_da8c8 : GoodIn wsX5_init (wsJx4a65c_init_da8c8) := ggX5_init_Jx4a65c_init_da8c8
theorem dX5_init_0 : decode cX5_init 0 = .ok (.aload_n 0, 1) := by decide +kernel
theorem dX5_init_1 : decode cX5_init 1 = .ok (.invokespecial 1, 3) := by decide +kernel
theorem dX5_init_4 : decode cX5_init 4 = .ok (.aload_n 0, 1) := by decide +kernel
theorem dX5_init_5 : decode cX5_init 5 = .ok (.iconst 4, 1) := by decide +kernel
theorem dX5_init_6 : decode cX5_init 6 = .ok (.anewarray 7, 3) := by decide +kernel
theorem dX5_init_9 : decode cX5_init 9 = .ok (.dup, 1) := by decide +kernel
theorem dX5_init_10 : decode cX5_init 10 = .ok (.iconst 0, 1) := by decide +kernel
theorem dX5_init_11 : decode cX5_init 11 = .ok (.ldc 9, 2) := by decide +kernel
theorem dX5_init_13 : decode cX5_init 13 = .ok (.aastore, 1) := by decide +kernel
theorem dX5_init_14 : decode cX5_init 14 = .ok (.dup, 1) := by decide +kernel
theorem dX5_init_15 : decode cX5_init 15 = .ok (.iconst 1, 1) := by decide +kernel
theorem dX5_init_16 : decode cX5_init 16 = .ok (.ldc 9, 2) := by decide +kernel
theorem dX5_init_18 : decode cX5_init 18 = .ok (.aastore, 1) := by decide +kernel
theorem dX5_init_19 : decode cX5_init 19 = .ok (.dup, 1) := by decide +kernel
theorem dX5_init_20 : decode cX5_init 20 = .ok (.iconst 2, 1) := by decide +kernel
theorem dX5_init_21 : decode cX5_init 21 = .ok (.ldc 9, 2) := by decide +kernel
theorem dX5_init_23 : decode cX5_init 23 = .ok (.aastore, 1) := by decide +kernel
theorem dX5_init_24 : decode cX5_init 24 = .ok (.dup, 1) := by decide +kernel
theorem dX5_init_25 : decode cX5_init 25 = .ok (.iconst 3, 1) := by decide +kernel
theorem dX5_init_26 : decode cX5_init 26 = .ok (.ldc 9, 2) := by decide +kernel
theorem dX5_init_28 : decode cX5_init 28 = .ok (.aastore, 1) := by decide +kernel
theorem dX5_init_29 : decode cX5_init 29 = .ok (.putfield 11, 3) := by decide +kernel
theorem dX5_init_32 : decode cX5_init 32 = .ok (.aload_n 0, 1) := by decide +kernel
theorem dX5_init_33 : decode cX5_init 33 = .ok (.new 17, 3) := by decide +kernel
theorem dX5_init_36 : decode cX5_init 36 = .ok (.dup, 1) := by decide +kernel
theorem dX5_init_37 : decode cX5_init 37 = .ok (.invokespecial 19, 3) := by decide +kernel
theorem dX5_init_40 : decode cX5_init 40 = .ok (.putfield 20, 3) := by decide +kernel
theorem dX5_init_43 : decode cX5_init 43 = .ok (.aload_n 0, 1) := by decide +kernel
theorem dX5_init_44 : decode cX5_init 44 = .ok (.new 17, 3) := by decide +kernel
theorem dX5_init_47 : decode cX5_init 47 = .ok (.dup, 1) := by decide +kernel
theorem dX5_init_48 : decode cX5_init 48 = .ok (.invokespecial 19, 3) := by decide +kernel
theorem dX5_init_51 : decode cX5_init 51 = .ok (.putfield 24, 3) := by decide +kernel
theorem dX5_init_54 : decode cX5_init 54 = .ok (.return_, 1) := by decide +kernel
theorem dX5_thrown_0 : decode cX5_thrown 0 = .ok (.aload_n 0, 1) := by decide +kernel
theorem dX5_thrown_1 : decode cX5_thrown 1 = .ok (.getfield 27, 3) := by decide +kernel
theorem dX5_thrown_4 : decode cX5_thrown 4 = .ok (.ireturn, 1) := by decide +kernel
theorem dX5_fails_0 : decode cX5_fails 0 = .ok (.aload_n 0, 1) := by decide +kernel
theorem dX5_fails_1 : decode cX5_fails 1 = .ok (.iload_n 1, 1) := by decide +kernel
theorem dX5_fails_2 : decode cX5_fails 2 = .ok (.ifCond .eq 7, 3) := by decide +kernel
theorem dX5_fails_5 : decode cX5_fails 5 = .ok (.iconst 1, 1) := by decide +kernel
theorem dX5_fails_6 : decode cX5_fails 6 = .ok (.goto 20, 3) := by decide +kernel
theorem dX5_fails_9 : decode cX5_fails 9 = .ok (.iload_n 2, 1) := by decide +kernel
theorem dX5_fails_10 : decode cX5_fails 10 = .ok (.ifCond .eq 7, 3) := by decide +kernel
theorem dX5_fails_13 : decode cX5_fails 13 = .ok (.iconst 2, 1) := by decide +kernel
theorem dX5_fails_14 : decode cX5_fails 14 = .ok (.goto 12, 3) := by decide +kernel
theorem dX5_fails_17 : decode cX5_fails 17 = .ok (.iload_n 3, 1) := by decide +kernel
theorem dX5_fails_18 : decode cX5_fails 18 = .ok (.ifCond .eq 7, 3) := by decide +kernel
theorem dX5_fails_25 : decode cX5_fails 25 = .ok (.iconst 0, 1) := by decide +kernel
theorem dX5_fails_26 : decode cX5_fails 26 = .ok (.putfield 27, 3) := by decide +kernel
theorem dX5_fails_29 : decode cX5_fails 29 = .ok (.aload_n 0, 1) := by decide +kernel
theorem dX5_fails_30 : decode cX5_fails 30 = .ok (.getfield 27, 3) := by decide +kernel
theorem dX5_fails_33 : decode cX5_fails 33 = .ok (.ifCond .le 7, 3) := by decide +kernel
theorem dX5_fails_36 : decode cX5_fails 36 = .ok (.iconst 1, 1) := by decide +kernel
theorem dX5_fails_37 : decode cX5_fails 37 = .ok (.goto 4, 3) := by decide +kernel
theorem dX5_fails_40 : decode cX5_fails 40 = .ok (.iconst 0, 1) := by decide +kernel
theorem dX5_fails_41 : decode cX5_fails 41 = .ok (.ireturn, 1) := by decide +kernel
theorem dX5_isIn_0 : decode cX5_isIn 0 = .ok (.iload_n 0, 1) := by decide +kernel
theorem dX5_isIn_1 : decode cX5_isIn 1 = .ok (.iload_n 1, 1) := by decide +kernel
theorem dX5_isIn_2 : decode cX5_isIn 2 = .ok (.if_icmp .lt 12, 3) := by decide +kernel
theorem dX5_isIn_5 : decode cX5_isIn 5 = .ok (.iload_n 0, 1) := by decide +kernel
theorem dX5_isIn_6 : decode cX5_isIn 6 = .ok (.iload_n 2, 1) := by decide +kernel
theorem dX5_isIn_7 : decode cX5_isIn 7 = .ok (.if_icmp .gt 7, 3) := by decide +kernel
theorem dX5_isIn_10 : decode cX5_isIn 10 = .ok (.iconst 1, 1) := by decide +kernel
theorem dX5_isIn_11 : decode cX5_isIn 11 = .ok (.goto 4, 3) := by decide +kernel
theorem dX5_isIn_14 : decode cX5_isIn 14 = .ok (.iconst 0, 1) := by decide +kernel
theorem dX5_isIn_15 : decode cX5_isIn 15 = .ok (.ireturn, 1) := by decide +kernel
set_option maxRecDepth 20000 in
theorem ggX5_isNo_X5_isIn : GoodIn wsX5_isNo wsX5_isIn := goodIn_r _ [4] (by decide +kernel) (by decide +kernel)
set_option maxRecDepth 20000 in
theorem gX5_isNo_X5_isIn : GoodIn wsX5_isNo (va_wsS RX5 31 yX5_isIn wsX5_isIn) := goodIn_app (goodIn_of _ (by decide +kernel)) ggX5_isNo_X5_isIn
theorem dX5_isNo_0 : decode cX5_isNo 0 = .ok (.iload_n 0, 1) := by decide +kernel
theorem dX5_isNo_1 : decode cX5_isNo 1 = .ok (.iconst 0, 1) := by decide +kernel
theorem dX5_isNo_2 : decode cX5_isNo 2 = .ok (.iconst 3, 1) := by decide +kernel
theorem dX5_isNo_3 : decode cX5_isNo 3 = .ok (.invokestatic 31, 3) := by decide +kernel
theorem dX5_isNo_6 : decode cX5_isNo 6 = .ok (.ifCond .ne 7, 3) := by decide +kernel
theorem dX5_isNo_9 : decode cX5_isNo 9 = .ok (.iconst 1, 1) := by decide +kernel
theorem dX5_isNo_10 : decode cX5_isNo 10 = .ok (.goto 4, 3) := by decide +kernel
theorem dX5_isNo_13 : decode cX5_isNo 13 = .ok (.iconst 0, 1) := by decide +kernel
theorem dX5_isNo_14 : decode cX5_isNo 14 = .ok (.ireturn, 1) := by decide +kernel
set_option maxRecDepth 20000 in
theorem ggX5_isNoRule_Jx4a65c_size_8abf5 : GoodIn wsX5_isNoRule wsJx4a65c_size_8abf5 := goodIn_r _ [6, 7, 19, 20, 21] (by decide +kernel) (by decide +kernel)
set_option maxRecDepth 20000 in
theorem gX5_isNoRule_Jx4a65c_size_8abf5 : GoodIn wsX5_isNoRule (wsV RX5 35 RJx4a65c yJx4a65c_size_8abf5 wsJx4a65c_size_8abf5) := goodIn_app (goodIn_of _ (by decide +kernel)) ggX5_isNoRule_Jx4a65c_size_8abf5
set_option maxRecDepth 20000 in
theorem ggX5_isNoRule_X5_isIn : GoodIn wsX5_isNoRule wsX5_isIn := goodIn_r _ [11] (by decide +kernel) (by decide +kernel)
set_option maxRecDepth 20000 in
theorem gX5_isNoRule_X5_isIn : GoodIn wsX5_isNoRule (va_wsS RX5 31 yX5_isIn wsX5_isIn) := goodIn_app (goodIn_of _ (by decide +kernel)) ggX5_isNoRule_X5_isIn
theorem dX5_isNoRule_0 : decode cX5_isNoRule 0 = .ok (.iload_n 1, 1) := by decide +kernel
theorem dX5_isNoRule_1 : decode cX5_isNoRule 1 = .ok (.iconst 0, 1) := by decide +kernel
theorem dX5_isNoRule_2 : decode cX5_isNoRule 2 = .ok (.aload_n 0, 1) := by decide +kernel
theorem dX5_isNoRule_3 : decode cX5_isNoRule 3 = .ok (.getfield 20, 3) := by decide +kernel
theorem dX5_isNoRule_6 : decode cX5_isNoRule 6 = .ok (.invokevirtual 35, 3) := by decide +kernel
theorem dX5_isNoRule_9 : decode cX5_isNoRule 9 = .ok (.iconst 1, 1) := by decide +kernel
theorem dX5_isNoRule_10 : decode cX5_isNoRule 10 = .ok (.isub, 1) := by decide +kernel
theorem dX5_isNoRule_11 : decode cX5_isNoRule 11 = .ok (.invokestatic 31, 3) := by decide +kernel
theorem dX5_isNoRule_14 : decode cX5_isNoRule 14 = .ok (.ifCond .ne 7, 3) := by decide +kernel
theorem dX5_isNoRule_17 : decode cX5_isNoRule 17 = .ok (.iconst 1, 1) := by decide +kernel
theorem dX5_isNoRule_18 : decode cX5_isNoRule 18 = .ok (.goto 4, 3) := by decide +kernel
theorem dX5_isNoRule_22 : decode cX5_isNoRule 22 = .ok (.ireturn, 1) := by decide +kernel
theorem dX5_refuse_0 : decode cX5_refuse 0 = .ok (.aload_n 0, 1) := by decide +kernel
theorem dX5_refuse_1 : decode cX5_refuse 1 = .ok (.dup, 1) := by decide +kernel
theorem dX5_refuse_2 : decode cX5_refuse 2 = .ok (.getfield 39, 3) := by decide +kernel
theorem dX5_refuse_5 : decode cX5_refuse 5 = .ok (.iconst 1, 1) := by decide +kernel
theorem dX5_refuse_6 : decode cX5_refuse 6 = .ok (.iadd, 1) := by decide +kernel
theorem dX5_refuse_7 : decode cX5_refuse 7 = .ok (.putfield 39, 3) := by decide +kernel
theorem dX5_refuse_10 : decode cX5_refuse 10 = .ok (.bipush (-9), 2) := by decide +kernel
theorem dX5_refuse_12 : decode cX5_refuse 12 = .ok (.ireturn, 1) := by decide +kernel
theorem dX5_one_0 : decode cX5_one 0 = .ok (.iload_n 0, 1) := by decide +kernel
theorem dX5_one_1 : decode cX5_one 1 = .ok (.ifCond .eq 7, 3) := by decide +kernel
theorem dX5_one_4 : decode cX5_one 4 = .ok (.iconst 1, 1) := by decide +kernel
theorem dX5_one_5 : decode cX5_one 5 = .ok (.goto 4, 3) := by decide +kernel
theorem dX5_one_9 : decode cX5_one 9 = .ok (.ireturn, 1) := by decide +kernel
set_option maxRecDepth 20000 in
theorem ggX5_stands_J0_length_8abf5 : GoodIn wsX5_stands wsJ0_length_8abf5 := goodIn_r _ [5, 6, 7, 8, 9, 4, 10, 11, 12, 50, 51, 52, 53] (by decide +kernel) (by decide +kernel)
set_option maxRecDepth 20000 in
theorem gX5_stands_J0_length_8abf5 : GoodIn wsX5_stands (wsV RX5 42 RJ0 yJ0_length_8abf5 wsJ0_length_8abf5) := goodIn_app (goodIn_of _ (by decide +kernel)) ggX5_stands_J0_length_8abf5
theorem dX5_stands_0 : decode cX5_stands 0 = .ok (.iload_n 2, 1) := by decide +kernel
theorem dX5_stands_1 : decode cX5_stands 1 = .ok (.aload_n 0, 1) := by decide +kernel
theorem dX5_stands_2 : decode cX5_stands 2 = .ok (.invokevirtual 42, 3) := by decide +kernel
theorem dX5_stands_5 : decode cX5_stands 5 = .ok (.iadd, 1) := by decide +kernel
theorem dX5_stands_6 : decode cX5_stands 6 = .ok (.aload_n 1, 1) := by decide +kernel
theorem dX5_stands_7 : decode cX5_stands 7 = .ok (.invokevirtual 42, 3) := by decide +kernel
theorem dX5_stands_10 : decode cX5_stands 10 = .ok (.if_icmp .le 5, 3) := by decide +kernel
theorem dX5_stands_15 : decode cX5_stands 15 = .ok (.iconst 1, 1) := by decide +kernel
theorem dX5_stands_16 : decode cX5_stands 16 = .ok (.istore_n 3, 1) := by decide +kernel
theorem dX5_stands_17 : decode cX5_stands 17 = .ok (.iconst 0, 1) := by decide +kernel
theorem dX5_stands_18 : decode cX5_stands 18 = .ok (.istore 4, 2) := by decide +kernel
theorem dX5_stands_20 : decode cX5_stands 20 = .ok (.iload 4, 2) := by decide +kernel
theorem dX5_stands_22 : decode cX5_stands 22 = .ok (.aload_n 0, 1) := by decide +kernel
theorem dX5_stands_23 : decode cX5_stands 23 = .ok (.invokevirtual 42, 3) := by decide +kernel
theorem dX5_stands_26 : decode cX5_stands 26 = .ok (.if_icmp .ge 34, 3) := by decide +kernel
theorem dX5_stands_60 : decode cX5_stands 60 = .ok (.iload_n 3, 1) := by decide +kernel
theorem dX5_stands_61 : decode cX5_stands 61 = .ok (.ireturn, 1) := by decide +kernel
set_option maxRecDepth 20000 in
theorem ggX5_compare_J0_length_8abf5 : GoodIn wsX5_compare wsJ0_length_8abf5 := goodIn_r _ [5, 6, 7, 8, 9, 4, 10, 11, 12, 50, 51, 52, 53] (by decide +kernel) (by decide +kernel)
set_option maxRecDepth 20000 in
theorem gX5_compare_J0_length_8abf5 : GoodIn wsX5_compare (wsV RX5 42 RJ0 yJ0_length_8abf5 wsJ0_length_8abf5) := goodIn_app (goodIn_of _ (by decide +kernel)) ggX5_compare_J0_length_8abf5
theorem dX5_compare_0 : decode cX5_compare 0 = .ok (.aload_n 0, 1) := by decide +kernel
theorem dX5_compare_1 : decode cX5_compare 1 = .ok (.invokevirtual 42, 3) := by decide +kernel
theorem dX5_compare_4 : decode cX5_compare 4 = .ok (.aload_n 1, 1) := by decide +kernel
theorem dX5_compare_5 : decode cX5_compare 5 = .ok (.invokevirtual 42, 3) := by decide +kernel
theorem dX5_compare_8 : decode cX5_compare 8 = .ok (.if_icmp .eq 20, 3) := by decide +kernel
theorem dX5_compare_28 : decode cX5_compare 28 = .ok (.iconst 0, 1) := by decide +kernel
theorem dX5_compare_29 : decode cX5_compare 29 = .ok (.istore_n 2, 1) := by decide +kernel
theorem dX5_compare_30 : decode cX5_compare 30 = .ok (.iload_n 2, 1) := by decide +kernel
theorem dX5_compare_31 : decode cX5_compare 31 = .ok (.aload_n 0, 1) := by decide +kernel
theorem dX5_compare_32 : decode cX5_compare 32 = .ok (.invokevirtual 42, 3) := by decide +kernel
theorem dX5_compare_35 : decode cX5_compare 35 = .ok (.if_icmp .ge 41, 3) := by decide +kernel
theorem dX5_compare_76 : decode cX5_compare 76 = .ok (.iconst 0, 1) := by decide +kernel
theorem dX5_compare_77 : decode cX5_compare 77 = .ok (.ireturn, 1) := by decide +kernel
set_option maxRecDepth 20000 in
theorem ggX5_changed_J4_init_da8c8 : GoodIn wsX5_changed wsJ4_init_da8c8 := goodIn_r _ [6, 7, 8, 9, 10, 11, 12, 13, 14, 15, 16, 17, 18, 19, 20, 21, 22, 23, 24, 25, 242, 243, 244, 245] (by decide +kernel) (by decide +kernel)
set_option maxRecDepth 20000 in
theorem gX5_changed_J4_init_da8c8 : GoodIn wsX5_changed (wsJ4_init_da8c8) := ggX5_changed_J4_init_da8c8
set_option maxRecDepth 20000 in
theorem ggX5_changed_J0_substring_37a41 : GoodIn wsX5_changed wsJ0_substring_37a41 := goodIn_r _ [30, 31, 32, 33, 34, 29, 35, 36, 37, 38, 39, 40, 41, 42, 43, 44, 45, 46, 47, 48, 49, 50, 51, 52, 53, 54, 55, 56, 57, 58, 59, 60, 61, 62, 63, 64, 65, 66, 67, 68, 69, 70, 71, 72, 15, 73, 74, 75, 76, 77, 78, 79, 80, 81, 82, 83, 84, 2, 3, 85, 86, 87, 88, 12, 13, 89, 90, 20, 91, 92, 93, 94, 95, 96, 97, 98, 99, 100, 101, 102, 103, 104, 105, 106, 107, 108, 109, 110, 111, 112, 113, 114, 115, 116, 117, 22, 23, 24, 25, 118, 119, 120, 121, 122, 246, 247, 248, 249, 242, 243, 244, 245] (by decide +kernel) (by decide +kernel)
set_option maxRecDepth 20000 in
theorem gX5_changed_J0_substring_37a41 : GoodIn wsX5_changed (wsV RX5 52 RJ0 yJ0_substring_37a41 wsJ0_substring_37a41) := goodIn_app (goodIn_of _ (by decide +kernel)) ggX5_changed_J0_substring_37a41
set_option maxRecDepth 20000 in
theorem ggX5_changed_J4_append_15ec4 : GoodIn wsX5_changed wsJ4_append_15ec4 := goodIn_r _ [126, 127, 128, 129, 130, 9, 131, 132, 133, 134, 135, 136, 137, 16, 138, 139, 140, 141, 142, 17, 143, 144, 145, 146, 147, 148, 149, 150, 151, 152, 153, 154, 75, 155, 156, 157, 158, 159, 160, 161, 62, 162, 64, 65, 66, 67, 68, 69, 15, 73, 74, 76, 77, 78, 79, 80, 163, 164, 165, 166, 167, 14, 168, 169, 20, 170, 115, 171, 172, 173, 103, 104, 105, 174, 43, 29, 44, 45, 46, 47, 48, 49, 175, 176, 177, 116, 117, 178, 33, 34, 35, 31, 36, 37, 38, 39, 40, 41, 179, 180, 181, 182, 183, 184, 185, 186, 187, 188, 189, 190, 191, 192, 193, 194, 18, 19, 21, 22, 23, 24, 25, 195, 196, 56, 197, 198, 199, 200, 100, 101, 102, 106, 107, 108, 109, 110, 111, 201, 202, 203, 204, 205, 206, 242, 243, 244, 245, 246, 247, 248, 249] (by decide +kernel) (by decide +kernel)
set_option maxRecDepth 20000 in
theorem gX5_changed_J4_append_15ec4 : GoodIn wsX5_changed (wsV RX5 56 RJ4 yJ4_append_15ec4 wsJ4_append_15ec4) := goodIn_app (goodIn_of _ (by decide +kernel)) ggX5_changed_J4_append_15ec4
set_option maxRecDepth 20000 in
theorem ggX5_changed_J0_substring_b52d3 : GoodIn wsX5_changed wsJ0_substring_b52d3 := goodIn_r _ [210, 32, 33, 34, 29, 35, 31, 36, 37, 38, 39, 40, 41, 211, 27, 28, 30, 42, 43, 44, 45, 46, 47, 48, 49, 50, 51, 52, 53, 54, 55, 56, 57, 58, 59, 60, 61, 62, 63, 64, 65, 66, 67, 68, 69, 70, 71, 72, 15, 73, 74, 75, 76, 77, 78, 79, 80, 81, 82, 83, 84, 2, 3, 85, 86, 87, 88, 12, 13, 89, 90, 20, 91, 92, 93, 94, 95, 96, 97, 98, 99, 100, 101, 102, 103, 104, 105, 106, 107, 108, 109, 110, 111, 112, 113, 114, 115, 116, 117, 22, 23, 24, 25, 118, 119, 120, 121, 122, 246, 247, 248, 249, 242, 243, 244, 245] (by decide +kernel) (by decide +kernel)
set_option maxRecDepth 20000 in
theorem gX5_changed_J0_substring_b52d3 : GoodIn wsX5_changed (wsV RX5 60 RJ0 yJ0_substring_b52d3 wsJ0_substring_b52d3) := goodIn_app (goodIn_of _ (by decide +kernel)) ggX5_changed_J0_substring_b52d3
set_option maxRecDepth 20000 in
theorem ggX5_changed_J4_toString_0e30d : GoodIn wsX5_changed wsJ4_toString_0e30d := goodIn_r _ [215, 216, 59, 29, 217, 218, 219, 220, 221, 222, 88, 12, 13, 41, 31, 40, 223, 224, 225, 226, 227, 9, 228, 16, 229, 230, 231, 232, 233, 3, 234, 235, 129, 236, 237, 132, 238, 164, 165, 166, 167, 14, 17, 239, 61, 62, 63, 64, 65, 66, 67, 68, 69, 70, 71, 72, 15, 73, 74, 75, 76, 77, 78, 79, 80, 81, 82, 83, 84, 2, 240, 95, 20, 96, 97, 98, 99, 100, 101, 102, 103, 104, 105, 106, 107, 108, 45, 109, 110, 48, 111, 112, 113, 114, 115, 116, 117, 22, 23, 24, 25, 118, 241, 120, 121, 246, 247, 248, 249, 242, 243, 244, 245] (by decide +kernel) (by decide +kernel)
set_option maxRecDepth 20000 in
theorem gX5_changed_J4_toString_0e30d : GoodIn wsX5_changed (wsV RX5 63 RJ4 yJ4_toString_0e30d wsJ4_toString_0e30d) := goodIn_app (goodIn_of _ (by decide +kernel)) ggX5_changed_J4_toString_0e30d
theorem dX5_changed_0 : decode cX5_changed 0 = .ok (.new 49, 3) := by decide +kernel
theorem dX5_changed_3 : decode cX5_changed 3 = .ok (.dup, 1) := by decide +kernel
theorem dX5_changed_4 : decode cX5_changed 4 = .ok (.invokespecial 51, 3) := by decide +kernel
theorem dX5_changed_7 : decode cX5_changed 7 = .ok (.aload_n 0, 1) := by decide +kernel
theorem dX5_changed_8 : decode cX5_changed 8 = .ok (.iconst 0, 1) := by decide +kernel
theorem dX5_changed_9 : decode cX5_changed 9 = .ok (.iload_n 1, 1) := by decide +kernel
theorem dX5_changed_10 : decode cX5_changed 10 = .ok (.invokevirtual 52, 3) := by decide +kernel
theorem dX5_changed_13 : decode cX5_changed 13 = .ok (.invokevirtual 56, 3) := by decide +kernel
theorem dX5_changed_16 : decode cX5_changed 16 = .ok (.aload_n 3, 1) := by decide +kernel
theorem dX5_changed_17 : decode cX5_changed 17 = .ok (.invokevirtual 56, 3) := by decide +kernel
theorem dX5_changed_20 : decode cX5_changed 20 = .ok (.aload_n 0, 1) := by decide +kernel
theorem dX5_changed_21 : decode cX5_changed 21 = .ok (.iload_n 1, 1) := by decide +kernel
theorem dX5_changed_22 : decode cX5_changed 22 = .ok (.iload_n 2, 1) := by decide +kernel
theorem dX5_changed_23 : decode cX5_changed 23 = .ok (.iadd, 1) := by decide +kernel
theorem dX5_changed_24 : decode cX5_changed 24 = .ok (.invokevirtual 60, 3) := by decide +kernel
theorem dX5_changed_27 : decode cX5_changed 27 = .ok (.invokevirtual 56, 3) := by decide +kernel
theorem dX5_changed_30 : decode cX5_changed 30 = .ok (.invokevirtual 63, 3) := by decide +kernel
theorem dX5_changed_33 : decode cX5_changed 33 = .ok (.areturn, 1) := by decide +kernel
set_option maxRecDepth 20000 in
theorem ggX5_areAllFalling_Jx4a65c_size_8abf5 : GoodIn wsX5_areAllFalling wsJx4a65c_size_8abf5 := goodIn_r _ [6, 7, 88, 89, 90] (by decide +kernel) (by decide +kernel)
set_option maxRecDepth 20000 in
theorem gX5_areAllFalling_Jx4a65c_size_8abf5 : GoodIn wsX5_areAllFalling (wsV RX5 35 RJx4a65c yJx4a65c_size_8abf5 wsJx4a65c_size_8abf5) := goodIn_app (goodIn_of _ (by decide +kernel)) ggX5_areAllFalling_Jx4a65c_size_8abf5
theorem dX5_areAllFalling_0 : decode cX5_areAllFalling 0 = .ok (.iconst 1, 1) := by decide +kernel
theorem dX5_areAllFalling_1 : decode cX5_areAllFalling 1 = .ok (.istore_n 1, 1) := by decide +kernel
theorem dX5_areAllFalling_2 : decode cX5_areAllFalling 2 = .ok (.iconst 0, 1) := by decide +kernel
theorem dX5_areAllFalling_3 : decode cX5_areAllFalling 3 = .ok (.istore_n 2, 1) := by decide +kernel
theorem dX5_areAllFalling_4 : decode cX5_areAllFalling 4 = .ok (.iload_n 2, 1) := by decide +kernel
theorem dX5_areAllFalling_5 : decode cX5_areAllFalling 5 = .ok (.aload_n 0, 1) := by decide +kernel
theorem dX5_areAllFalling_6 : decode cX5_areAllFalling 6 = .ok (.getfield 20, 3) := by decide +kernel
theorem dX5_areAllFalling_9 : decode cX5_areAllFalling 9 = .ok (.invokevirtual 35, 3) := by decide +kernel
theorem dX5_areAllFalling_12 : decode cX5_areAllFalling 12 = .ok (.if_icmp .ge 17, 3) := by decide +kernel
theorem dX5_areAllFalling_29 : decode cX5_areAllFalling 29 = .ok (.iload_n 1, 1) := by decide +kernel
theorem dX5_areAllFalling_30 : decode cX5_areAllFalling 30 = .ok (.ireturn, 1) := by decide +kernel
set_option maxRecDepth 20000 in
theorem ggX5_spotsOf_Jx4a65c_init_da8c8 : GoodIn wsX5_spotsOf wsJx4a65c_init_da8c8 := goodIn_r _ [9, 10, 11, 12, 13, 14, 15, 16, 17, 18, 19, 20, 21, 22, 23, 147, 148, 149] (by decide +kernel) (by decide +kernel)
set_option maxRecDepth 20000 in
theorem gX5_spotsOf_Jx4a65c_init_da8c8 : GoodIn wsX5_spotsOf (wsJx4a65c_init_da8c8) := ggX5_spotsOf_Jx4a65c_init_da8c8
set_option maxRecDepth 20000 in
theorem ggX5_spotsOf_J0_length_8abf5 : GoodIn wsX5_spotsOf wsJ0_length_8abf5 := goodIn_r _ [28, 29, 30, 31, 32, 27, 33, 34, 35, 157, 158, 159, 160] (by decide +kernel) (by decide +kernel)
set_option maxRecDepth 20000 in
theorem gX5_spotsOf_J0_length_8abf5 : GoodIn wsX5_spotsOf (wsV RX5 42 RJ0 yJ0_length_8abf5 wsJ0_length_8abf5) := goodIn_app (goodIn_of _ (by decide +kernel)) ggX5_spotsOf_J0_length_8abf5
theorem dX5_spotsOf_0 : decode cX5_spotsOf 0 = .ok (.new 17, 3) := by decide +kernel
theorem dX5_spotsOf_3 : decode cX5_spotsOf 3 = .ok (.dup, 1) := by decide +kernel
theorem dX5_spotsOf_4 : decode cX5_spotsOf 4 = .ok (.invokespecial 19, 3) := by decide +kernel
theorem dX5_spotsOf_7 : decode cX5_spotsOf 7 = .ok (.astore_n 2, 1) := by decide +kernel
theorem dX5_spotsOf_8 : decode cX5_spotsOf 8 = .ok (.iconst 0, 1) := by decide +kernel
theorem dX5_spotsOf_9 : decode cX5_spotsOf 9 = .ok (.istore_n 3, 1) := by decide +kernel
theorem dX5_spotsOf_10 : decode cX5_spotsOf 10 = .ok (.iload_n 3, 1) := by decide +kernel
theorem dX5_spotsOf_11 : decode cX5_spotsOf 11 = .ok (.aload_n 1, 1) := by decide +kernel
theorem dX5_spotsOf_12 : decode cX5_spotsOf 12 = .ok (.invokevirtual 42, 3) := by decide +kernel
theorem dX5_spotsOf_15 : decode cX5_spotsOf 15 = .ok (.if_icmp .ge 67, 3) := by decide +kernel
theorem dX5_spotsOf_82 : decode cX5_spotsOf 82 = .ok (.aload_n 2, 1) := by decide +kernel
theorem dX5_spotsOf_83 : decode cX5_spotsOf 83 = .ok (.areturn, 1) := by decide +kernel
set_option maxRecDepth 20000 in
theorem ggX5_chosen_Jx4a65c_size_8abf5 : GoodIn wsX5_chosen wsJx4a65c_size_8abf5 := goodIn_r _ [8, 9, 84, 85, 86] (by decide +kernel) (by decide +kernel)
set_option maxRecDepth 20000 in
theorem gX5_chosen_Jx4a65c_size_8abf5 : GoodIn wsX5_chosen (wsV RX5 35 RJx4a65c yJx4a65c_size_8abf5 wsJx4a65c_size_8abf5) := goodIn_app (goodIn_of _ (by decide +kernel)) ggX5_chosen_Jx4a65c_size_8abf5
set_option maxRecDepth 20000 in
theorem ggX5_chosen_J0_length_8abf5 : GoodIn wsX5_chosen wsJ0_length_8abf5 := goodIn_r _ [14, 15, 16, 17, 18, 13, 19, 20, 21, 87, 88, 89, 90] (by decide +kernel) (by decide +kernel)
set_option maxRecDepth 20000 in
theorem gX5_chosen_J0_length_8abf5 : GoodIn wsX5_chosen (wsV RX5 42 RJ0 yJ0_length_8abf5 wsJ0_length_8abf5) := goodIn_app (goodIn_of _ (by decide +kernel)) ggX5_chosen_J0_length_8abf5
theorem dX5_chosen_0 : decode cX5_chosen 0 = .ok (.aload_n 0, 1) := by decide +kernel
theorem dX5_chosen_1 : decode cX5_chosen 1 = .ok (.getfield 20, 3) := by decide +kernel
theorem dX5_chosen_4 : decode cX5_chosen 4 = .ok (.invokevirtual 35, 3) := by decide +kernel
theorem dX5_chosen_7 : decode cX5_chosen 7 = .ok (.istore_n 3, 1) := by decide +kernel
theorem dX5_chosen_8 : decode cX5_chosen 8 = .ok (.iconst 0, 1) := by decide +kernel
theorem dX5_chosen_9 : decode cX5_chosen 9 = .ok (.istore 4, 2) := by decide +kernel
theorem dX5_chosen_11 : decode cX5_chosen 11 = .ok (.iload 4, 2) := by decide +kernel
theorem dX5_chosen_13 : decode cX5_chosen 13 = .ok (.aload_n 1, 1) := by decide +kernel
theorem dX5_chosen_14 : decode cX5_chosen 14 = .ok (.invokevirtual 42, 3) := by decide +kernel
theorem dX5_chosen_17 : decode cX5_chosen 17 = .ok (.iload_n 3, 1) := by decide +kernel
theorem dX5_chosen_18 : decode cX5_chosen 18 = .ok (.imul, 1) := by decide +kernel
theorem dX5_chosen_19 : decode cX5_chosen 19 = .ok (.if_icmp .ge 104, 3) := by decide +kernel
theorem dX5_chosen_123 : decode cX5_chosen 123 = .ok (.aconst_null, 1) := by decide +kernel
theorem dX5_chosen_124 : decode cX5_chosen 124 = .ok (.areturn, 1) := by decide +kernel
set_option maxRecDepth 20000 in
theorem ggX5_isEndNow_X5_chosen : GoodIn wsX5_isEndNow wsX5_chosen := goodIn_r _ [5, 6, 7, 8, 9, 10, 11, 12, 13, 14, 15, 16, 17, 18, 19, 20, 21, 22, 23, 24, 25, 26, 27, 28, 29, 30, 31, 32, 33, 34, 35, 36, 37, 38, 39, 40, 41, 42, 43, 44, 45, 4, 46, 47, 48, 49, 50, 51, 52, 53, 54, 55, 56, 57, 58, 59, 60, 61, 62, 63, 64, 65, 66, 67, 68, 69, 70, 71, 72, 73, 74, 75, 76, 77, 78, 79, 80, 81, 82, 83, 84, 85, 86, 87, 88, 89, 90, 91, 92, 93, 94] (by decide +kernel) (by decide +kernel)
set_option maxRecDepth 20000 in
theorem gX5_isEndNow_X5_chosen : GoodIn wsX5_isEndNow (wsV RX5 91 RX5 yX5_chosen wsX5_chosen) := goodIn_app (goodIn_of _ (by decide +kernel)) ggX5_isEndNow_X5_chosen
theorem dX5_isEndNow_0 : decode cX5_isEndNow 0 = .ok (.aload_n 0, 1) := by decide +kernel
theorem dX5_isEndNow_1 : decode cX5_isEndNow 1 = .ok (.aload_n 1, 1) := by decide +kernel
theorem dX5_isEndNow_2 : decode cX5_isEndNow 2 = .ok (.iconst 0, 1) := by decide +kernel
theorem dX5_isEndNow_3 : decode cX5_isEndNow 3 = .ok (.invokevirtual 91, 3) := by decide +kernel
theorem dX5_isEndNow_6 : decode cX5_isEndNow 6 = .ok (.ifnonnull 7, 3) := by decide +kernel
theorem dX5_isEndNow_9 : decode cX5_isEndNow 9 = .ok (.iconst 1, 1) := by decide +kernel
theorem dX5_isEndNow_10 : decode cX5_isEndNow 10 = .ok (.goto 4, 3) := by decide +kernel
theorem dX5_isEndNow_14 : decode cX5_isEndNow 14 = .ok (.ireturn, 1) := by decide +kernel
set_option maxRecDepth 20000 in
theorem ggX5_rewritten_X5_chosen : GoodIn wsX5_rewritten wsX5_chosen := goodIn_r _ [5, 6, 7, 8, 9, 10, 11, 12, 13, 14, 15, 16, 17, 18, 19, 20, 21, 22, 23, 24, 25, 26, 27, 28, 29, 30, 31, 32, 33, 34, 35, 36, 37, 38, 39, 40, 41, 42, 43, 44, 45, 4, 46, 47, 48, 49, 50, 51, 52, 53, 54, 55, 56, 57, 58, 59, 60, 61, 62, 63, 64, 65, 66, 67, 68, 69, 70, 71, 72, 73, 74, 75, 76, 77, 78, 79, 80, 302, 303, 304, 305, 306, 307, 308, 309, 310, 311, 312, 313, 314, 315] (by decide +kernel) (by decide +kernel)
set_option maxRecDepth 20000 in
theorem gX5_rewritten_X5_chosen : GoodIn wsX5_rewritten (wsV RX5 91 RX5 yX5_chosen wsX5_chosen) := goodIn_app (goodIn_of _ (by decide +kernel)) ggX5_rewritten_X5_chosen
theorem dX5_rewritten_0 : decode cX5_rewritten 0 = .ok (.aload_n 1, 1) := by decide +kernel
theorem dX5_rewritten_1 : decode cX5_rewritten 1 = .ok (.astore 5, 2) := by decide +kernel
theorem dX5_rewritten_3 : decode cX5_rewritten 3 = .ok (.iconst 0, 1) := by decide +kernel
theorem dX5_rewritten_4 : decode cX5_rewritten 4 = .ok (.istore 6, 2) := by decide +kernel
theorem dX5_rewritten_6 : decode cX5_rewritten 6 = .ok (.iload 6, 2) := by decide +kernel
theorem dX5_rewritten_8 : decode cX5_rewritten 8 = .ok (.iload_n 3, 1) := by decide +kernel
theorem dX5_rewritten_9 : decode cX5_rewritten 9 = .ok (.if_icmp .ge 60, 3) := by decide +kernel
theorem dX5_rewritten_12 : decode cX5_rewritten 12 = .ok (.aload_n 0, 1) := by decide +kernel
theorem dX5_rewritten_13 : decode cX5_rewritten 13 = .ok (.aload 5, 2) := by decide +kernel
theorem dX5_rewritten_15 : decode cX5_rewritten 15 = .ok (.iload_n 2, 1) := by decide +kernel
theorem dX5_rewritten_16 : decode cX5_rewritten 16 = .ok (.invokevirtual 91, 3) := by decide +kernel
theorem dX5_rewritten_19 : decode cX5_rewritten 19 = .ok (.astore 7, 2) := by decide +kernel
theorem dX5_rewritten_21 : decode cX5_rewritten 21 = .ok (.aload 7, 2) := by decide +kernel
theorem dX5_rewritten_23 : decode cX5_rewritten 23 = .ok (.ifnull 19, 3) := by decide +kernel
theorem dX5_rewritten_42 : decode cX5_rewritten 42 = .ok (.aload 5, 2) := by decide +kernel
theorem dX5_rewritten_44 : decode cX5_rewritten 44 = .ok (.areturn, 1) := by decide +kernel
set_option maxRecDepth 20000 in
theorem ggX5_formOf_X5_rewritten : GoodIn wsX5_formOf wsX5_rewritten := goodIn_r _ [6, 7, 8, 9, 5, 10, 11, 12, 1, 13, 14, 15, 16, 17, 18, 19, 20, 21, 22, 23, 24, 25, 26, 27, 28, 29, 30, 31, 32, 33, 34, 35, 36, 37, 38, 39, 40, 41, 42, 43, 44, 45, 46, 47, 48, 49, 50, 51, 52, 53, 54, 55, 56, 57, 58, 59, 60, 61, 62, 63, 64, 65, 66, 67, 68, 69, 70, 71, 72, 73, 74, 75, 76, 77, 78, 79, 80, 81, 82, 83, 84, 85, 86, 87, 88, 89, 90, 91, 92, 93, 94, 95, 96, 97, 98, 99, 100, 101, 102, 103, 104, 105, 106, 107, 108, 109, 110, 111, 112, 113, 114, 115, 116, 117, 118, 119, 120, 121, 122, 123, 124, 125, 126, 127, 128, 129, 130, 131, 132, 133, 134, 135, 136, 137, 138, 139, 140, 141, 142, 143, 144, 145, 146, 147, 148, 149, 150, 151, 152, 153, 154, 155, 156, 157, 158, 159, 160, 161, 162, 163, 164, 165, 166, 167, 168, 169, 170, 171, 172, 173, 174, 175, 176, 177, 178, 179, 180, 181, 182, 183, 184, 185, 186, 187, 188, 189, 190, 191, 192, 193, 194, 195, 196, 197, 198, 199, 200, 201, 202, 203, 204, 205, 206, 207, 208, 209, 210, 211, 212, 213, 214, 215, 216, 217, 218, 219, 220, 221, 222, 223, 224, 225, 226, 227, 228, 229, 230, 231, 232, 233, 234, 235, 236, 237, 238, 239, 240, 241, 242, 243, 244, 245, 246, 247, 248, 249, 250, 251, 252, 253, 254, 255, 256, 257, 258, 259, 260, 261, 262, 263, 264, 265, 266, 267, 268, 269, 270, 271, 272, 273, 274, 275, 276, 277, 278, 279, 280, 281, 282, 283, 284, 285, 286, 287, 288, 289, 290, 291, 292, 293, 294, 295, 296, 297, 298, 299, 300, 301, 302, 303, 304, 305, 306, 307, 308, 309, 310, 311, 312, 313, 314, 315, 316, 317, 318, 319, 320, 321, 322, 323] (by decide +kernel) (by decide +kernel)
set_option maxRecDepth 20000 in
theorem gX5_formOf_X5_rewritten : GoodIn wsX5_formOf (wsV RX5 99 RX5 yX5_rewritten wsX5_rewritten) := goodIn_app (goodIn_of _ (by decide +kernel)) ggX5_formOf_X5_rewritten
theorem dX5_formOf_0 : decode cX5_formOf 0 = .ok (.aload_n 0, 1) := by decide +kernel
theorem dX5_formOf_1 : decode cX5_formOf 1 = .ok (.aload_n 1, 1) := by decide +kernel
theorem dX5_formOf_2 : decode cX5_formOf 2 = .ok (.iconst 0, 1) := by decide +kernel
theorem dX5_formOf_3 : decode cX5_formOf 3 = .ok (.bipush 40, 2) := by decide +kernel
theorem dX5_formOf_5 : decode cX5_formOf 5 = .ok (.iconst 1, 1) := by decide +kernel
theorem dX5_formOf_6 : decode cX5_formOf 6 = .ok (.newarray .int, 2) := by decide +kernel
theorem dX5_formOf_8 : decode cX5_formOf 8 = .ok (.invokevirtual 99, 3) := by decide +kernel
theorem dX5_formOf_11 : decode cX5_formOf 11 = .ok (.areturn, 1) := by decide +kernel
set_option maxRecDepth 20000 in
theorem ggX5_allPeaks_Jx4a65c_init_da8c8 : GoodIn wsX5_allPeaks wsJx4a65c_init_da8c8 := goodIn_r _ [13, 14, 15, 16, 17, 18, 19, 20, 21, 22, 23, 24, 25, 26, 27, 343, 344, 345] (by decide +kernel) (by decide +kernel)
set_option maxRecDepth 20000 in
theorem gX5_allPeaks_Jx4a65c_init_da8c8 : GoodIn wsX5_allPeaks (wsJx4a65c_init_da8c8) := ggX5_allPeaks_Jx4a65c_init_da8c8
set_option maxRecDepth 20000 in
theorem ggX5_allPeaks_Jx4a65c_size_8abf5 : GoodIn wsX5_allPeaks wsJx4a65c_size_8abf5 := goodIn_r _ [31, 32, 343, 344, 345] (by decide +kernel) (by decide +kernel)
set_option maxRecDepth 20000 in
theorem gX5_allPeaks_Jx4a65c_size_8abf5 : GoodIn wsX5_allPeaks (wsV RX5 35 RJx4a65c yJx4a65c_size_8abf5 wsJx4a65c_size_8abf5) := goodIn_app (goodIn_of _ (by decide +kernel)) ggX5_allPeaks_Jx4a65c_size_8abf5
theorem dX5_allPeaks_0 : decode cX5_allPeaks 0 = .ok (.new 17, 3) := by decide +kernel
theorem dX5_allPeaks_3 : decode cX5_allPeaks 3 = .ok (.dup, 1) := by decide +kernel
theorem dX5_allPeaks_4 : decode cX5_allPeaks 4 = .ok (.invokespecial 19, 3) := by decide +kernel
theorem dX5_allPeaks_7 : decode cX5_allPeaks 7 = .ok (.astore_n 1, 1) := by decide +kernel
theorem dX5_allPeaks_8 : decode cX5_allPeaks 8 = .ok (.iconst 0, 1) := by decide +kernel
theorem dX5_allPeaks_9 : decode cX5_allPeaks 9 = .ok (.istore_n 2, 1) := by decide +kernel
theorem dX5_allPeaks_10 : decode cX5_allPeaks 10 = .ok (.iload_n 2, 1) := by decide +kernel
theorem dX5_allPeaks_11 : decode cX5_allPeaks 11 = .ok (.aload_n 0, 1) := by decide +kernel
theorem dX5_allPeaks_12 : decode cX5_allPeaks 12 = .ok (.getfield 20, 3) := by decide +kernel
theorem dX5_allPeaks_15 : decode cX5_allPeaks 15 = .ok (.invokevirtual 35, 3) := by decide +kernel
theorem dX5_allPeaks_18 : decode cX5_allPeaks 18 = .ok (.if_icmp .ge 317, 3) := by decide +kernel
theorem dX5_allPeaks_335 : decode cX5_allPeaks 335 = .ok (.aload_n 1, 1) := by decide +kernel
theorem dX5_allPeaks_336 : decode cX5_allPeaks 336 = .ok (.areturn, 1) := by decide +kernel
set_option maxRecDepth 20000 in
theorem ggX5_unmetNow_X5_allPeaks : GoodIn wsX5_unmetNow wsX5_allPeaks := goodIn_r _ [6, 7, 8, 9, 10, 11, 12, 13, 14, 15, 16, 17, 18, 19, 20, 21, 22, 23, 24, 25, 26, 27, 28, 29, 30, 31, 32, 33, 34, 35, 36, 37, 38, 39, 40, 41, 42, 43, 44, 45, 46, 47, 48, 49, 50, 51, 52, 53, 54, 55, 56, 57, 58, 59, 60, 61, 62, 63, 64, 65, 66, 67, 68, 69, 70, 71, 72, 73, 74, 75, 76, 77, 78, 79, 80, 81, 82, 83, 84, 85, 86, 87, 88, 89, 90, 91, 92, 93, 94, 95, 96, 97, 98, 99, 100, 101, 102, 103, 104, 105, 106, 107, 108, 109, 110, 111, 112, 113, 114, 115, 116, 117, 118, 119, 120, 121, 122, 123, 124, 125, 126, 127, 128, 129, 130, 131, 132, 133, 134, 135, 136, 137, 138, 139, 140, 141, 142, 143, 144, 145, 146, 147, 148, 149, 150, 151, 152, 153, 154, 155, 156, 157, 158, 159, 5, 160, 161, 162, 163, 164, 165, 166, 167, 168, 169, 170, 171, 172, 173, 174, 175, 176, 177, 178, 179, 180, 181, 182, 183, 184, 185, 186, 187, 188, 189, 190, 191, 192, 193, 194, 195, 196, 197, 198, 199, 200, 201, 202, 203, 204, 205, 206, 207, 208, 209, 210, 211, 212, 213, 214, 215, 216, 217, 218, 219, 220, 221, 222, 223, 224, 225, 226, 227, 228, 229, 230, 231, 232, 233, 234, 235, 236, 237, 238, 239, 240, 241, 242, 243, 244, 245, 246, 247, 248, 249, 250, 251, 252, 253, 254, 255, 256, 257, 258, 259, 260, 261, 262, 263, 264, 265, 266, 267, 268, 269, 270, 271, 272, 273, 274, 275, 276, 277, 278, 279, 280, 281, 282, 283, 284, 285, 286, 287, 288, 289, 290, 291, 292, 293, 294, 295, 296, 297, 298, 299, 300, 301, 302, 303, 304, 305, 306, 307, 308, 309, 310, 311, 312, 313, 314, 315, 316, 317, 318, 319, 320, 321, 322, 323, 324, 325, 326, 327, 328, 329, 330, 331, 332, 333, 334, 335, 336, 337, 338, 339, 340, 341, 342, 343, 344, 345, 346, 347, 377, 378, 379, 380, 381, 382, 383, 384, 385, 386, 387, 388, 389, 390, 391, 392, 393, 394] (by decide +kernel) (by decide +kernel)
set_option maxRecDepth 20000 in
theorem gX5_unmetNow_X5_allPeaks : GoodIn wsX5_unmetNow (wsV RX5 110 RX5 yX5_allPeaks wsX5_allPeaks) := goodIn_app (goodIn_of _ (by decide +kernel)) ggX5_unmetNow_X5_allPeaks
set_option maxRecDepth 20000 in
theorem ggX5_unmetNow_Jx4a65c_size_8abf5 : GoodIn wsX5_unmetNow wsJx4a65c_size_8abf5 := goodIn_r _ [37, 38, 377, 378, 379] (by decide +kernel) (by decide +kernel)
set_option maxRecDepth 20000 in
theorem gX5_unmetNow_Jx4a65c_size_8abf5 : GoodIn wsX5_unmetNow (wsV RX5 35 RJx4a65c yJx4a65c_size_8abf5 wsJx4a65c_size_8abf5) := goodIn_app (goodIn_of _ (by decide +kernel)) ggX5_unmetNow_Jx4a65c_size_8abf5
theorem dX5_unmetNow_0 : decode cX5_unmetNow 0 = .ok (.aload_n 0, 1) := by decide +kernel
theorem dX5_unmetNow_1 : decode cX5_unmetNow 1 = .ok (.invokevirtual 110, 3) := by decide +kernel
theorem dX5_unmetNow_4 : decode cX5_unmetNow 4 = .ok (.astore_n 1, 1) := by decide +kernel
theorem dX5_unmetNow_5 : decode cX5_unmetNow 5 = .ok (.iconst 0, 1) := by decide +kernel
theorem dX5_unmetNow_6 : decode cX5_unmetNow 6 = .ok (.istore_n 2, 1) := by decide +kernel
theorem dX5_unmetNow_7 : decode cX5_unmetNow 7 = .ok (.iload_n 2, 1) := by decide +kernel
theorem dX5_unmetNow_8 : decode cX5_unmetNow 8 = .ok (.aload_n 1, 1) := by decide +kernel
theorem dX5_unmetNow_9 : decode cX5_unmetNow 9 = .ok (.invokevirtual 35, 3) := by decide +kernel
theorem dX5_unmetNow_12 : decode cX5_unmetNow 12 = .ok (.if_icmp .ge 26, 3) := by decide +kernel
theorem dX5_unmetNow_38 : decode cX5_unmetNow 38 = .ok (.iconst (-1), 1) := by decide +kernel
theorem dX5_unmetNow_39 : decode cX5_unmetNow 39 = .ok (.ireturn, 1) := by decide +kernel
set_option maxRecDepth 20000 in
theorem ggX5_type_X5_isIn : GoodIn wsX5_type wsX5_isIn := goodIn_r _ [9] (by decide +kernel) (by decide +kernel)
set_option maxRecDepth 20000 in
theorem gX5_type_X5_isIn : GoodIn wsX5_type (va_wsS RX5 31 yX5_isIn wsX5_isIn) := goodIn_app (goodIn_of _ (by decide +kernel)) ggX5_type_X5_isIn
set_option maxRecDepth 20000 in
theorem ggX5_type_J4_init_da8c8 : GoodIn wsX5_type wsJ4_init_da8c8 := goodIn_r _ [12, 13, 14, 15, 16, 17, 18, 19, 20, 21, 22, 23, 24, 25, 26, 27, 28, 29, 30, 31, 264, 265, 266, 267] (by decide +kernel) (by decide +kernel)
set_option maxRecDepth 20000 in
theorem gX5_type_J4_init_da8c8 : GoodIn wsX5_type (wsJ4_init_da8c8) := ggX5_type_J4_init_da8c8
set_option maxRecDepth 20000 in
theorem ggX5_type_J4_append_15ec4 : GoodIn wsX5_type wsJ4_append_15ec4 := goodIn_r _ [35, 36, 37, 38, 39, 15, 40, 41, 42, 43, 44, 45, 46, 22, 47, 48, 49, 50, 51, 23, 52, 53, 54, 55, 56, 57, 58, 59, 60, 61, 62, 63, 64, 65, 66, 67, 68, 69, 70, 71, 72, 73, 74, 75, 76, 77, 78, 79, 21, 80, 81, 82, 83, 84, 85, 86, 87, 88, 89, 90, 91, 20, 92, 93, 26, 94, 95, 96, 97, 98, 99, 100, 101, 102, 103, 104, 105, 106, 107, 108, 109, 110, 111, 112, 113, 114, 115, 116, 117, 118, 119, 120, 121, 122, 123, 124, 125, 126, 127, 128, 129, 130, 131, 132, 133, 134, 135, 136, 137, 138, 139, 140, 141, 142, 24, 25, 27, 28, 29, 30, 31, 143, 144, 145, 146, 147, 148, 149, 150, 151, 152, 153, 154, 155, 156, 157, 158, 159, 160, 161, 162, 163, 164, 264, 265, 266, 267, 275, 276, 277, 278] (by decide +kernel) (by decide +kernel)
set_option maxRecDepth 20000 in
theorem gX5_type_J4_append_15ec4 : GoodIn wsX5_type (wsV RX5 56 RJ4 yJ4_append_15ec4 wsJ4_append_15ec4) := goodIn_app (goodIn_of _ (by decide +kernel)) ggX5_type_J4_append_15ec4
set_option maxRecDepth 20000 in
theorem ggX5_type_J0_charAt_5068e : GoodIn wsX5_type wsJ0_charAt_5068e := goodIn_r _ [168, 120, 169, 170, 171, 104, 172, 125, 126, 173, 174, 145, 175, 176, 177, 178, 106, 179, 180, 109, 181, 182, 183, 26, 184, 185, 186, 187, 99, 100, 101, 188, 189, 190, 191, 95, 114, 115, 275, 276, 277, 278] (by decide +kernel) (by decide +kernel)
set_option maxRecDepth 20000 in
theorem gX5_type_J0_charAt_5068e : GoodIn wsX5_type (wsV RX5 45 RJ0 yJ0_charAt_5068e wsJ0_charAt_5068e) := goodIn_app (goodIn_of _ (by decide +kernel)) ggX5_type_J0_charAt_5068e
set_option maxRecDepth 20000 in
theorem ggX5_type_J4_append_cf468 : GoodIn wsX5_type wsJ4_append_cf468 := goodIn_r _ [195, 196, 197, 38, 198, 15, 199, 41, 22, 47, 48, 49, 50, 51, 23, 52, 53, 54, 55, 56, 57, 58, 59, 60, 61, 62, 63, 64, 65, 66, 67, 68, 69, 70, 71, 72, 73, 74, 75, 76, 77, 78, 79, 21, 80, 81, 82, 83, 84, 85, 86, 87, 88, 89, 90, 91, 20, 200, 201, 145, 202, 138, 139, 140, 141, 142, 24, 25, 26, 27, 28, 29, 30, 31, 143, 144, 146, 147, 148, 149, 150, 151, 152, 99, 100, 101, 153, 154, 104, 155, 106, 156, 157, 109, 158, 111, 112, 113, 95, 114, 115, 203, 204, 205, 185, 186, 187, 188, 177, 178, 179, 180, 181, 264, 265, 266, 267] (by decide +kernel) (by decide +kernel)
