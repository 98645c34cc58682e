set_option maxRecDepth 20000 in
theorem gX5_type_J4_append_cf468 : GoodIn wsX5_type (wsV RX5 121 RJ4 yJ4_append_cf468 wsJ4_append_cf468) := goodIn_app (goodIn_of _ (by decide +kernel)) ggX5_type_J4_append_cf468
set_option maxRecDepth 20000 in
theorem ggX5_type_J4_toString_0e30d : GoodIn wsX5_type wsJ4_toString_0e30d := goodIn_r _ [209, 210, 211, 104, 212, 213, 214, 215, 216, 217, 218, 18, 19, 126, 120, 125, 219, 220, 221, 222, 223, 15, 224, 22, 225, 226, 227, 228, 229, 4, 230, 231, 38, 232, 233, 41, 234, 88, 89, 90, 91, 20, 23, 235, 236, 72, 237, 74, 75, 76, 77, 78, 79, 238, 239, 240, 21, 80, 81, 64, 82, 83, 84, 85, 86, 241, 242, 243, 244, 3, 245, 246, 26, 247, 248, 249, 250, 150, 151, 152, 99, 100, 101, 153, 154, 155, 106, 156, 157, 109, 158, 189, 190, 191, 95, 114, 115, 28, 29, 30, 31, 251, 252, 253, 254, 275, 276, 277, 278, 264, 265, 266, 267] (by decide +kernel) (by decide +kernel)
set_option maxRecDepth 20000 in
theorem gX5_type_J4_toString_0e30d : GoodIn wsX5_type (wsV RX5 63 RJ4 yJ4_toString_0e30d wsJ4_toString_0e30d) := goodIn_app (goodIn_of _ (by decide +kernel)) ggX5_type_J4_toString_0e30d
set_option maxRecDepth 20000 in
theorem ggX5_type_X5_isNo : GoodIn wsX5_type wsX5_isNo := goodIn_r _ [257, 6, 7, 8, 9] (by decide +kernel) (by decide +kernel)
set_option maxRecDepth 20000 in
theorem gX5_type_X5_isNo : GoodIn wsX5_type (va_wsS RX5 124 yX5_isNo wsX5_isNo) := goodIn_app (goodIn_of _ (by decide +kernel)) ggX5_type_X5_isNo
set_option maxRecDepth 20000 in
theorem ggX5_type_J0_length_8abf5 : GoodIn wsX5_type wsJ0_length_8abf5 := goodIn_r _ [119, 120, 121, 122, 123, 104, 124, 125, 126, 275, 276, 277, 278] (by decide +kernel) (by decide +kernel)
set_option maxRecDepth 20000 in
theorem gX5_type_J0_length_8abf5 : GoodIn wsX5_type (wsV RX5 42 RJ0 yJ0_length_8abf5 wsJ0_length_8abf5) := goodIn_app (goodIn_of _ (by decide +kernel)) ggX5_type_J0_length_8abf5
set_option maxRecDepth 20000 in
theorem ggX5_type_X5_fails : GoodIn wsX5_type wsX5_fails := goodIn_r _ [262, 263, 268, 269, 270, 271, 272, 273, 274] (by decide +kernel) (by decide +kernel)
set_option maxRecDepth 20000 in
theorem gX5_type_X5_fails : GoodIn wsX5_type (wsV RX5 127 RX5 yX5_fails wsX5_fails) := goodIn_app (goodIn_of _ (by decide +kernel)) ggX5_type_X5_fails
theorem dX5_type_0 : decode cX5_type 0 = .ok (.iconst 5, 1) := by decide +kernel
theorem dX5_type_1 : decode cX5_type 1 = .ok (.newarray .int, 2) := by decide +kernel
theorem dX5_type_3 : decode cX5_type 3 = .ok (.dup, 1) := by decide +kernel
theorem dX5_type_4 : decode cX5_type 4 = .ok (.iconst 0, 1) := by decide +kernel
theorem dX5_type_5 : decode cX5_type 5 = .ok (.iload_n 2, 1) := by decide +kernel
theorem dX5_type_6 : decode cX5_type 6 = .ok (.iastore, 1) := by decide +kernel
theorem dX5_type_7 : decode cX5_type 7 = .ok (.dup, 1) := by decide +kernel
theorem dX5_type_8 : decode cX5_type 8 = .ok (.iconst 1, 1) := by decide +kernel
theorem dX5_type_9 : decode cX5_type 9 = .ok (.iload_n 3, 1) := by decide +kernel
theorem dX5_type_10 : decode cX5_type 10 = .ok (.iastore, 1) := by decide +kernel
theorem dX5_type_11 : decode cX5_type 11 = .ok (.dup, 1) := by decide +kernel
theorem dX5_type_12 : decode cX5_type 12 = .ok (.iconst 2, 1) := by decide +kernel
theorem dX5_type_13 : decode cX5_type 13 = .ok (.iload 4, 2) := by decide +kernel
theorem dX5_type_15 : decode cX5_type 15 = .ok (.iastore, 1) := by decide +kernel
theorem dX5_type_16 : decode cX5_type 16 = .ok (.dup, 1) := by decide +kernel
theorem dX5_type_17 : decode cX5_type 17 = .ok (.iconst 3, 1) := by decide +kernel
theorem dX5_type_18 : decode cX5_type 18 = .ok (.iload 5, 2) := by decide +kernel
theorem dX5_type_20 : decode cX5_type 20 = .ok (.iastore, 1) := by decide +kernel
theorem dX5_type_21 : decode cX5_type 21 = .ok (.dup, 1) := by decide +kernel
theorem dX5_type_22 : decode cX5_type 22 = .ok (.iconst 4, 1) := by decide +kernel
theorem dX5_type_23 : decode cX5_type 23 = .ok (.iload 6, 2) := by decide +kernel
theorem dX5_type_25 : decode cX5_type 25 = .ok (.iastore, 1) := by decide +kernel
theorem dX5_type_26 : decode cX5_type 26 = .ok (.astore 7, 2) := by decide +kernel
theorem dX5_type_28 : decode cX5_type 28 = .ok (.iconst 0, 1) := by decide +kernel
theorem dX5_type_29 : decode cX5_type 29 = .ok (.istore 8, 2) := by decide +kernel
theorem dX5_type_31 : decode cX5_type 31 = .ok (.ldc 9, 2) := by decide +kernel
theorem dX5_type_33 : decode cX5_type 33 = .ok (.astore 9, 2) := by decide +kernel
theorem dX5_type_35 : decode cX5_type 35 = .ok (.aload 7, 2) := by decide +kernel
theorem dX5_type_37 : decode cX5_type 37 = .ok (.astore 10, 2) := by decide +kernel
theorem dX5_type_39 : decode cX5_type 39 = .ok (.aload 10, 2) := by decide +kernel
theorem dX5_type_41 : decode cX5_type 41 = .ok (.arraylength, 1) := by decide +kernel
theorem dX5_type_42 : decode cX5_type 42 = .ok (.istore 11, 2) := by decide +kernel
theorem dX5_type_44 : decode cX5_type 44 = .ok (.iconst 0, 1) := by decide +kernel
theorem dX5_type_45 : decode cX5_type 45 = .ok (.istore 12, 2) := by decide +kernel
theorem dX5_type_47 : decode cX5_type 47 = .ok (.iload 12, 2) := by decide +kernel
theorem dX5_type_49 : decode cX5_type 49 = .ok (.iload 11, 2) := by decide +kernel
theorem dX5_type_51 : decode cX5_type 51 = .ok (.if_icmp .ge 73, 3) := by decide +kernel
theorem dX5_type_54 : decode cX5_type 54 = .ok (.aload 10, 2) := by decide +kernel
theorem dX5_type_56 : decode cX5_type 56 = .ok (.iload 12, 2) := by decide +kernel
theorem dX5_type_58 : decode cX5_type 58 = .ok (.iaload, 1) := by decide +kernel
theorem dX5_type_59 : decode cX5_type 59 = .ok (.istore 13, 2) := by decide +kernel
theorem dX5_type_61 : decode cX5_type 61 = .ok (.iload 8, 2) := by decide +kernel
theorem dX5_type_63 : decode cX5_type 63 = .ok (.iload 13, 2) := by decide +kernel
theorem dX5_type_65 : decode cX5_type 65 = .ok (.iconst (-1), 1) := by decide +kernel
theorem dX5_type_66 : decode cX5_type 66 = .ok (.iconst 3, 1) := by decide +kernel
theorem dX5_type_67 : decode cX5_type 67 = .ok (.invokestatic 31, 3) := by decide +kernel
theorem dX5_type_70 : decode cX5_type 70 = .ok (.ifCond .ne 7, 3) := by decide +kernel
theorem dX5_type_73 : decode cX5_type 73 = .ok (.iconst 1, 1) := by decide +kernel
theorem dX5_type_74 : decode cX5_type 74 = .ok (.goto 4, 3) := by decide +kernel
theorem dX5_type_77 : decode cX5_type 77 = .ok (.iconst 0, 1) := by decide +kernel
theorem dX5_type_78 : decode cX5_type 78 = .ok (.ior, 1) := by decide +kernel
theorem dX5_type_79 : decode cX5_type 79 = .ok (.istore 8, 2) := by decide +kernel
theorem dX5_type_81 : decode cX5_type 81 = .ok (.iload 13, 2) := by decide +kernel
theorem dX5_type_83 : decode cX5_type 83 = .ok (.iconst 0, 1) := by decide +kernel
theorem dX5_type_84 : decode cX5_type 84 = .ok (.iconst 3, 1) := by decide +kernel
theorem dX5_type_85 : decode cX5_type 85 = .ok (.invokestatic 31, 3) := by decide +kernel
theorem dX5_type_88 : decode cX5_type 88 = .ok (.ifCond .eq 30, 3) := by decide +kernel
theorem dX5_type_91 : decode cX5_type 91 = .ok (.new 49, 3) := by decide +kernel
theorem dX5_type_94 : decode cX5_type 94 = .ok (.dup, 1) := by decide +kernel
theorem dX5_type_95 : decode cX5_type 95 = .ok (.invokespecial 51, 3) := by decide +kernel
theorem dX5_type_98 : decode cX5_type 98 = .ok (.aload 9, 2) := by decide +kernel
theorem dX5_type_100 : decode cX5_type 100 = .ok (.invokevirtual 56, 3) := by decide +kernel
theorem dX5_type_103 : decode cX5_type 103 = .ok (.ldc 119, 2) := by decide +kernel
theorem dX5_type_105 : decode cX5_type 105 = .ok (.iload 13, 2) := by decide +kernel
theorem dX5_type_107 : decode cX5_type 107 = .ok (.invokevirtual 45, 3) := by decide +kernel
theorem dX5_type_110 : decode cX5_type 110 = .ok (.invokevirtual 121, 3) := by decide +kernel
theorem dX5_type_113 : decode cX5_type 113 = .ok (.invokevirtual 63, 3) := by decide +kernel
theorem dX5_type_116 : decode cX5_type 116 = .ok (.astore 9, 2) := by decide +kernel
theorem dX5_type_118 : decode cX5_type 118 = .ok (.iinc 12 1, 3) := by decide +kernel
theorem dX5_type_121 : decode cX5_type 121 = .ok (.goto (-74), 3) := by decide +kernel
theorem dX5_type_124 : decode cX5_type 124 = .ok (.aload_n 0, 1) := by decide +kernel
theorem dX5_type_125 : decode cX5_type 125 = .ok (.iload_n 1, 1) := by decide +kernel
theorem dX5_type_126 : decode cX5_type 126 = .ok (.invokestatic 124, 3) := by decide +kernel
theorem dX5_type_129 : decode cX5_type 129 = .ok (.iload 8, 2) := by decide +kernel
theorem dX5_type_131 : decode cX5_type 131 = .ok (.iload_n 1, 1) := by decide +kernel
theorem dX5_type_132 : decode cX5_type 132 = .ok (.invokestatic 124, 3) := by decide +kernel
theorem dX5_type_135 : decode cX5_type 135 = .ok (.ifCond .ne 27, 3) := by decide +kernel
theorem dX5_type_138 : decode cX5_type 138 = .ok (.aload_n 0, 1) := by decide +kernel
theorem dX5_type_139 : decode cX5_type 139 = .ok (.getfield 11, 3) := by decide +kernel
theorem dX5_type_142 : decode cX5_type 142 = .ok (.iload_n 1, 1) := by decide +kernel
theorem dX5_type_143 : decode cX5_type 143 = .ok (.aaload, 1) := by decide +kernel
theorem dX5_type_144 : decode cX5_type 144 = .ok (.invokevirtual 42, 3) := by decide +kernel
theorem dX5_type_147 : decode cX5_type 147 = .ok (.aload 9, 2) := by decide +kernel
theorem dX5_type_149 : decode cX5_type 149 = .ok (.invokevirtual 42, 3) := by decide +kernel
theorem dX5_type_152 : decode cX5_type 152 = .ok (.iadd, 1) := by decide +kernel
theorem dX5_type_153 : decode cX5_type 153 = .ok (.bipush 32, 2) := by decide +kernel
theorem dX5_type_155 : decode cX5_type 155 = .ok (.if_icmp .le 7, 3) := by decide +kernel
theorem dX5_type_162 : decode cX5_type 162 = .ok (.iconst 0, 1) := by decide +kernel
theorem dX5_type_163 : decode cX5_type 163 = .ok (.invokevirtual 127, 3) := by decide +kernel
theorem dX5_type_166 : decode cX5_type 166 = .ok (.ifCond .eq 5, 3) := by decide +kernel
theorem dX5_type_169 : decode cX5_type 169 = .ok (.iconst 0, 1) := by decide +kernel
theorem dX5_type_170 : decode cX5_type 170 = .ok (.ireturn, 1) := by decide +kernel
theorem dX5_type_171 : decode cX5_type 171 = .ok (.new 49, 3) := by decide +kernel
theorem dX5_type_174 : decode cX5_type 174 = .ok (.dup, 1) := by decide +kernel
theorem dX5_type_175 : decode cX5_type 175 = .ok (.invokespecial 51, 3) := by decide +kernel
theorem dX5_type_178 : decode cX5_type 178 = .ok (.aload_n 0, 1) := by decide +kernel
theorem dX5_type_179 : decode cX5_type 179 = .ok (.getfield 11, 3) := by decide +kernel
theorem dX5_type_182 : decode cX5_type 182 = .ok (.iload_n 1, 1) := by decide +kernel
theorem dX5_type_183 : decode cX5_type 183 = .ok (.dup2_x1, 1) := by decide +kernel
theorem dX5_type_184 : decode cX5_type 184 = .ok (.aaload, 1) := by decide +kernel
theorem dX5_type_185 : decode cX5_type 185 = .ok (.invokevirtual 56, 3) := by decide +kernel
theorem dX5_type_188 : decode cX5_type 188 = .ok (.aload 9, 2) := by decide +kernel
theorem dX5_type_190 : decode cX5_type 190 = .ok (.invokevirtual 56, 3) := by decide +kernel
theorem dX5_type_193 : decode cX5_type 193 = .ok (.invokevirtual 63, 3) := by decide +kernel
theorem dX5_type_196 : decode cX5_type 196 = .ok (.aastore, 1) := by decide +kernel
theorem dX5_type_197 : decode cX5_type 197 = .ok (.aload_n 0, 1) := by decide +kernel
theorem dX5_type_198 : decode cX5_type 198 = .ok (.getfield 11, 3) := by decide +kernel
theorem dX5_type_201 : decode cX5_type 201 = .ok (.iload_n 1, 1) := by decide +kernel
theorem dX5_type_202 : decode cX5_type 202 = .ok (.aaload, 1) := by decide +kernel
theorem dX5_type_203 : decode cX5_type 203 = .ok (.invokevirtual 42, 3) := by decide +kernel
theorem dX5_type_206 : decode cX5_type 206 = .ok (.ireturn, 1) := by decide +kernel
set_option maxRecDepth 20000 in
theorem ggX5_clear_X5_isNo : GoodIn wsX5_clear wsX5_isNo := goodIn_r _ [5, 6, 7, 4, 8] (by decide +kernel) (by decide +kernel)
set_option maxRecDepth 20000 in
theorem gX5_clear_X5_isNo : GoodIn wsX5_clear (va_wsS RX5 124 yX5_isNo wsX5_isNo) := goodIn_app (goodIn_of _ (by decide +kernel)) ggX5_clear_X5_isNo
set_option maxRecDepth 20000 in
theorem ggX5_clear_X5_fails : GoodIn wsX5_clear wsX5_fails := goodIn_r _ [12, 13, 26, 27, 28, 29, 30, 31, 32] (by decide +kernel) (by decide +kernel)
set_option maxRecDepth 20000 in
theorem gX5_clear_X5_fails : GoodIn wsX5_clear (wsV RX5 127 RX5 yX5_fails wsX5_fails) := goodIn_app (goodIn_of _ (by decide +kernel)) ggX5_clear_X5_fails
set_option maxRecDepth 20000 in
theorem ggX5_clear_J0_length_8abf5 : GoodIn wsX5_clear wsJ0_length_8abf5 := goodIn_r _ [18, 19, 20, 21, 22, 17, 23, 24, 25, 33, 34, 35, 36] (by decide +kernel) (by decide +kernel)
set_option maxRecDepth 20000 in
theorem gX5_clear_J0_length_8abf5 : GoodIn wsX5_clear (wsV RX5 42 RJ0 yJ0_length_8abf5 wsJ0_length_8abf5) := goodIn_app (goodIn_of _ (by decide +kernel)) ggX5_clear_J0_length_8abf5
theorem dX5_clear_0 : decode cX5_clear 0 = .ok (.aload_n 0, 1) := by decide +kernel
theorem dX5_clear_1 : decode cX5_clear 1 = .ok (.iload_n 1, 1) := by decide +kernel
theorem dX5_clear_2 : decode cX5_clear 2 = .ok (.invokestatic 124, 3) := by decide +kernel
theorem dX5_clear_5 : decode cX5_clear 5 = .ok (.iconst 0, 1) := by decide +kernel
theorem dX5_clear_6 : decode cX5_clear 6 = .ok (.iconst 0, 1) := by decide +kernel
theorem dX5_clear_7 : decode cX5_clear 7 = .ok (.invokevirtual 127, 3) := by decide +kernel
theorem dX5_clear_10 : decode cX5_clear 10 = .ok (.ifCond .eq 5, 3) := by decide +kernel
theorem dX5_clear_13 : decode cX5_clear 13 = .ok (.iconst 0, 1) := by decide +kernel
theorem dX5_clear_14 : decode cX5_clear 14 = .ok (.ireturn, 1) := by decide +kernel
theorem dX5_clear_15 : decode cX5_clear 15 = .ok (.aload_n 0, 1) := by decide +kernel
theorem dX5_clear_16 : decode cX5_clear 16 = .ok (.getfield 11, 3) := by decide +kernel
theorem dX5_clear_19 : decode cX5_clear 19 = .ok (.iload_n 1, 1) := by decide +kernel
theorem dX5_clear_20 : decode cX5_clear 20 = .ok (.aaload, 1) := by decide +kernel
theorem dX5_clear_21 : decode cX5_clear 21 = .ok (.invokevirtual 42, 3) := by decide +kernel
theorem dX5_clear_24 : decode cX5_clear 24 = .ok (.istore_n 2, 1) := by decide +kernel
theorem dX5_clear_25 : decode cX5_clear 25 = .ok (.aload_n 0, 1) := by decide +kernel
theorem dX5_clear_26 : decode cX5_clear 26 = .ok (.getfield 11, 3) := by decide +kernel
theorem dX5_clear_29 : decode cX5_clear 29 = .ok (.iload_n 1, 1) := by decide +kernel
theorem dX5_clear_30 : decode cX5_clear 30 = .ok (.ldc 9, 2) := by decide +kernel
theorem dX5_clear_32 : decode cX5_clear 32 = .ok (.aastore, 1) := by decide +kernel
theorem dX5_clear_33 : decode cX5_clear 33 = .ok (.iload_n 2, 1) := by decide +kernel
theorem dX5_clear_34 : decode cX5_clear 34 = .ok (.ireturn, 1) := by decide +kernel
set_option maxRecDepth 20000 in
theorem ggX5_copy_X5_isNo : GoodIn wsX5_copy wsX5_isNo := goodIn_r _ [5, 6, 7, 4, 8] (by decide +kernel) (by decide +kernel)
set_option maxRecDepth 20000 in
theorem gX5_copy_X5_isNo : GoodIn wsX5_copy (va_wsS RX5 124 yX5_isNo wsX5_isNo) := goodIn_app (goodIn_of _ (by decide +kernel)) ggX5_copy_X5_isNo
set_option maxRecDepth 20000 in
theorem ggX5_copy_X5_fails : GoodIn wsX5_copy wsX5_fails := goodIn_r _ [12, 13, 26, 27, 28, 29, 30, 31, 32] (by decide +kernel) (by decide +kernel)
set_option maxRecDepth 20000 in
theorem gX5_copy_X5_fails : GoodIn wsX5_copy (wsV RX5 127 RX5 yX5_fails wsX5_fails) := goodIn_app (goodIn_of _ (by decide +kernel)) ggX5_copy_X5_fails
set_option maxRecDepth 20000 in
theorem ggX5_copy_J0_length_8abf5 : GoodIn wsX5_copy wsJ0_length_8abf5 := goodIn_r _ [18, 19, 20, 21, 22, 17, 23, 24, 25, 33, 34, 35, 36] (by decide +kernel) (by decide +kernel)
set_option maxRecDepth 20000 in
theorem gX5_copy_J0_length_8abf5 : GoodIn wsX5_copy (wsV RX5 42 RJ0 yJ0_length_8abf5 wsJ0_length_8abf5) := goodIn_app (goodIn_of _ (by decide +kernel)) ggX5_copy_J0_length_8abf5
theorem dX5_copy_0 : decode cX5_copy 0 = .ok (.aload_n 0, 1) := by decide +kernel
theorem dX5_copy_1 : decode cX5_copy 1 = .ok (.iload_n 1, 1) := by decide +kernel
theorem dX5_copy_2 : decode cX5_copy 2 = .ok (.invokestatic 124, 3) := by decide +kernel
theorem dX5_copy_5 : decode cX5_copy 5 = .ok (.ifCond .ne 10, 3) := by decide +kernel
theorem dX5_copy_8 : decode cX5_copy 8 = .ok (.iload_n 2, 1) := by decide +kernel
theorem dX5_copy_9 : decode cX5_copy 9 = .ok (.invokestatic 124, 3) := by decide +kernel
theorem dX5_copy_12 : decode cX5_copy 12 = .ok (.ifCond .eq 7, 3) := by decide +kernel
theorem dX5_copy_15 : decode cX5_copy 15 = .ok (.iconst 1, 1) := by decide +kernel
theorem dX5_copy_16 : decode cX5_copy 16 = .ok (.goto 4, 3) := by decide +kernel
theorem dX5_copy_19 : decode cX5_copy 19 = .ok (.iconst 0, 1) := by decide +kernel
theorem dX5_copy_20 : decode cX5_copy 20 = .ok (.iconst 0, 1) := by decide +kernel
theorem dX5_copy_21 : decode cX5_copy 21 = .ok (.iconst 0, 1) := by decide +kernel
theorem dX5_copy_22 : decode cX5_copy 22 = .ok (.invokevirtual 127, 3) := by decide +kernel
theorem dX5_copy_25 : decode cX5_copy 25 = .ok (.ifCond .eq 5, 3) := by decide +kernel
theorem dX5_copy_28 : decode cX5_copy 28 = .ok (.iconst 0, 1) := by decide +kernel
theorem dX5_copy_29 : decode cX5_copy 29 = .ok (.ireturn, 1) := by decide +kernel
theorem dX5_copy_30 : decode cX5_copy 30 = .ok (.aload_n 0, 1) := by decide +kernel
theorem dX5_copy_31 : decode cX5_copy 31 = .ok (.getfield 11, 3) := by decide +kernel
theorem dX5_copy_34 : decode cX5_copy 34 = .ok (.iload_n 1, 1) := by decide +kernel
theorem dX5_copy_35 : decode cX5_copy 35 = .ok (.aload_n 0, 1) := by decide +kernel
theorem dX5_copy_36 : decode cX5_copy 36 = .ok (.getfield 11, 3) := by decide +kernel
theorem dX5_copy_39 : decode cX5_copy 39 = .ok (.iload_n 2, 1) := by decide +kernel
theorem dX5_copy_40 : decode cX5_copy 40 = .ok (.aaload, 1) := by decide +kernel
theorem dX5_copy_41 : decode cX5_copy 41 = .ok (.aastore, 1) := by decide +kernel
theorem dX5_copy_42 : decode cX5_copy 42 = .ok (.aload_n 0, 1) := by decide +kernel
theorem dX5_copy_43 : decode cX5_copy 43 = .ok (.getfield 11, 3) := by decide +kernel
theorem dX5_copy_46 : decode cX5_copy 46 = .ok (.iload_n 1, 1) := by decide +kernel
theorem dX5_copy_47 : decode cX5_copy 47 = .ok (.aaload, 1) := by decide +kernel
theorem dX5_copy_48 : decode cX5_copy 48 = .ok (.invokevirtual 42, 3) := by decide +kernel
theorem dX5_copy_51 : decode cX5_copy 51 = .ok (.ireturn, 1) := by decide +kernel
set_option maxRecDepth 20000 in
theorem ggX5_lay_X5_isNo : GoodIn wsX5_lay wsX5_isNo := goodIn_r _ [5, 6, 7, 4, 8] (by decide +kernel) (by decide +kernel)
set_option maxRecDepth 20000 in
theorem gX5_lay_X5_isNo : GoodIn wsX5_lay (va_wsS RX5 124 yX5_isNo wsX5_isNo) := goodIn_app (goodIn_of _ (by decide +kernel)) ggX5_lay_X5_isNo
set_option maxRecDepth 20000 in
theorem ggX5_lay_J0_length_8abf5 : GoodIn wsX5_lay wsJ0_length_8abf5 := goodIn_r _ [13, 14, 15, 16, 17, 12, 18, 19, 20, 271, 272, 273, 274] (by decide +kernel) (by decide +kernel)
set_option maxRecDepth 20000 in
theorem gX5_lay_J0_length_8abf5 : GoodIn wsX5_lay (wsV RX5 42 RJ0 yJ0_length_8abf5 wsJ0_length_8abf5) := goodIn_app (goodIn_of _ (by decide +kernel)) ggX5_lay_J0_length_8abf5
set_option maxRecDepth 20000 in
theorem ggX5_lay_X5_isIn : GoodIn wsX5_lay wsX5_isIn := goodIn_r _ [8] (by decide +kernel) (by decide +kernel)
set_option maxRecDepth 20000 in
theorem gX5_lay_X5_isIn : GoodIn wsX5_lay (va_wsS RX5 31 yX5_isIn wsX5_isIn) := goodIn_app (goodIn_of _ (by decide +kernel)) ggX5_lay_X5_isIn
set_option maxRecDepth 20000 in
theorem ggX5_lay_X5_fails : GoodIn wsX5_lay wsX5_fails := goodIn_r _ [24, 25, 264, 265, 266, 267, 268, 269, 270] (by decide +kernel) (by decide +kernel)
set_option maxRecDepth 20000 in
theorem gX5_lay_X5_fails : GoodIn wsX5_lay (wsV RX5 127 RX5 yX5_fails wsX5_fails) := goodIn_app (goodIn_of _ (by decide +kernel)) ggX5_lay_X5_fails
set_option maxRecDepth 20000 in
theorem ggX5_lay_X5_changed : GoodIn wsX5_lay wsX5_changed := goodIn_r _ [28, 29, 30, 31, 32, 33, 34, 35, 36, 37, 38, 39, 40, 41, 42, 43, 44, 45, 46, 47, 48, 49, 50, 51, 52, 53, 54, 55, 56, 12, 57, 14, 58, 10, 11, 13, 15, 16, 17, 18, 19, 20, 59, 60, 61, 62, 63, 64, 65, 66, 67, 68, 69, 70, 71, 72, 73, 74, 75, 76, 77, 78, 79, 80, 81, 82, 83, 84, 85, 86, 87, 88, 89, 90, 91, 92, 93, 94, 95, 96, 97, 98, 99, 100, 101, 102, 103, 104, 105, 106, 107, 108, 109, 110, 111, 112, 113, 114, 115, 116, 117, 118, 119, 120, 121, 122, 123, 124, 125, 126, 127, 128, 129, 130, 131, 132, 133, 134, 135, 136, 137, 138, 139, 140, 141, 142, 143, 144, 145, 146, 147, 148, 149, 150, 151, 152, 153, 154, 155, 156, 157, 158, 159, 160, 161, 162, 163, 164, 165, 166, 167, 168, 169, 170, 171, 172, 173, 174, 175, 176, 177, 178, 179, 180, 181, 182, 183, 184, 185, 186, 187, 188, 189, 190, 191, 192, 193, 194, 195, 196, 197, 198, 199, 200, 201, 202, 203, 204, 205, 206, 207, 208, 209, 210, 211, 212, 213, 214, 215, 216, 217, 218, 219, 220, 221, 222, 223, 224, 225, 226, 227, 228, 229, 230, 231, 232, 233, 234, 235, 236, 237, 238, 239, 240, 241, 242, 243, 244, 245, 246, 247, 248, 249, 250, 251, 252, 253, 254, 255, 256, 257, 258, 275, 276, 277, 278, 271, 272, 273, 274] (by decide +kernel) (by decide +kernel)
set_option maxRecDepth 20000 in
theorem gX5_lay_X5_changed : GoodIn wsX5_lay (va_wsS RX5 87 yX5_changed wsX5_changed) := goodIn_app (goodIn_of _ (by decide +kernel)) ggX5_lay_X5_changed
theorem dX5_lay_0 : decode cX5_lay 0 = .ok (.aload_n 0, 1) := by decide +kernel
theorem dX5_lay_1 : decode cX5_lay 1 = .ok (.iload_n 1, 1) := by decide +kernel
theorem dX5_lay_2 : decode cX5_lay 2 = .ok (.invokestatic 124, 3) := by decide +kernel
theorem dX5_lay_5 : decode cX5_lay 5 = .ok (.ifCond .ne 27, 3) := by decide +kernel
theorem dX5_lay_8 : decode cX5_lay 8 = .ok (.iload_n 3, 1) := by decide +kernel
theorem dX5_lay_9 : decode cX5_lay 9 = .ok (.invokestatic 124, 3) := by decide +kernel
theorem dX5_lay_12 : decode cX5_lay 12 = .ok (.ifCond .ne 20, 3) := by decide +kernel
theorem dX5_lay_15 : decode cX5_lay 15 = .ok (.iload_n 2, 1) := by decide +kernel
theorem dX5_lay_16 : decode cX5_lay 16 = .ok (.iconst 0, 1) := by decide +kernel
theorem dX5_lay_17 : decode cX5_lay 17 = .ok (.aload_n 0, 1) := by decide +kernel
theorem dX5_lay_18 : decode cX5_lay 18 = .ok (.getfield 11, 3) := by decide +kernel
theorem dX5_lay_21 : decode cX5_lay 21 = .ok (.iload_n 1, 1) := by decide +kernel
theorem dX5_lay_22 : decode cX5_lay 22 = .ok (.aaload, 1) := by decide +kernel
theorem dX5_lay_23 : decode cX5_lay 23 = .ok (.invokevirtual 42, 3) := by decide +kernel
theorem dX5_lay_26 : decode cX5_lay 26 = .ok (.invokestatic 31, 3) := by decide +kernel
theorem dX5_lay_29 : decode cX5_lay 29 = .ok (.ifCond .ne 7, 3) := by decide +kernel
theorem dX5_lay_32 : decode cX5_lay 32 = .ok (.iconst 1, 1) := by decide +kernel
theorem dX5_lay_33 : decode cX5_lay 33 = .ok (.goto 4, 3) := by decide +kernel
theorem dX5_lay_36 : decode cX5_lay 36 = .ok (.iconst 0, 1) := by decide +kernel
theorem dX5_lay_37 : decode cX5_lay 37 = .ok (.iconst 0, 1) := by decide +kernel
theorem dX5_lay_38 : decode cX5_lay 38 = .ok (.iconst 0, 1) := by decide +kernel
theorem dX5_lay_39 : decode cX5_lay 39 = .ok (.invokevirtual 127, 3) := by decide +kernel
theorem dX5_lay_42 : decode cX5_lay 42 = .ok (.ifCond .eq 5, 3) := by decide +kernel
theorem dX5_lay_45 : decode cX5_lay 45 = .ok (.iconst 0, 1) := by decide +kernel
theorem dX5_lay_46 : decode cX5_lay 46 = .ok (.ireturn, 1) := by decide +kernel
theorem dX5_lay_47 : decode cX5_lay 47 = .ok (.aload_n 0, 1) := by decide +kernel
theorem dX5_lay_48 : decode cX5_lay 48 = .ok (.getfield 11, 3) := by decide +kernel
theorem dX5_lay_51 : decode cX5_lay 51 = .ok (.iload_n 1, 1) := by decide +kernel
theorem dX5_lay_52 : decode cX5_lay 52 = .ok (.aaload, 1) := by decide +kernel
theorem dX5_lay_53 : decode cX5_lay 53 = .ok (.iload_n 2, 1) := by decide +kernel
theorem dX5_lay_54 : decode cX5_lay 54 = .ok (.iconst 0, 1) := by decide +kernel
theorem dX5_lay_55 : decode cX5_lay 55 = .ok (.aload_n 0, 1) := by decide +kernel
theorem dX5_lay_56 : decode cX5_lay 56 = .ok (.getfield 11, 3) := by decide +kernel
theorem dX5_lay_59 : decode cX5_lay 59 = .ok (.iload_n 3, 1) := by decide +kernel
theorem dX5_lay_60 : decode cX5_lay 60 = .ok (.aaload, 1) := by decide +kernel
theorem dX5_lay_61 : decode cX5_lay 61 = .ok (.invokestatic 87, 3) := by decide +kernel
theorem dX5_lay_64 : decode cX5_lay 64 = .ok (.astore 4, 2) := by decide +kernel
theorem dX5_lay_66 : decode cX5_lay 66 = .ok (.aload 4, 2) := by decide +kernel
theorem dX5_lay_68 : decode cX5_lay 68 = .ok (.invokevirtual 42, 3) := by decide +kernel
theorem dX5_lay_71 : decode cX5_lay 71 = .ok (.bipush 32, 2) := by decide +kernel
theorem dX5_lay_73 : decode cX5_lay 73 = .ok (.if_icmp .le 8, 3) := by decide +kernel
theorem dX5_lay_81 : decode cX5_lay 81 = .ok (.aload_n 0, 1) := by decide +kernel
theorem dX5_lay_82 : decode cX5_lay 82 = .ok (.getfield 11, 3) := by decide +kernel
theorem dX5_lay_85 : decode cX5_lay 85 = .ok (.iload_n 1, 1) := by decide +kernel
theorem dX5_lay_86 : decode cX5_lay 86 = .ok (.aload 4, 2) := by decide +kernel
theorem dX5_lay_88 : decode cX5_lay 88 = .ok (.aastore, 1) := by decide +kernel
theorem dX5_lay_89 : decode cX5_lay 89 = .ok (.aload 4, 2) := by decide +kernel
theorem dX5_lay_91 : decode cX5_lay 91 = .ok (.invokevirtual 42, 3) := by decide +kernel
theorem dX5_lay_94 : decode cX5_lay 94 = .ok (.ireturn, 1) := by decide +kernel
set_option maxRecDepth 20000 in
theorem ggX5_cut_X5_isNo : GoodIn wsX5_cut wsX5_isNo := goodIn_r _ [5, 6, 7, 4, 8] (by decide +kernel) (by decide +kernel)
set_option maxRecDepth 20000 in
theorem gX5_cut_X5_isNo : GoodIn wsX5_cut (va_wsS RX5 124 yX5_isNo wsX5_isNo) := goodIn_app (goodIn_of _ (by decide +kernel)) ggX5_cut_X5_isNo
set_option maxRecDepth 20000 in
theorem ggX5_cut_J0_length_8abf5 : GoodIn wsX5_cut wsJ0_length_8abf5 := goodIn_r _ [13, 14, 15, 16, 17, 12, 18, 19, 20, 266, 267, 268, 269] (by decide +kernel) (by decide +kernel)
set_option maxRecDepth 20000 in
theorem gX5_cut_J0_length_8abf5 : GoodIn wsX5_cut (wsV RX5 42 RJ0 yJ0_length_8abf5 wsJ0_length_8abf5) := goodIn_app (goodIn_of _ (by decide +kernel)) ggX5_cut_J0_length_8abf5
set_option maxRecDepth 20000 in
theorem ggX5_cut_X5_isIn : GoodIn wsX5_cut wsX5_isIn := goodIn_r _ [8] (by decide +kernel) (by decide +kernel)
set_option maxRecDepth 20000 in
theorem gX5_cut_X5_isIn : GoodIn wsX5_cut (va_wsS RX5 31 yX5_isIn wsX5_isIn) := goodIn_app (goodIn_of _ (by decide +kernel)) ggX5_cut_X5_isIn
set_option maxRecDepth 20000 in
theorem ggX5_cut_X5_fails : GoodIn wsX5_cut wsX5_fails := goodIn_r _ [24, 25, 259, 260, 261, 262, 263, 264, 265] (by decide +kernel) (by decide +kernel)
set_option maxRecDepth 20000 in
theorem gX5_cut_X5_fails : GoodIn wsX5_cut (wsV RX5 127 RX5 yX5_fails wsX5_fails) := goodIn_app (goodIn_of _ (by decide +kernel)) ggX5_cut_X5_fails
set_option maxRecDepth 20000 in
theorem ggX5_cut_X5_changed : GoodIn wsX5_cut wsX5_changed := goodIn_r _ [28, 29, 30, 31, 32, 33, 34, 35, 36, 37, 38, 39, 40, 41, 42, 43, 44, 45, 46, 47, 48, 49, 50, 51, 52, 53, 54, 55, 56, 12, 57, 14, 58, 10, 11, 13, 15, 16, 17, 18, 19, 20, 59, 60, 61, 62, 63, 64, 65, 66, 67, 68, 69, 70, 71, 72, 73, 74, 75, 76, 77, 78, 79, 80, 81, 82, 83, 84, 85, 86, 87, 88, 89, 90, 91, 92, 93, 94, 95, 96, 97, 98, 99, 100, 101, 102, 103, 104, 105, 106, 107, 108, 109, 110, 111, 112, 113, 114, 115, 116, 117, 118, 119, 120, 121, 122, 123, 124, 125, 126, 127, 128, 129, 130, 131, 132, 133, 134, 135, 136, 137, 138, 139, 140, 141, 142, 143, 144, 145, 146, 147, 148, 149, 150, 151, 152, 153, 154, 155, 156, 157, 158, 159, 160, 161, 162, 163, 164, 165, 166, 167, 168, 169, 170, 171, 172, 173, 174, 175, 176, 177, 178, 179, 180, 181, 182, 183, 184, 185, 186, 187, 188, 189, 190, 191, 192, 193, 194, 195, 196, 197, 198, 199, 200, 201, 202, 203, 204, 205, 206, 207, 208, 209, 210, 211, 212, 213, 214, 215, 216, 217, 218, 219, 220, 221, 222, 223, 224, 225, 226, 227, 228, 229, 230, 231, 232, 233, 234, 235, 236, 237, 238, 239, 240, 241, 242, 243, 244, 245, 246, 247, 248, 249, 250, 251, 252, 253, 254, 255, 256, 257, 258, 270, 271, 272, 273, 266, 267, 268, 269] (by decide +kernel) (by decide +kernel)
set_option maxRecDepth 20000 in
theorem gX5_cut_X5_changed : GoodIn wsX5_cut (va_wsS RX5 87 yX5_changed wsX5_changed) := goodIn_app (goodIn_of _ (by decide +kernel)) ggX5_cut_X5_changed
theorem dX5_cut_0 : decode cX5_cut 0 = .ok (.aload_n 0, 1) := by decide +kernel
theorem dX5_cut_1 : decode cX5_cut 1 = .ok (.iload_n 1, 1) := by decide +kernel
theorem dX5_cut_2 : decode cX5_cut 2 = .ok (.invokestatic 124, 3) := by decide +kernel
theorem dX5_cut_5 : decode cX5_cut 5 = .ok (.ifCond .ne 37, 3) := by decide +kernel
theorem dX5_cut_8 : decode cX5_cut 8 = .ok (.iload_n 2, 1) := by decide +kernel
theorem dX5_cut_9 : decode cX5_cut 9 = .ok (.iconst 0, 1) := by decide +kernel
theorem dX5_cut_10 : decode cX5_cut 10 = .ok (.aload_n 0, 1) := by decide +kernel
theorem dX5_cut_11 : decode cX5_cut 11 = .ok (.getfield 11, 3) := by decide +kernel
theorem dX5_cut_14 : decode cX5_cut 14 = .ok (.iload_n 1, 1) := by decide +kernel
theorem dX5_cut_15 : decode cX5_cut 15 = .ok (.aaload, 1) := by decide +kernel
theorem dX5_cut_16 : decode cX5_cut 16 = .ok (.invokevirtual 42, 3) := by decide +kernel
theorem dX5_cut_19 : decode cX5_cut 19 = .ok (.invokestatic 31, 3) := by decide +kernel
theorem dX5_cut_22 : decode cX5_cut 22 = .ok (.ifCond .eq 20, 3) := by decide +kernel
theorem dX5_cut_25 : decode cX5_cut 25 = .ok (.iload_n 3, 1) := by decide +kernel
theorem dX5_cut_26 : decode cX5_cut 26 = .ok (.iconst 0, 1) := by decide +kernel
theorem dX5_cut_27 : decode cX5_cut 27 = .ok (.aload_n 0, 1) := by decide +kernel
theorem dX5_cut_28 : decode cX5_cut 28 = .ok (.getfield 11, 3) := by decide +kernel
theorem dX5_cut_31 : decode cX5_cut 31 = .ok (.iload_n 1, 1) := by decide +kernel
theorem dX5_cut_32 : decode cX5_cut 32 = .ok (.aaload, 1) := by decide +kernel
theorem dX5_cut_33 : decode cX5_cut 33 = .ok (.invokevirtual 42, 3) := by decide +kernel
theorem dX5_cut_36 : decode cX5_cut 36 = .ok (.invokestatic 31, 3) := by decide +kernel
theorem dX5_cut_39 : decode cX5_cut 39 = .ok (.ifCond .ne 7, 3) := by decide +kernel
theorem dX5_cut_42 : decode cX5_cut 42 = .ok (.iconst 1, 1) := by decide +kernel
theorem dX5_cut_43 : decode cX5_cut 43 = .ok (.goto 4, 3) := by decide +kernel
theorem dX5_cut_46 : decode cX5_cut 46 = .ok (.iconst 0, 1) := by decide +kernel
theorem dX5_cut_47 : decode cX5_cut 47 = .ok (.iload_n 2, 1) := by decide +kernel
theorem dX5_cut_48 : decode cX5_cut 48 = .ok (.iload_n 3, 1) := by decide +kernel
theorem dX5_cut_49 : decode cX5_cut 49 = .ok (.if_icmp .le 7, 3) := by decide +kernel
theorem dX5_cut_52 : decode cX5_cut 52 = .ok (.iconst 1, 1) := by decide +kernel
theorem dX5_cut_53 : decode cX5_cut 53 = .ok (.goto 4, 3) := by decide +kernel
theorem dX5_cut_56 : decode cX5_cut 56 = .ok (.iconst 0, 1) := by decide +kernel
theorem dX5_cut_57 : decode cX5_cut 57 = .ok (.iconst 0, 1) := by decide +kernel
theorem dX5_cut_58 : decode cX5_cut 58 = .ok (.invokevirtual 127, 3) := by decide +kernel
theorem dX5_cut_61 : decode cX5_cut 61 = .ok (.ifCond .eq 5, 3) := by decide +kernel
theorem dX5_cut_64 : decode cX5_cut 64 = .ok (.iconst 0, 1) := by decide +kernel
theorem dX5_cut_65 : decode cX5_cut 65 = .ok (.ireturn, 1) := by decide +kernel
theorem dX5_cut_66 : decode cX5_cut 66 = .ok (.aload_n 0, 1) := by decide +kernel
theorem dX5_cut_67 : decode cX5_cut 67 = .ok (.getfield 11, 3) := by decide +kernel
theorem dX5_cut_70 : decode cX5_cut 70 = .ok (.iload_n 1, 1) := by decide +kernel
theorem dX5_cut_71 : decode cX5_cut 71 = .ok (.aload_n 0, 1) := by decide +kernel
theorem dX5_cut_72 : decode cX5_cut 72 = .ok (.getfield 11, 3) := by decide +kernel
theorem dX5_cut_75 : decode cX5_cut 75 = .ok (.iload_n 1, 1) := by decide +kernel
theorem dX5_cut_76 : decode cX5_cut 76 = .ok (.aaload, 1) := by decide +kernel
theorem dX5_cut_77 : decode cX5_cut 77 = .ok (.iload_n 2, 1) := by decide +kernel
theorem dX5_cut_78 : decode cX5_cut 78 = .ok (.iload_n 3, 1) := by decide +kernel
theorem dX5_cut_79 : decode cX5_cut 79 = .ok (.iload_n 2, 1) := by decide +kernel
theorem dX5_cut_80 : decode cX5_cut 80 = .ok (.isub, 1) := by decide +kernel
theorem dX5_cut_81 : decode cX5_cut 81 = .ok (.ldc 9, 2) := by decide +kernel
theorem dX5_cut_83 : decode cX5_cut 83 = .ok (.invokestatic 87, 3) := by decide +kernel
theorem dX5_cut_86 : decode cX5_cut 86 = .ok (.aastore, 1) := by decide +kernel
theorem dX5_cut_87 : decode cX5_cut 87 = .ok (.aload_n 0, 1) := by decide +kernel
theorem dX5_cut_88 : decode cX5_cut 88 = .ok (.getfield 11, 3) := by decide +kernel
theorem dX5_cut_91 : decode cX5_cut 91 = .ok (.iload_n 1, 1) := by decide +kernel
theorem dX5_cut_92 : decode cX5_cut 92 = .ok (.aaload, 1) := by decide +kernel
theorem dX5_cut_93 : decode cX5_cut 93 = .ok (.invokevirtual 42, 3) := by decide +kernel
theorem dX5_cut_96 : decode cX5_cut 96 = .ok (.ireturn, 1) := by decide +kernel
set_option maxRecDepth 20000 in
theorem ggX5_turn_X5_isNo : GoodIn wsX5_turn wsX5_isNo := goodIn_r _ [8, 9, 10, 7, 11] (by decide +kernel) (by decide +kernel)
set_option maxRecDepth 20000 in
theorem gX5_turn_X5_isNo : GoodIn wsX5_turn (va_wsS RX5 124 yX5_isNo wsX5_isNo) := goodIn_app (goodIn_of _ (by decide +kernel)) ggX5_turn_X5_isNo
set_option maxRecDepth 20000 in
theorem ggX5_turn_X5_fails : GoodIn wsX5_turn wsX5_fails := goodIn_r _ [15, 16, 263, 264, 265, 266, 267, 268, 269] (by decide +kernel) (by decide +kernel)
set_option maxRecDepth 20000 in
theorem gX5_turn_X5_fails : GoodIn wsX5_turn (wsV RX5 127 RX5 yX5_fails wsX5_fails) := goodIn_app (goodIn_of _ (by decide +kernel)) ggX5_turn_X5_fails
set_option maxRecDepth 20000 in
theorem ggX5_turn_J0_length_8abf5 : GoodIn wsX5_turn wsJ0_length_8abf5 := goodIn_r _ [21, 22, 23, 24, 25, 20, 26, 27, 28, 274, 275, 276, 277] (by decide +kernel) (by decide +kernel)
set_option maxRecDepth 20000 in
theorem gX5_turn_J0_length_8abf5 : GoodIn wsX5_turn (wsV RX5 42 RJ0 yJ0_length_8abf5 wsJ0_length_8abf5) := goodIn_app (goodIn_of _ (by decide +kernel)) ggX5_turn_J0_length_8abf5
theorem dX5_turn_0 : decode cX5_turn 0 = .ok (.aload_n 0, 1) := by decide +kernel
theorem dX5_turn_1 : decode cX5_turn 1 = .ok (.iload_n 1, 1) := by decide +kernel
theorem dX5_turn_2 : decode cX5_turn 2 = .ok (.invokestatic 124, 3) := by decide +kernel
theorem dX5_turn_5 : decode cX5_turn 5 = .ok (.iconst 0, 1) := by decide +kernel
theorem dX5_turn_6 : decode cX5_turn 6 = .ok (.iconst 0, 1) := by decide +kernel
theorem dX5_turn_7 : decode cX5_turn 7 = .ok (.invokevirtual 127, 3) := by decide +kernel
theorem dX5_turn_10 : decode cX5_turn 10 = .ok (.ifCond .eq 5, 3) := by decide +kernel
theorem dX5_turn_13 : decode cX5_turn 13 = .ok (.iconst 0, 1) := by decide +kernel
theorem dX5_turn_14 : decode cX5_turn 14 = .ok (.ireturn, 1) := by decide +kernel
theorem dX5_turn_15 : decode cX5_turn 15 = .ok (.ldc 9, 2) := by decide +kernel
theorem dX5_turn_17 : decode cX5_turn 17 = .ok (.astore_n 2, 1) := by decide +kernel
theorem dX5_turn_18 : decode cX5_turn 18 = .ok (.iconst 0, 1) := by decide +kernel
theorem dX5_turn_19 : decode cX5_turn 19 = .ok (.istore_n 3, 1) := by decide +kernel
theorem dX5_turn_20 : decode cX5_turn 20 = .ok (.iload_n 3, 1) := by decide +kernel
theorem dX5_turn_21 : decode cX5_turn 21 = .ok (.aload_n 0, 1) := by decide +kernel
theorem dX5_turn_22 : decode cX5_turn 22 = .ok (.getfield 11, 3) := by decide +kernel
theorem dX5_turn_25 : decode cX5_turn 25 = .ok (.iload_n 1, 1) := by decide +kernel
theorem dX5_turn_26 : decode cX5_turn 26 = .ok (.aaload, 1) := by decide +kernel
theorem dX5_turn_27 : decode cX5_turn 27 = .ok (.invokevirtual 42, 3) := by decide +kernel
theorem dX5_turn_30 : decode cX5_turn 30 = .ok (.if_icmp .ge 37, 3) := by decide +kernel
theorem dX5_turn_67 : decode cX5_turn 67 = .ok (.aload_n 0, 1) := by decide +kernel
theorem dX5_turn_68 : decode cX5_turn 68 = .ok (.getfield 11, 3) := by decide +kernel
theorem dX5_turn_71 : decode cX5_turn 71 = .ok (.iload_n 1, 1) := by decide +kernel
theorem dX5_turn_72 : decode cX5_turn 72 = .ok (.aload_n 2, 1) := by decide +kernel
theorem dX5_turn_73 : decode cX5_turn 73 = .ok (.aastore, 1) := by decide +kernel
theorem dX5_turn_74 : decode cX5_turn 74 = .ok (.aload_n 2, 1) := by decide +kernel
theorem dX5_turn_75 : decode cX5_turn 75 = .ok (.invokevirtual 42, 3) := by decide +kernel
theorem dX5_turn_78 : decode cX5_turn 78 = .ok (.ireturn, 1) := by decide +kernel
set_option maxRecDepth 20000 in
theorem ggX5_text_X5_isNo : GoodIn wsX5_text wsX5_isNo := goodIn_r _ [5, 6, 7, 4, 8] (by decide +kernel) (by decide +kernel)
set_option maxRecDepth 20000 in
theorem gX5_text_X5_isNo : GoodIn wsX5_text (va_wsS RX5 124 yX5_isNo wsX5_isNo) := goodIn_app (goodIn_of _ (by decide +kernel)) ggX5_text_X5_isNo
set_option maxRecDepth 20000 in
theorem ggX5_text_X5_fails : GoodIn wsX5_text wsX5_fails := goodIn_r _ [12, 13, 14, 15, 16, 17, 18, 19, 20] (by decide +kernel) (by decide +kernel)
set_option maxRecDepth 20000 in
theorem gX5_text_X5_fails : GoodIn wsX5_text (wsV RX5 127 RX5 yX5_fails wsX5_fails) := goodIn_app (goodIn_of _ (by decide +kernel)) ggX5_text_X5_fails
theorem dX5_text_0 : decode cX5_text 0 = .ok (.aload_n 0, 1) := by decide +kernel
theorem dX5_text_1 : decode cX5_text 1 = .ok (.iload_n 1, 1) := by decide +kernel
theorem dX5_text_2 : decode cX5_text 2 = .ok (.invokestatic 124, 3) := by decide +kernel
theorem dX5_text_5 : decode cX5_text 5 = .ok (.iconst 0, 1) := by decide +kernel
theorem dX5_text_6 : decode cX5_text 6 = .ok (.iconst 0, 1) := by decide +kernel
theorem dX5_text_7 : decode cX5_text 7 = .ok (.invokevirtual 127, 3) := by decide +kernel
theorem dX5_text_10 : decode cX5_text 10 = .ok (.ifCond .eq 8, 3) := by decide +kernel
theorem dX5_text_13 : decode cX5_text 13 = .ok (.ldc 9, 2) := by decide +kernel
theorem dX5_text_15 : decode cX5_text 15 = .ok (.goto 9, 3) := by decide +kernel
theorem dX5_text_18 : decode cX5_text 18 = .ok (.aload_n 0, 1) := by decide +kernel
theorem dX5_text_19 : decode cX5_text 19 = .ok (.getfield 11, 3) := by decide +kernel
theorem dX5_text_22 : decode cX5_text 22 = .ok (.iload_n 1, 1) := by decide +kernel
theorem dX5_text_23 : decode cX5_text 23 = .ok (.aaload, 1) := by decide +kernel
theorem dX5_text_24 : decode cX5_text 24 = .ok (.areturn, 1) := by decide +kernel
set_option maxRecDepth 20000 in
theorem ggX5_order_X5_isNo : GoodIn wsX5_order wsX5_isNo := goodIn_r _ [5, 6, 7, 4, 8] (by decide +kernel) (by decide +kernel)
set_option maxRecDepth 20000 in
theorem gX5_order_X5_isNo : GoodIn wsX5_order (va_wsS RX5 124 yX5_isNo wsX5_isNo) := goodIn_app (goodIn_of _ (by decide +kernel)) ggX5_order_X5_isNo
set_option maxRecDepth 20000 in
theorem ggX5_order_X5_fails : GoodIn wsX5_order wsX5_fails := goodIn_r _ [12, 13, 66, 67, 68, 69, 70, 71, 72] (by decide +kernel) (by decide +kernel)
set_option maxRecDepth 20000 in
theorem gX5_order_X5_fails : GoodIn wsX5_order (wsV RX5 127 RX5 yX5_fails wsX5_fails) := goodIn_app (goodIn_of _ (by decide +kernel)) ggX5_order_X5_fails
set_option maxRecDepth 20000 in
theorem ggX5_order_X5_compare : GoodIn wsX5_order wsX5_compare := goodIn_r _ [16, 17, 18, 19, 20, 21, 22, 23, 24, 25, 26, 27, 28, 29, 30, 31, 32, 33, 34, 35, 36, 37, 38, 39, 40, 41, 42, 43, 44, 45, 46, 47, 48, 49, 50, 51, 52, 53, 54, 55, 56, 57, 58, 59, 60, 61, 62, 63, 64, 65, 73, 74, 75, 76] (by decide +kernel) (by decide +kernel)
set_option maxRecDepth 20000 in
theorem gX5_order_X5_compare : GoodIn wsX5_order (va_wsS RX5 71 yX5_compare wsX5_compare) := goodIn_app (goodIn_of _ (by decide +kernel)) ggX5_order_X5_compare
theorem dX5_order_0 : decode cX5_order 0 = .ok (.aload_n 0, 1) := by decide +kernel
theorem dX5_order_1 : decode cX5_order 1 = .ok (.iload_n 1, 1) := by decide +kernel
theorem dX5_order_2 : decode cX5_order 2 = .ok (.invokestatic 124, 3) := by decide +kernel
theorem dX5_order_5 : decode cX5_order 5 = .ok (.ifCond .ne 10, 3) := by decide +kernel
theorem dX5_order_8 : decode cX5_order 8 = .ok (.iload_n 2, 1) := by decide +kernel
theorem dX5_order_9 : decode cX5_order 9 = .ok (.invokestatic 124, 3) := by decide +kernel
theorem dX5_order_12 : decode cX5_order 12 = .ok (.ifCond .eq 7, 3) := by decide +kernel
theorem dX5_order_15 : decode cX5_order 15 = .ok (.iconst 1, 1) := by decide +kernel
theorem dX5_order_16 : decode cX5_order 16 = .ok (.goto 4, 3) := by decide +kernel
theorem dX5_order_19 : decode cX5_order 19 = .ok (.iconst 0, 1) := by decide +kernel
theorem dX5_order_20 : decode cX5_order 20 = .ok (.iconst 0, 1) := by decide +kernel
theorem dX5_order_21 : decode cX5_order 21 = .ok (.iconst 0, 1) := by decide +kernel
theorem dX5_order_22 : decode cX5_order 22 = .ok (.invokevirtual 127, 3) := by decide +kernel
theorem dX5_order_25 : decode cX5_order 25 = .ok (.ifCond .eq 7, 3) := by decide +kernel
theorem dX5_order_28 : decode cX5_order 28 = .ok (.iconst 0, 1) := by decide +kernel
theorem dX5_order_29 : decode cX5_order 29 = .ok (.goto 18, 3) := by decide +kernel
theorem dX5_order_32 : decode cX5_order 32 = .ok (.aload_n 0, 1) := by decide +kernel
theorem dX5_order_33 : decode cX5_order 33 = .ok (.getfield 11, 3) := by decide +kernel
theorem dX5_order_36 : decode cX5_order 36 = .ok (.iload_n 1, 1) := by decide +kernel
theorem dX5_order_37 : decode cX5_order 37 = .ok (.aaload, 1) := by decide +kernel
theorem dX5_order_38 : decode cX5_order 38 = .ok (.aload_n 0, 1) := by decide +kernel
theorem dX5_order_39 : decode cX5_order 39 = .ok (.getfield 11, 3) := by decide +kernel
theorem dX5_order_42 : decode cX5_order 42 = .ok (.iload_n 2, 1) := by decide +kernel
theorem dX5_order_43 : decode cX5_order 43 = .ok (.aaload, 1) := by decide +kernel
theorem dX5_order_44 : decode cX5_order 44 = .ok (.invokestatic 71, 3) := by decide +kernel
theorem dX5_order_47 : decode cX5_order 47 = .ok (.ireturn, 1) := by decide +kernel
set_option maxRecDepth 20000 in
theorem ggX5_places_Jx4a65c_init_da8c8 : GoodIn wsX5_places wsJx4a65c_init_da8c8 := goodIn_r _ [6, 7, 8, 9, 10, 11, 12, 13, 14, 15, 16, 17, 18, 19, 20, 144, 145, 146] (by decide +kernel) (by decide +kernel)
set_option maxRecDepth 20000 in
theorem gX5_places_Jx4a65c_init_da8c8 : GoodIn wsX5_places (wsJx4a65c_init_da8c8) := ggX5_places_Jx4a65c_init_da8c8
set_option maxRecDepth 20000 in
theorem ggX5_places_J0_length_8abf5 : GoodIn wsX5_places wsJ0_length_8abf5 := goodIn_r _ [25, 26, 27, 28, 29, 24, 30, 31, 32, 147, 148, 149, 150] (by decide +kernel) (by decide +kernel)
set_option maxRecDepth 20000 in
theorem gX5_places_J0_length_8abf5 : GoodIn wsX5_places (wsV RX5 42 RJ0 yJ0_length_8abf5 wsJ0_length_8abf5) := goodIn_app (goodIn_of _ (by decide +kernel)) ggX5_places_J0_length_8abf5
set_option maxRecDepth 20000 in
theorem ggX5_places_X5_stands : GoodIn wsX5_places wsX5_stands := goodIn_r _ [36, 21, 22, 23, 24, 25, 26, 27, 28, 29, 30, 31, 32, 37, 38, 39, 40, 41, 42, 43, 44, 45, 46, 47, 48, 49, 50, 51, 52, 53, 54, 55, 56, 57, 58, 59, 60, 61, 62, 63, 64, 65, 66, 67, 68, 69, 70, 71, 72, 73, 147, 148, 149, 150] (by decide +kernel) (by decide +kernel)
set_option maxRecDepth 20000 in
theorem gX5_places_X5_stands : GoodIn wsX5_places (va_wsS RX5 79 yX5_stands wsX5_stands) := goodIn_app (goodIn_of _ (by decide +kernel)) ggX5_places_X5_stands
set_option maxRecDepth 20000 in
theorem ggX5_places_J6_valueOf_2dffe : GoodIn wsX5_places wsJ6_valueOf_2dffe := goodIn_r _ [77, 78, 79, 80, 81, 76, 82, 83, 84, 85, 86, 87, 88, 89, 90, 19, 20, 151] (by decide +kernel) (by decide +kernel)
set_option maxRecDepth 20000 in
theorem gX5_places_J6_valueOf_2dffe : GoodIn wsX5_places (va_wsS RX5 134 yJ6_valueOf_2dffe wsJ6_valueOf_2dffe) := goodIn_app (goodIn_of _ (by decide +kernel)) ggX5_places_J6_valueOf_2dffe
set_option maxRecDepth 20000 in
theorem ggX5_places_Jx4a65c_add_9ea2d : GoodIn wsX5_places wsJx4a65c_add_9ea2d := goodIn_r _ [94, 95, 96, 8, 97, 98, 99, 100, 3, 101, 102, 103, 104, 105, 106, 107, 108, 109, 7, 110, 111, 112, 113, 114, 115, 116, 117, 118, 119, 120, 121, 122, 123, 124, 125, 126, 127, 128, 129, 130, 131, 132, 133, 134, 135, 136, 137, 138, 139, 140, 141, 142, 143, 144, 145, 146] (by decide +kernel) (by decide +kernel)
set_option maxRecDepth 20000 in
theorem gX5_places_Jx4a65c_add_9ea2d : GoodIn wsX5_places (wsV RX5 83 RJx4a65c yJx4a65c_add_9ea2d wsJx4a65c_add_9ea2d) := goodIn_app (goodIn_of _ (by decide +kernel)) ggX5_places_Jx4a65c_add_9ea2d
theorem dX5_places_0 : decode cX5_places 0 = .ok (.new 17, 3) := by decide +kernel
theorem dX5_places_3 : decode cX5_places 3 = .ok (.dup, 1) := by decide +kernel
theorem dX5_places_4 : decode cX5_places 4 = .ok (.invokespecial 19, 3) := by decide +kernel
theorem dX5_places_7 : decode cX5_places 7 = .ok (.astore_n 2, 1) := by decide +kernel
theorem dX5_places_8 : decode cX5_places 8 = .ok (.iconst 0, 1) := by decide +kernel
theorem dX5_places_9 : decode cX5_places 9 = .ok (.istore_n 3, 1) := by decide +kernel
theorem dX5_places_10 : decode cX5_places 10 = .ok (.iload_n 3, 1) := by decide +kernel
theorem dX5_places_11 : decode cX5_places 11 = .ok (.aload_n 0, 1) := by decide +kernel
theorem dX5_places_12 : decode cX5_places 12 = .ok (.invokevirtual 42, 3) := by decide +kernel
theorem dX5_places_15 : decode cX5_places 15 = .ok (.if_icmp .gt 27, 3) := by decide +kernel
theorem dX5_places_18 : decode cX5_places 18 = .ok (.aload_n 1, 1) := by decide +kernel
theorem dX5_places_19 : decode cX5_places 19 = .ok (.aload_n 0, 1) := by decide +kernel
theorem dX5_places_20 : decode cX5_places 20 = .ok (.iload_n 3, 1) := by decide +kernel
theorem dX5_places_21 : decode cX5_places 21 = .ok (.invokestatic 79, 3) := by decide +kernel
theorem dX5_places_24 : decode cX5_places 24 = .ok (.ifCond .eq 12, 3) := by decide +kernel
theorem dX5_places_27 : decode cX5_places 27 = .ok (.aload_n 2, 1) := by decide +kernel
theorem dX5_places_28 : decode cX5_places 28 = .ok (.iload_n 3, 1) := by decide +kernel
theorem dX5_places_29 : decode cX5_places 29 = .ok (.invokestatic 134, 3) := by decide +kernel
theorem dX5_places_32 : decode cX5_places 32 = .ok (.invokevirtual 83, 3) := by decide +kernel
theorem dX5_places_35 : decode cX5_places 35 = .ok (.pop, 1) := by decide +kernel
theorem dX5_places_36 : decode cX5_places 36 = .ok (.iinc 3 1, 3) := by decide +kernel
theorem dX5_places_39 : decode cX5_places 39 = .ok (.goto (-29), 3) := by decide +kernel
theorem dX5_places_42 : decode cX5_places 42 = .ok (.aload_n 2, 1) := by decide +kernel
theorem dX5_places_43 : decode cX5_places 43 = .ok (.areturn, 1) := by decide +kernel
set_option maxRecDepth 20000 in
theorem ggX5_count_X5_isNo : GoodIn wsX5_count wsX5_isNo := goodIn_r _ [5, 6, 7, 4, 8] (by decide +kernel) (by decide +kernel)
set_option maxRecDepth 20000 in
theorem gX5_count_X5_isNo : GoodIn wsX5_count (va_wsS RX5 124 yX5_isNo wsX5_isNo) := goodIn_app (goodIn_of _ (by decide +kernel)) ggX5_count_X5_isNo
set_option maxRecDepth 20000 in
theorem ggX5_count_X5_fails : GoodIn wsX5_count wsX5_fails := goodIn_r _ [12, 13, 163, 164, 165, 166, 167, 168, 169] (by decide +kernel) (by decide +kernel)
set_option maxRecDepth 20000 in
theorem gX5_count_X5_fails : GoodIn wsX5_count (wsV RX5 127 RX5 yX5_fails wsX5_fails) := goodIn_app (goodIn_of _ (by decide +kernel)) ggX5_count_X5_fails
set_option maxRecDepth 20000 in
theorem ggX5_count_X5_places : GoodIn wsX5_count wsX5_places := goodIn_r _ [16, 17, 18, 19, 20, 21, 22, 23, 24, 25, 26, 27, 28, 29, 30, 31, 32, 33, 34, 35, 36, 37, 38, 39, 40, 41, 42, 43, 44, 45, 46, 47, 48, 49, 50, 4, 51, 52, 53, 54, 55, 56, 57, 58, 59, 60, 61, 62, 63, 64, 65, 66, 67, 68, 69, 70, 71, 72, 73, 74, 75, 76, 77, 78, 79, 80, 81, 82, 83, 84, 85, 86, 87, 88, 89, 90, 91, 92, 93, 94, 95, 96, 97, 98, 99, 100, 101, 102, 103, 104, 105, 106, 107, 108, 109, 110, 111, 112, 113, 114, 115, 116, 117, 118, 119, 120, 121, 122, 123, 124, 125, 126, 127, 128, 129, 130, 131, 132, 133, 134, 135, 136, 137, 138, 139, 140, 141, 142, 143, 144, 145, 146, 147, 148, 149, 150, 151, 152, 153, 154, 155, 156, 157, 158, 170, 171, 172, 173, 174, 175, 176, 177] (by decide +kernel) (by decide +kernel)
set_option maxRecDepth 20000 in
theorem gX5_count_X5_places : GoodIn wsX5_count (va_wsS RX5 140 yX5_places wsX5_places) := goodIn_app (goodIn_of _ (by decide +kernel)) ggX5_count_X5_places
set_option maxRecDepth 20000 in
theorem ggX5_count_Jx4a65c_size_8abf5 : GoodIn wsX5_count wsJx4a65c_size_8abf5 := goodIn_r _ [162, 112, 170, 171, 172] (by decide +kernel) (by decide +kernel)
set_option maxRecDepth 20000 in
theorem gX5_count_Jx4a65c_size_8abf5 : GoodIn wsX5_count (wsV RX5 35 RJx4a65c yJx4a65c_size_8abf5 wsJx4a65c_size_8abf5) := goodIn_app (goodIn_of _ (by decide +kernel)) ggX5_count_Jx4a65c_size_8abf5
theorem dX5_count_0 : decode cX5_count 0 = .ok (.aload_n 0, 1) := by decide +kernel
theorem dX5_count_1 : decode cX5_count 1 = .ok (.iload_n 1, 1) := by decide +kernel
theorem dX5_count_2 : decode cX5_count 2 = .ok (.invokestatic 124, 3) := by decide +kernel
theorem dX5_count_5 : decode cX5_count 5 = .ok (.ifCond .ne 10, 3) := by decide +kernel
theorem dX5_count_8 : decode cX5_count 8 = .ok (.iload_n 2, 1) := by decide +kernel
theorem dX5_count_9 : decode cX5_count 9 = .ok (.invokestatic 124, 3) := by decide +kernel
theorem dX5_count_12 : decode cX5_count 12 = .ok (.ifCond .eq 7, 3) := by decide +kernel
theorem dX5_count_15 : decode cX5_count 15 = .ok (.iconst 1, 1) := by decide +kernel
theorem dX5_count_16 : decode cX5_count 16 = .ok (.goto 4, 3) := by decide +kernel
theorem dX5_count_19 : decode cX5_count 19 = .ok (.iconst 0, 1) := by decide +kernel
theorem dX5_count_20 : decode cX5_count 20 = .ok (.iconst 0, 1) := by decide +kernel
theorem dX5_count_21 : decode cX5_count 21 = .ok (.iconst 0, 1) := by decide +kernel
theorem dX5_count_22 : decode cX5_count 22 = .ok (.invokevirtual 127, 3) := by decide +kernel
theorem dX5_count_25 : decode cX5_count 25 = .ok (.ifCond .eq 7, 3) := by decide +kernel
theorem dX5_count_28 : decode cX5_count 28 = .ok (.iconst 0, 1) := by decide +kernel
theorem dX5_count_29 : decode cX5_count 29 = .ok (.goto 21, 3) := by decide +kernel
theorem dX5_count_32 : decode cX5_count 32 = .ok (.aload_n 0, 1) := by decide +kernel
theorem dX5_count_33 : decode cX5_count 33 = .ok (.getfield 11, 3) := by decide +kernel
theorem dX5_count_36 : decode cX5_count 36 = .ok (.iload_n 1, 1) := by decide +kernel
theorem dX5_count_37 : decode cX5_count 37 = .ok (.aaload, 1) := by decide +kernel
theorem dX5_count_38 : decode cX5_count 38 = .ok (.aload_n 0, 1) := by decide +kernel
theorem dX5_count_39 : decode cX5_count 39 = .ok (.getfield 11, 3) := by decide +kernel
theorem dX5_count_42 : decode cX5_count 42 = .ok (.iload_n 2, 1) := by decide +kernel
theorem dX5_count_43 : decode cX5_count 43 = .ok (.aaload, 1) := by decide +kernel
theorem dX5_count_44 : decode cX5_count 44 = .ok (.invokestatic 140, 3) := by decide +kernel
theorem dX5_count_47 : decode cX5_count 47 = .ok (.invokevirtual 35, 3) := by decide +kernel
theorem dX5_count_50 : decode cX5_count 50 = .ok (.ireturn, 1) := by decide +kernel
set_option maxRecDepth 20000 in
theorem ggX5_find_X5_isNo : GoodIn wsX5_find wsX5_isNo := goodIn_r _ [6, 7, 8, 5, 9] (by decide +kernel) (by decide +kernel)
set_option maxRecDepth 20000 in
theorem gX5_find_X5_isNo : GoodIn wsX5_find (va_wsS RX5 124 yX5_isNo wsX5_isNo) := goodIn_app (goodIn_of _ (by decide +kernel)) ggX5_find_X5_isNo
set_option maxRecDepth 20000 in
theorem ggX5_find_X5_fails : GoodIn wsX5_find wsX5_fails := goodIn_r _ [13, 14, 185, 186, 187, 188, 189, 190, 191] (by decide +kernel) (by decide +kernel)
set_option maxRecDepth 20000 in
theorem gX5_find_X5_fails : GoodIn wsX5_find (wsV RX5 127 RX5 yX5_fails wsX5_fails) := goodIn_app (goodIn_of _ (by decide +kernel)) ggX5_find_X5_fails
set_option maxRecDepth 20000 in
theorem ggX5_find_X5_places : GoodIn wsX5_find wsX5_places := goodIn_r _ [17, 18, 19, 20, 21, 22, 23, 24, 25, 26, 27, 28, 29, 30, 31, 32, 33, 34, 35, 36, 37, 38, 39, 40, 41, 42, 43, 44, 45, 46, 47, 48, 49, 50, 51, 5, 52, 53, 54, 55, 56, 57, 58, 59, 60, 61, 62, 63, 64, 65, 66, 67, 68, 69, 70, 71, 72, 73, 74, 75, 76, 77, 78, 79, 80, 81, 82, 83, 84, 85, 86, 87, 88, 89, 90, 91, 92, 93, 94, 95, 96, 97, 98, 99, 100, 101, 102, 103, 104, 105, 106, 107, 108, 109, 110, 111, 112, 113, 114, 115, 116, 117, 118, 119, 120, 121, 122, 123, 124, 125, 126, 127, 128, 129, 130, 131, 132, 133, 134, 135, 136, 137, 138, 139, 140, 141, 142, 143, 144, 145, 146, 147, 148, 149, 150, 151, 152, 153, 154, 155, 156, 157, 158, 159, 192, 193, 194, 195, 196, 197, 198, 199] (by decide +kernel) (by decide +kernel)
set_option maxRecDepth 20000 in
theorem gX5_find_X5_places : GoodIn wsX5_find (va_wsS RX5 140 yX5_places wsX5_places) := goodIn_app (goodIn_of _ (by decide +kernel)) ggX5_find_X5_places
set_option maxRecDepth 20000 in
theorem ggX5_find_Jx4a65c_isEmpty_aae02 : GoodIn wsX5_find wsJx4a65c_isEmpty_aae02 := goodIn_r _ [163, 113, 192, 193, 194] (by decide +kernel) (by decide +kernel)
set_option maxRecDepth 20000 in
theorem gX5_find_Jx4a65c_isEmpty_aae02 : GoodIn wsX5_find (wsV RX5 144 RJx4a65c yJx4a65c_isEmpty_aae02 wsJx4a65c_isEmpty_aae02) := goodIn_app (goodIn_of _ (by decide +kernel)) ggX5_find_Jx4a65c_isEmpty_aae02
set_option maxRecDepth 20000 in
theorem ggX5_find_Jx4a65c_size_8abf5 : GoodIn wsX5_find wsJx4a65c_size_8abf5 := goodIn_r _ [167, 113, 192, 193, 194] (by decide +kernel) (by decide +kernel)
set_option maxRecDepth 20000 in
theorem gX5_find_Jx4a65c_size_8abf5 : GoodIn wsX5_find (wsV RX5 35 RJx4a65c yJx4a65c_size_8abf5 wsJx4a65c_size_8abf5) := goodIn_app (goodIn_of _ (by decide +kernel)) ggX5_find_Jx4a65c_size_8abf5
set_option maxRecDepth 20000 in
theorem ggX5_find_Jx4a65c_get_915e3 : GoodIn wsX5_find wsJx4a65c_get_915e3 := goodIn_r _ [171, 113, 172, 173, 174, 175, 176, 70, 71, 72, 177, 178, 179, 20, 180, 25, 192, 193, 194] (by decide +kernel) (by decide +kernel)
set_option maxRecDepth 20000 in
theorem gX5_find_Jx4a65c_get_915e3 : GoodIn wsX5_find (wsV RX5 67 RJx4a65c yJx4a65c_get_915e3 wsJx4a65c_get_915e3) := goodIn_app (goodIn_of _ (by decide +kernel)) ggX5_find_Jx4a65c_get_915e3
set_option maxRecDepth 20000 in
theorem ggX5_find_J6_intValue_8abf5 : GoodIn wsX5_find wsJ6_intValue_8abf5 := goodIn_r _ [184, 101, 199] (by decide +kernel) (by decide +kernel)
set_option maxRecDepth 20000 in
theorem gX5_find_J6_intValue_8abf5 : GoodIn wsX5_find (wsV RX5 148 RJ6 yJ6_intValue_8abf5 wsJ6_intValue_8abf5) := goodIn_app (goodIn_of _ (by decide +kernel)) ggX5_find_J6_intValue_8abf5
theorem dX5_find_0 : decode cX5_find 0 = .ok (.aload_n 0, 1) := by decide +kernel
theorem dX5_find_1 : decode cX5_find 1 = .ok (.iload_n 1, 1) := by decide +kernel
theorem dX5_find_2 : decode cX5_find 2 = .ok (.invokestatic 124, 3) := by decide +kernel
theorem dX5_find_5 : decode cX5_find 5 = .ok (.ifCond .ne 10, 3) := by decide +kernel
theorem dX5_find_8 : decode cX5_find 8 = .ok (.iload_n 2, 1) := by decide +kernel
theorem dX5_find_9 : decode cX5_find 9 = .ok (.invokestatic 124, 3) := by decide +kernel
theorem dX5_find_12 : decode cX5_find 12 = .ok (.ifCond .eq 7, 3) := by decide +kernel
theorem dX5_find_15 : decode cX5_find 15 = .ok (.iconst 1, 1) := by decide +kernel
theorem dX5_find_16 : decode cX5_find 16 = .ok (.goto 4, 3) := by decide +kernel
theorem dX5_find_19 : decode cX5_find 19 = .ok (.iconst 0, 1) := by decide +kernel
theorem dX5_find_20 : decode cX5_find 20 = .ok (.iconst 0, 1) := by decide +kernel
theorem dX5_find_21 : decode cX5_find 21 = .ok (.iconst 0, 1) := by decide +kernel
theorem dX5_find_22 : decode cX5_find 22 = .ok (.invokevirtual 127, 3) := by decide +kernel
theorem dX5_find_25 : decode cX5_find 25 = .ok (.ifCond .eq 5, 3) := by decide +kernel
theorem dX5_find_28 : decode cX5_find 28 = .ok (.iconst 0, 1) := by decide +kernel
theorem dX5_find_29 : decode cX5_find 29 = .ok (.ireturn, 1) := by decide +kernel
theorem dX5_find_30 : decode cX5_find 30 = .ok (.aload_n 0, 1) := by decide +kernel
theorem dX5_find_31 : decode cX5_find 31 = .ok (.getfield 11, 3) := by decide +kernel
theorem dX5_find_34 : decode cX5_find 34 = .ok (.iload_n 1, 1) := by decide +kernel
theorem dX5_find_35 : decode cX5_find 35 = .ok (.aaload, 1) := by decide +kernel
theorem dX5_find_36 : decode cX5_find 36 = .ok (.aload_n 0, 1) := by decide +kernel
theorem dX5_find_37 : decode cX5_find 37 = .ok (.getfield 11, 3) := by decide +kernel
theorem dX5_find_40 : decode cX5_find 40 = .ok (.iload_n 2, 1) := by decide +kernel
theorem dX5_find_41 : decode cX5_find 41 = .ok (.aaload, 1) := by decide +kernel
theorem dX5_find_42 : decode cX5_find 42 = .ok (.invokestatic 140, 3) := by decide +kernel
theorem dX5_find_45 : decode cX5_find 45 = .ok (.astore 4, 2) := by decide +kernel
theorem dX5_find_47 : decode cX5_find 47 = .ok (.aload 4, 2) := by decide +kernel
theorem dX5_find_49 : decode cX5_find 49 = .ok (.invokevirtual 144, 3) := by decide +kernel
theorem dX5_find_52 : decode cX5_find 52 = .ok (.ifCond .eq 7, 3) := by decide +kernel
theorem dX5_find_59 : decode cX5_find 59 = .ok (.aload 4, 2) := by decide +kernel
theorem dX5_find_61 : decode cX5_find 61 = .ok (.iload_n 3, 1) := by decide +kernel
theorem dX5_find_62 : decode cX5_find 62 = .ok (.ifCond .eq 13, 3) := by decide +kernel
theorem dX5_find_65 : decode cX5_find 65 = .ok (.aload 4, 2) := by decide +kernel
theorem dX5_find_67 : decode cX5_find 67 = .ok (.invokevirtual 35, 3) := by decide +kernel
theorem dX5_find_70 : decode cX5_find 70 = .ok (.iconst 1, 1) := by decide +kernel
theorem dX5_find_71 : decode cX5_find 71 = .ok (.isub, 1) := by decide +kernel
theorem dX5_find_72 : decode cX5_find 72 = .ok (.goto 4, 3) := by decide +kernel
theorem dX5_find_75 : decode cX5_find 75 = .ok (.iconst 0, 1) := by decide +kernel
theorem dX5_find_76 : decode cX5_find 76 = .ok (.invokevirtual 67, 3) := by decide +kernel
theorem dX5_find_79 : decode cX5_find 79 = .ok (.checkcast 135, 3) := by decide +kernel
theorem dX5_find_82 : decode cX5_find 82 = .ok (.invokevirtual 148, 3) := by decide +kernel
theorem dX5_find_85 : decode cX5_find 85 = .ok (.ireturn, 1) := by decide +kernel
set_option maxRecDepth 20000 in
theorem ggX5_added_Jx4a65c_size_8abf5 : GoodIn wsX5_added wsJx4a65c_size_8abf5 := goodIn_r _ [7, 8, 92, 93, 94] (by decide +kernel) (by decide +kernel)
set_option maxRecDepth 20000 in
theorem gX5_added_Jx4a65c_size_8abf5 : GoodIn wsX5_added (wsV RX5 35 RJx4a65c yJx4a65c_size_8abf5 wsJx4a65c_size_8abf5) := goodIn_app (goodIn_of _ (by decide +kernel)) ggX5_added_Jx4a65c_size_8abf5
set_option maxRecDepth 20000 in
theorem ggX5_added_J0_isEmpty_aae02 : GoodIn wsX5_added wsJ0_isEmpty_aae02 := goodIn_r _ [13, 14, 95, 96, 97, 98] (by decide +kernel) (by decide +kernel)
set_option maxRecDepth 20000 in
theorem gX5_added_J0_isEmpty_aae02 : GoodIn wsX5_added (wsV RX5 151 RJ0 yJ0_isEmpty_aae02 wsJ0_isEmpty_aae02) := goodIn_app (goodIn_of _ (by decide +kernel)) ggX5_added_J0_isEmpty_aae02
set_option maxRecDepth 20000 in
theorem ggX5_added_X5_refuse : GoodIn wsX5_added wsX5_refuse := goodIn_r _ [29, 30, 85, 86, 87, 88, 89, 90, 91] (by decide +kernel) (by decide +kernel)
set_option maxRecDepth 20000 in
theorem gX5_added_X5_refuse : GoodIn wsX5_added (wsV RX5 131 RX5 yX5_refuse wsX5_refuse) := goodIn_app (goodIn_of _ (by decide +kernel)) ggX5_added_X5_refuse
theorem dX5_added_0 : decode cX5_added 0 = .ok (.aload_n 0, 1) := by decide +kernel
theorem dX5_added_1 : decode cX5_added 1 = .ok (.getfield 20, 3) := by decide +kernel
theorem dX5_added_4 : decode cX5_added 4 = .ok (.invokevirtual 35, 3) := by decide +kernel
theorem dX5_added_7 : decode cX5_added 7 = .ok (.bipush 8, 2) := by decide +kernel
theorem dX5_added_9 : decode cX5_added 9 = .ok (.if_icmp .eq 28, 3) := by decide +kernel
theorem dX5_added_12 : decode cX5_added 12 = .ok (.aload_n 1, 1) := by decide +kernel
theorem dX5_added_13 : decode cX5_added 13 = .ok (.invokevirtual 151, 3) := by decide +kernel
theorem dX5_added_16 : decode cX5_added 16 = .ok (.ifCond .ne 21, 3) := by decide +kernel
theorem dX5_added_37 : decode cX5_added 37 = .ok (.aload_n 0, 1) := by decide +kernel
theorem dX5_added_38 : decode cX5_added 38 = .ok (.invokevirtual 131, 3) := by decide +kernel
theorem dX5_added_41 : decode cX5_added 41 = .ok (.ireturn, 1) := by decide +kernel
set_option maxRecDepth 20000 in
theorem ggX5_rule_X5_isNo : GoodIn wsX5_rule wsX5_isNo := goodIn_r _ [5, 6, 7, 4, 8] (by decide +kernel) (by decide +kernel)
set_option maxRecDepth 20000 in
theorem gX5_rule_X5_isNo : GoodIn wsX5_rule (va_wsS RX5 124 yX5_isNo wsX5_isNo) := goodIn_app (goodIn_of _ (by decide +kernel)) ggX5_rule_X5_isNo
set_option maxRecDepth 20000 in
theorem ggX5_rule_X5_fails : GoodIn wsX5_rule wsX5_fails := goodIn_r _ [12, 13, 101, 102, 103, 104, 105, 106, 107] (by decide +kernel) (by decide +kernel)
set_option maxRecDepth 20000 in
theorem gX5_rule_X5_fails : GoodIn wsX5_rule (wsV RX5 127 RX5 yX5_fails wsX5_fails) := goodIn_app (goodIn_of _ (by decide +kernel)) ggX5_rule_X5_fails
set_option maxRecDepth 20000 in
theorem ggX5_rule_X5_added : GoodIn wsX5_rule wsX5_added := goodIn_r _ [17, 18, 19, 20, 21, 22, 23, 24, 25, 26, 27, 28, 29, 30, 31, 32, 33, 34, 35, 36, 37, 38, 39, 40, 41, 42, 43, 44, 4, 45, 46, 47, 48, 49, 50, 51, 52, 53, 54, 55, 56, 57, 58, 59, 60, 61, 62, 63, 64, 65, 66, 67, 68, 69, 70, 71, 72, 73, 74, 75, 76, 77, 78, 79, 80, 81, 82, 83, 84, 85, 86, 87, 88, 89, 90, 91, 92, 93, 94, 95, 96, 97, 98, 99, 100, 101, 102, 103, 104, 105, 106, 107, 108, 109, 110, 111, 112, 113, 114] (by decide +kernel) (by decide +kernel)
set_option maxRecDepth 20000 in
theorem gX5_rule_X5_added : GoodIn wsX5_rule (wsV RX5 152 RX5 yX5_added wsX5_added) := goodIn_app (goodIn_of _ (by decide +kernel)) ggX5_rule_X5_added
theorem dX5_rule_0 : decode cX5_rule 0 = .ok (.aload_n 0, 1) := by decide +kernel
theorem dX5_rule_1 : decode cX5_rule 1 = .ok (.iload_n 1, 1) := by decide +kernel
theorem dX5_rule_2 : decode cX5_rule 2 = .ok (.invokestatic 124, 3) := by decide +kernel
theorem dX5_rule_5 : decode cX5_rule 5 = .ok (.ifCond .ne 10, 3) := by decide +kernel
theorem dX5_rule_8 : decode cX5_rule 8 = .ok (.iload_n 2, 1) := by decide +kernel
theorem dX5_rule_9 : decode cX5_rule 9 = .ok (.invokestatic 124, 3) := by decide +kernel
theorem dX5_rule_12 : decode cX5_rule 12 = .ok (.ifCond .eq 7, 3) := by decide +kernel
theorem dX5_rule_15 : decode cX5_rule 15 = .ok (.iconst 1, 1) := by decide +kernel
theorem dX5_rule_16 : decode cX5_rule 16 = .ok (.goto 4, 3) := by decide +kernel
theorem dX5_rule_19 : decode cX5_rule 19 = .ok (.iconst 0, 1) := by decide +kernel
theorem dX5_rule_20 : decode cX5_rule 20 = .ok (.iconst 0, 1) := by decide +kernel
theorem dX5_rule_21 : decode cX5_rule 21 = .ok (.iconst 0, 1) := by decide +kernel
theorem dX5_rule_22 : decode cX5_rule 22 = .ok (.invokevirtual 127, 3) := by decide +kernel
theorem dX5_rule_25 : decode cX5_rule 25 = .ok (.ifCond .eq 7, 3) := by decide +kernel
theorem dX5_rule_28 : decode cX5_rule 28 = .ok (.iconst 0, 1) := by decide +kernel
theorem dX5_rule_29 : decode cX5_rule 29 = .ok (.goto 19, 3) := by decide +kernel
theorem dX5_rule_32 : decode cX5_rule 32 = .ok (.aload_n 0, 1) := by decide +kernel
theorem dX5_rule_33 : decode cX5_rule 33 = .ok (.aload_n 0, 1) := by decide +kernel
theorem dX5_rule_34 : decode cX5_rule 34 = .ok (.getfield 11, 3) := by decide +kernel
theorem dX5_rule_37 : decode cX5_rule 37 = .ok (.iload_n 1, 1) := by decide +kernel
theorem dX5_rule_38 : decode cX5_rule 38 = .ok (.aaload, 1) := by decide +kernel
theorem dX5_rule_39 : decode cX5_rule 39 = .ok (.aload_n 0, 1) := by decide +kernel
theorem dX5_rule_40 : decode cX5_rule 40 = .ok (.getfield 11, 3) := by decide +kernel
theorem dX5_rule_43 : decode cX5_rule 43 = .ok (.iload_n 2, 1) := by decide +kernel
theorem dX5_rule_44 : decode cX5_rule 44 = .ok (.aaload, 1) := by decide +kernel
theorem dX5_rule_45 : decode cX5_rule 45 = .ok (.invokevirtual 152, 3) := by decide +kernel
theorem dX5_rule_48 : decode cX5_rule 48 = .ok (.ireturn, 1) := by decide +kernel
set_option maxRecDepth 20000 in
theorem ggX5_falling_X5_isNo : GoodIn wsX5_falling wsX5_isNo := goodIn_r _ [5, 6, 7, 4, 8] (by decide +kernel) (by decide +kernel)
set_option maxRecDepth 20000 in
theorem gX5_falling_X5_isNo : GoodIn wsX5_falling (va_wsS RX5 124 yX5_isNo wsX5_isNo) := goodIn_app (goodIn_of _ (by decide +kernel)) ggX5_falling_X5_isNo
set_option maxRecDepth 20000 in
theorem ggX5_falling_X5_fails : GoodIn wsX5_falling wsX5_fails := goodIn_r _ [12, 13, 141, 142, 143, 144, 145, 146, 147] (by decide +kernel) (by decide +kernel)
set_option maxRecDepth 20000 in
theorem gX5_falling_X5_fails : GoodIn wsX5_falling (wsV RX5 127 RX5 yX5_fails wsX5_fails) := goodIn_app (goodIn_of _ (by decide +kernel)) ggX5_falling_X5_fails
set_option maxRecDepth 20000 in
theorem ggX5_falling_X5_compare : GoodIn wsX5_falling wsX5_compare := goodIn_r _ [16, 17, 18, 19, 20, 21, 22, 23, 24, 25, 26, 27, 28, 29, 30, 31, 32, 33, 34, 35, 36, 37, 38, 39, 40, 41, 42, 43, 44, 45, 46, 47, 48, 49, 50, 51, 52, 53, 54, 55, 56, 57, 58, 59, 60, 61, 62, 63, 64, 65, 148, 149, 150, 151] (by decide +kernel) (by decide +kernel)
set_option maxRecDepth 20000 in
theorem gX5_falling_X5_compare : GoodIn wsX5_falling (va_wsS RX5 71 yX5_compare wsX5_compare) := goodIn_app (goodIn_of _ (by decide +kernel)) ggX5_falling_X5_compare
set_option maxRecDepth 20000 in
theorem ggX5_falling_X5_refuse : GoodIn wsX5_falling wsX5_refuse := goodIn_r _ [69, 70, 141, 142, 143, 144, 145, 146, 147] (by decide +kernel) (by decide +kernel)
set_option maxRecDepth 20000 in
theorem gX5_falling_X5_refuse : GoodIn wsX5_falling (wsV RX5 131 RX5 yX5_refuse wsX5_refuse) := goodIn_app (goodIn_of _ (by decide +kernel)) ggX5_falling_X5_refuse
theorem dX5_falling_0 : decode cX5_falling 0 = .ok (.aload_n 0, 1) := by decide +kernel
theorem dX5_falling_1 : decode cX5_falling 1 = .ok (.iload_n 1, 1) := by decide +kernel
theorem dX5_falling_2 : decode cX5_falling 2 = .ok (.invokestatic 124, 3) := by decide +kernel
theorem dX5_falling_5 : decode cX5_falling 5 = .ok (.ifCond .ne 10, 3) := by decide +kernel
theorem dX5_falling_8 : decode cX5_falling 8 = .ok (.iload_n 2, 1) := by decide +kernel
theorem dX5_falling_9 : decode cX5_falling 9 = .ok (.invokestatic 124, 3) := by decide +kernel
theorem dX5_falling_12 : decode cX5_falling 12 = .ok (.ifCond .eq 7, 3) := by decide +kernel
theorem dX5_falling_15 : decode cX5_falling 15 = .ok (.iconst 1, 1) := by decide +kernel
theorem dX5_falling_16 : decode cX5_falling 16 = .ok (.goto 4, 3) := by decide +kernel
theorem dX5_falling_19 : decode cX5_falling 19 = .ok (.iconst 0, 1) := by decide +kernel
theorem dX5_falling_20 : decode cX5_falling 20 = .ok (.iconst 0, 1) := by decide +kernel
theorem dX5_falling_21 : decode cX5_falling 21 = .ok (.iconst 0, 1) := by decide +kernel
theorem dX5_falling_22 : decode cX5_falling 22 = .ok (.invokevirtual 127, 3) := by decide +kernel
theorem dX5_falling_25 : decode cX5_falling 25 = .ok (.ifCond .eq 5, 3) := by decide +kernel
theorem dX5_falling_28 : decode cX5_falling 28 = .ok (.iconst 0, 1) := by decide +kernel
theorem dX5_falling_29 : decode cX5_falling 29 = .ok (.ireturn, 1) := by decide +kernel
theorem dX5_falling_30 : decode cX5_falling 30 = .ok (.aload_n 0, 1) := by decide +kernel
theorem dX5_falling_31 : decode cX5_falling 31 = .ok (.getfield 11, 3) := by decide +kernel
theorem dX5_falling_34 : decode cX5_falling 34 = .ok (.iload_n 1, 1) := by decide +kernel
theorem dX5_falling_35 : decode cX5_falling 35 = .ok (.aaload, 1) := by decide +kernel
theorem dX5_falling_36 : decode cX5_falling 36 = .ok (.aload_n 0, 1) := by decide +kernel
theorem dX5_falling_37 : decode cX5_falling 37 = .ok (.getfield 11, 3) := by decide +kernel
theorem dX5_falling_40 : decode cX5_falling 40 = .ok (.iload_n 2, 1) := by decide +kernel
theorem dX5_falling_41 : decode cX5_falling 41 = .ok (.aaload, 1) := by decide +kernel
theorem dX5_falling_42 : decode cX5_falling 42 = .ok (.invokestatic 71, 3) := by decide +kernel
theorem dX5_falling_45 : decode cX5_falling 45 = .ok (.istore_n 3, 1) := by decide +kernel
theorem dX5_falling_46 : decode cX5_falling 46 = .ok (.iload_n 3, 1) := by decide +kernel
theorem dX5_falling_47 : decode cX5_falling 47 = .ok (.ifCond .ne 8, 3) := by decide +kernel
theorem dX5_falling_50 : decode cX5_falling 50 = .ok (.aload_n 0, 1) := by decide +kernel
theorem dX5_falling_51 : decode cX5_falling 51 = .ok (.invokevirtual 131, 3) := by decide +kernel
theorem dX5_falling_54 : decode cX5_falling 54 = .ok (.ireturn, 1) := by decide +kernel
set_option maxRecDepth 20000 in
theorem ggX5_drop_X5_isNoRule : GoodIn wsX5_drop wsX5_isNoRule := goodIn_r _ [7, 1, 8, 9, 10, 11, 12, 13, 14, 15, 6, 16, 45, 46, 47, 48, 49, 50, 51, 52, 53, 54] (by decide +kernel) (by decide +kernel)
set_option maxRecDepth 20000 in
theorem gX5_drop_X5_isNoRule : GoodIn wsX5_drop (wsV RX5 155 RX5 yX5_isNoRule wsX5_isNoRule) := goodIn_app (goodIn_of _ (by decide +kernel)) ggX5_drop_X5_isNoRule
set_option maxRecDepth 20000 in
theorem ggX5_drop_X5_fails : GoodIn wsX5_drop wsX5_fails := goodIn_r _ [20, 21, 45, 46, 47, 48, 49, 50, 51] (by decide +kernel) (by decide +kernel)
set_option maxRecDepth 20000 in
theorem gX5_drop_X5_fails : GoodIn wsX5_drop (wsV RX5 127 RX5 yX5_fails wsX5_fails) := goodIn_app (goodIn_of _ (by decide +kernel)) ggX5_drop_X5_fails
theorem dX5_drop_0 : decode cX5_drop 0 = .ok (.aload_n 0, 1) := by decide +kernel
theorem dX5_drop_1 : decode cX5_drop 1 = .ok (.aload_n 0, 1) := by decide +kernel
theorem dX5_drop_2 : decode cX5_drop 2 = .ok (.iload_n 1, 1) := by decide +kernel
theorem dX5_drop_3 : decode cX5_drop 3 = .ok (.invokevirtual 155, 3) := by decide +kernel
theorem dX5_drop_6 : decode cX5_drop 6 = .ok (.iconst 0, 1) := by decide +kernel
theorem dX5_drop_7 : decode cX5_drop 7 = .ok (.iconst 0, 1) := by decide +kernel
theorem dX5_drop_8 : decode cX5_drop 8 = .ok (.invokevirtual 127, 3) := by decide +kernel
theorem dX5_drop_11 : decode cX5_drop 11 = .ok (.ifCond .eq 5, 3) := by decide +kernel
theorem dX5_drop_14 : decode cX5_drop 14 = .ok (.iconst 0, 1) := by decide +kernel
theorem dX5_drop_15 : decode cX5_drop 15 = .ok (.ireturn, 1) := by decide +kernel
set_option maxRecDepth 20000 in
theorem ggX5_noRules_Jx4a65c_size_8abf5 : GoodIn wsX5_noRules wsJx4a65c_size_8abf5 := goodIn_r _ [10, 11, 36, 37, 38] (by decide +kernel) (by decide +kernel)
set_option maxRecDepth 20000 in
theorem gX5_noRules_Jx4a65c_size_8abf5 : GoodIn wsX5_noRules (wsV RX5 35 RJx4a65c yJx4a65c_size_8abf5 wsJx4a65c_size_8abf5) := goodIn_app (goodIn_of _ (by decide +kernel)) ggX5_noRules_Jx4a65c_size_8abf5
set_option maxRecDepth 20000 in
theorem ggX5_noRules_Jx4a65c_init_da8c8 : GoodIn wsX5_noRules wsJx4a65c_init_da8c8 := goodIn_r _ [14, 15, 16, 17, 18, 19, 20, 21, 22, 23, 24, 25, 26, 27, 28, 36, 37, 38] (by decide +kernel) (by decide +kernel)
set_option maxRecDepth 20000 in
theorem gX5_noRules_Jx4a65c_init_da8c8 : GoodIn wsX5_noRules (wsJx4a65c_init_da8c8) := ggX5_noRules_Jx4a65c_init_da8c8
theorem dX5_noRules_0 : decode cX5_noRules 0 = .ok (.aload_n 0, 1) := by decide +kernel
theorem dX5_noRules_1 : decode cX5_noRules 1 = .ok (.iconst 0, 1) := by decide +kernel
theorem dX5_noRules_2 : decode cX5_noRules 2 = .ok (.putfield 27, 3) := by decide +kernel
theorem dX5_noRules_5 : decode cX5_noRules 5 = .ok (.aload_n 0, 1) := by decide +kernel
theorem dX5_noRules_6 : decode cX5_noRules 6 = .ok (.getfield 20, 3) := by decide +kernel
theorem dX5_noRules_9 : decode cX5_noRules 9 = .ok (.invokevirtual 35, 3) := by decide +kernel
theorem dX5_noRules_12 : decode cX5_noRules 12 = .ok (.istore_n 1, 1) := by decide +kernel
theorem dX5_noRules_13 : decode cX5_noRules 13 = .ok (.aload_n 0, 1) := by decide +kernel
theorem dX5_noRules_14 : decode cX5_noRules 14 = .ok (.new 17, 3) := by decide +kernel
theorem dX5_noRules_17 : decode cX5_noRules 17 = .ok (.dup, 1) := by decide +kernel
theorem dX5_noRules_18 : decode cX5_noRules 18 = .ok (.invokespecial 19, 3) := by decide +kernel
theorem dX5_noRules_21 : decode cX5_noRules 21 = .ok (.putfield 20, 3) := by decide +kernel
theorem dX5_noRules_24 : decode cX5_noRules 24 = .ok (.aload_n 0, 1) := by decide +kernel
theorem dX5_noRules_25 : decode cX5_noRules 25 = .ok (.new 17, 3) := by decide +kernel
theorem dX5_noRules_28 : decode cX5_noRules 28 = .ok (.dup, 1) := by decide +kernel
theorem dX5_noRules_29 : decode cX5_noRules 29 = .ok (.invokespecial 19, 3) := by decide +kernel
theorem dX5_noRules_32 : decode cX5_noRules 32 = .ok (.putfield 24, 3) := by decide +kernel
theorem dX5_noRules_35 : decode cX5_noRules 35 = .ok (.iload_n 1, 1) := by decide +kernel
theorem dX5_noRules_36 : decode cX5_noRules 36 = .ok (.ireturn, 1) := by decide +kernel
set_option maxRecDepth 20000 in
theorem ggX5_flip_X5_isNoRule : GoodIn wsX5_flip wsX5_isNoRule := goodIn_r _ [8, 3, 9, 10, 11, 12, 13, 14, 15, 16, 7, 17, 109, 110, 111, 112, 113, 114, 115, 116, 117, 118] (by decide +kernel) (by decide +kernel)
set_option maxRecDepth 20000 in
theorem gX5_flip_X5_isNoRule : GoodIn wsX5_flip (wsV RX5 155 RX5 yX5_isNoRule wsX5_isNoRule) := goodIn_app (goodIn_of _ (by decide +kernel)) ggX5_flip_X5_isNoRule
set_option maxRecDepth 20000 in
theorem ggX5_flip_X5_fails : GoodIn wsX5_flip wsX5_fails := goodIn_r _ [21, 22, 109, 110, 111, 112, 113, 114, 115] (by decide +kernel) (by decide +kernel)
set_option maxRecDepth 20000 in
theorem gX5_flip_X5_fails : GoodIn wsX5_flip (wsV RX5 127 RX5 yX5_fails wsX5_fails) := goodIn_app (goodIn_of _ (by decide +kernel)) ggX5_flip_X5_fails
theorem dX5_flip_0 : decode cX5_flip 0 = .ok (.aload_n 0, 1) := by decide +kernel
theorem dX5_flip_1 : decode cX5_flip 1 = .ok (.aload_n 0, 1) := by decide +kernel
theorem dX5_flip_2 : decode cX5_flip 2 = .ok (.iload_n 1, 1) := by decide +kernel
theorem dX5_flip_3 : decode cX5_flip 3 = .ok (.invokevirtual 155, 3) := by decide +kernel
theorem dX5_flip_6 : decode cX5_flip 6 = .ok (.iconst 0, 1) := by decide +kernel
theorem dX5_flip_7 : decode cX5_flip 7 = .ok (.iconst 0, 1) := by decide +kernel
theorem dX5_flip_8 : decode cX5_flip 8 = .ok (.invokevirtual 127, 3) := by decide +kernel
theorem dX5_flip_11 : decode cX5_flip 11 = .ok (.ifCond .eq 5, 3) := by decide +kernel
theorem dX5_flip_14 : decode cX5_flip 14 = .ok (.iconst 0, 1) := by decide +kernel
theorem dX5_flip_15 : decode cX5_flip 15 = .ok (.ireturn, 1) := by decide +kernel
set_option maxRecDepth 20000 in
theorem ggX5_side_X5_isNo : GoodIn wsX5_side wsX5_isNo := goodIn_r _ [8, 9, 10, 7, 11] (by decide +kernel) (by decide +kernel)
set_option maxRecDepth 20000 in
theorem gX5_side_X5_isNo : GoodIn wsX5_side (va_wsS RX5 124 yX5_isNo wsX5_isNo) := goodIn_app (goodIn_of _ (by decide +kernel)) ggX5_side_X5_isNo
set_option maxRecDepth 20000 in
theorem ggX5_side_X5_isNoRule : GoodIn wsX5_side wsX5_isNoRule := goodIn_r _ [15, 4, 16, 17, 18, 19, 20, 21, 9, 10, 7, 11, 56, 57, 58, 59, 60, 61, 62, 63, 64, 65] (by decide +kernel) (by decide +kernel)
set_option maxRecDepth 20000 in
theorem gX5_side_X5_isNoRule : GoodIn wsX5_side (wsV RX5 155 RX5 yX5_isNoRule wsX5_isNoRule) := goodIn_app (goodIn_of _ (by decide +kernel)) ggX5_side_X5_isNoRule
set_option maxRecDepth 20000 in
theorem ggX5_side_X5_fails : GoodIn wsX5_side wsX5_fails := goodIn_r _ [25, 26, 56, 57, 58, 59, 60, 61, 62] (by decide +kernel) (by decide +kernel)
set_option maxRecDepth 20000 in
theorem gX5_side_X5_fails : GoodIn wsX5_side (wsV RX5 127 RX5 yX5_fails wsX5_fails) := goodIn_app (goodIn_of _ (by decide +kernel)) ggX5_side_X5_fails
theorem dX5_side_0 : decode cX5_side 0 = .ok (.aload_n 0, 1) := by decide +kernel
theorem dX5_side_1 : decode cX5_side 1 = .ok (.iload_n 1, 1) := by decide +kernel
theorem dX5_side_2 : decode cX5_side 2 = .ok (.invokestatic 124, 3) := by decide +kernel
theorem dX5_side_5 : decode cX5_side 5 = .ok (.ifCond .ne 11, 3) := by decide +kernel
theorem dX5_side_8 : decode cX5_side 8 = .ok (.aload_n 0, 1) := by decide +kernel
theorem dX5_side_9 : decode cX5_side 9 = .ok (.iload_n 2, 1) := by decide +kernel
theorem dX5_side_10 : decode cX5_side 10 = .ok (.invokevirtual 155, 3) := by decide +kernel
theorem dX5_side_13 : decode cX5_side 13 = .ok (.ifCond .eq 7, 3) := by decide +kernel
theorem dX5_side_16 : decode cX5_side 16 = .ok (.iconst 1, 1) := by decide +kernel
