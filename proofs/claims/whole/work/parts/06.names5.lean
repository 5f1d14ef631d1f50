theorem dX6_many_138 : decode cX6_many 138 = .ok (.getfield 42, 3) := by decide +kernel
theorem dX6_many_141 : decode cX6_many 141 = .ok (.iload 5, 2) := by decide +kernel
theorem dX6_many_143 : decode cX6_many 143 = .ok (.iaload, 1) := by decide +kernel
theorem dX6_many_144 : decode cX6_many 144 = .ok (.iastore, 1) := by decide +kernel
theorem dX6_many_145 : decode cX6_many 145 = .ok (.iinc 5 1, 3) := by decide +kernel
theorem dX6_many_148 : decode cX6_many 148 = .ok (.goto (-24), 3) := by decide +kernel
theorem dX6_many_151 : decode cX6_many 151 = .ok (.aload_n 0, 1) := by decide +kernel
theorem dX6_many_152 : decode cX6_many 152 = .ok (.iload_n 2, 1) := by decide +kernel
theorem dX6_many_153 : decode cX6_many 153 = .ok (.invokevirtual 125, 3) := by decide +kernel
theorem dX6_many_156 : decode cX6_many 156 = .ok (.iconst (-1), 1) := by decide +kernel
theorem dX6_many_157 : decode cX6_many 157 = .ok (.if_icmp .eq (-77), 3) := by decide +kernel
theorem dX6_many_160 : decode cX6_many 160 = .ok (.iload 4, 2) := by decide +kernel
theorem dX6_many_162 : decode cX6_many 162 = .ok (.iload_n 1, 1) := by decide +kernel
theorem dX6_many_163 : decode cX6_many 163 = .ok (.iconst 1, 1) := by decide +kernel
theorem dX6_many_164 : decode cX6_many 164 = .ok (.isub, 1) := by decide +kernel
theorem dX6_many_165 : decode cX6_many 165 = .ok (.if_icmp .ne 9, 3) := by decide +kernel
theorem dX6_many_168 : decode cX6_many 168 = .ok (.iinc 3 1, 3) := by decide +kernel
theorem dX6_many_171 : decode cX6_many 171 = .ok (.goto (-91), 3) := by decide +kernel
theorem dX6_many_174 : decode cX6_many 174 = .ok (.iinc 4 1, 3) := by decide +kernel
theorem dX6_many_177 : decode cX6_many 177 = .ok (.aload_n 0, 1) := by decide +kernel
theorem dX6_many_178 : decode cX6_many 178 = .ok (.getfield 42, 3) := by decide +kernel
theorem dX6_many_181 : decode cX6_many 181 = .ok (.iload 4, 2) := by decide +kernel
theorem dX6_many_183 : decode cX6_many 183 = .ok (.iconst 0, 1) := by decide +kernel
theorem dX6_many_184 : decode cX6_many 184 = .ok (.iastore, 1) := by decide +kernel
theorem dX6_many_185 : decode cX6_many 185 = .ok (.goto (-105), 3) := by decide +kernel
theorem dX6_many_188 : decode cX6_many 188 = .ok (.iload_n 3, 1) := by decide +kernel
theorem dX6_many_189 : decode cX6_many 189 = .ok (.ireturn, 1) := by decide +kernel
theorem dX6_isMirror_0 : decode cX6_isMirror 0 = .ok (.iconst 1, 1) := by decide +kernel
theorem dX6_isMirror_1 : decode cX6_isMirror 1 = .ok (.istore_n 1, 1) := by decide +kernel
theorem dX6_isMirror_2 : decode cX6_isMirror 2 = .ok (.iconst 0, 1) := by decide +kernel
theorem dX6_isMirror_3 : decode cX6_isMirror 3 = .ok (.istore_n 2, 1) := by decide +kernel
theorem dX6_isMirror_4 : decode cX6_isMirror 4 = .ok (.iload_n 2, 1) := by decide +kernel
theorem dX6_isMirror_5 : decode cX6_isMirror 5 = .ok (.aload_n 0, 1) := by decide +kernel
theorem dX6_isMirror_6 : decode cX6_isMirror 6 = .ok (.getfield 100, 3) := by decide +kernel
theorem dX6_isMirror_9 : decode cX6_isMirror 9 = .ok (.if_icmp .ge 41, 3) := by decide +kernel
theorem dX6_isMirror_12 : decode cX6_isMirror 12 = .ok (.iload_n 1, 1) := by decide +kernel
theorem dX6_isMirror_13 : decode cX6_isMirror 13 = .ok (.ifCond .eq 29, 3) := by decide +kernel
theorem dX6_isMirror_16 : decode cX6_isMirror 16 = .ok (.aload_n 0, 1) := by decide +kernel
theorem dX6_isMirror_17 : decode cX6_isMirror 17 = .ok (.getfield 33, 3) := by decide +kernel
theorem dX6_isMirror_20 : decode cX6_isMirror 20 = .ok (.iload_n 2, 1) := by decide +kernel
theorem dX6_isMirror_21 : decode cX6_isMirror 21 = .ok (.iaload, 1) := by decide +kernel
theorem dX6_isMirror_22 : decode cX6_isMirror 22 = .ok (.aload_n 0, 1) := by decide +kernel
theorem dX6_isMirror_23 : decode cX6_isMirror 23 = .ok (.getfield 33, 3) := by decide +kernel
theorem dX6_isMirror_26 : decode cX6_isMirror 26 = .ok (.aload_n 0, 1) := by decide +kernel
theorem dX6_isMirror_27 : decode cX6_isMirror 27 = .ok (.getfield 100, 3) := by decide +kernel
theorem dX6_isMirror_30 : decode cX6_isMirror 30 = .ok (.iconst 1, 1) := by decide +kernel
theorem dX6_isMirror_31 : decode cX6_isMirror 31 = .ok (.isub, 1) := by decide +kernel
theorem dX6_isMirror_32 : decode cX6_isMirror 32 = .ok (.iload_n 2, 1) := by decide +kernel
theorem dX6_isMirror_33 : decode cX6_isMirror 33 = .ok (.isub, 1) := by decide +kernel
theorem dX6_isMirror_34 : decode cX6_isMirror 34 = .ok (.iaload, 1) := by decide +kernel
theorem dX6_isMirror_35 : decode cX6_isMirror 35 = .ok (.if_icmp .ne 7, 3) := by decide +kernel
theorem dX6_isMirror_38 : decode cX6_isMirror 38 = .ok (.iconst 1, 1) := by decide +kernel
theorem dX6_isMirror_39 : decode cX6_isMirror 39 = .ok (.goto 4, 3) := by decide +kernel
theorem dX6_isMirror_42 : decode cX6_isMirror 42 = .ok (.iconst 0, 1) := by decide +kernel
theorem dX6_isMirror_43 : decode cX6_isMirror 43 = .ok (.istore_n 1, 1) := by decide +kernel
theorem dX6_isMirror_44 : decode cX6_isMirror 44 = .ok (.iinc 2 1, 3) := by decide +kernel
theorem dX6_isMirror_47 : decode cX6_isMirror 47 = .ok (.goto (-43), 3) := by decide +kernel
theorem dX6_isMirror_50 : decode cX6_isMirror 50 = .ok (.iload_n 1, 1) := by decide +kernel
theorem dX6_isMirror_51 : decode cX6_isMirror 51 = .ok (.ifCond .eq 7, 3) := by decide +kernel
theorem dX6_isMirror_54 : decode cX6_isMirror 54 = .ok (.iconst 1, 1) := by decide +kernel
theorem dX6_isMirror_55 : decode cX6_isMirror 55 = .ok (.goto 4, 3) := by decide +kernel
theorem dX6_isMirror_58 : decode cX6_isMirror 58 = .ok (.iconst 0, 1) := by decide +kernel
theorem dX6_isMirror_59 : decode cX6_isMirror 59 = .ok (.ireturn, 1) := by decide +kernel
theorem dX6_twice_0 : decode cX6_twice 0 = .ok (.iconst 1, 1) := by decide +kernel
theorem dX6_twice_1 : decode cX6_twice 1 = .ok (.istore_n 1, 1) := by decide +kernel
theorem dX6_twice_2 : decode cX6_twice 2 = .ok (.iconst 2, 1) := by decide +kernel
theorem dX6_twice_3 : decode cX6_twice 3 = .ok (.iload_n 1, 1) := by decide +kernel
theorem dX6_twice_4 : decode cX6_twice 4 = .ok (.imul, 1) := by decide +kernel
theorem dX6_twice_5 : decode cX6_twice 5 = .ok (.aload_n 0, 1) := by decide +kernel
theorem dX6_twice_6 : decode cX6_twice 6 = .ok (.getfield 100, 3) := by decide +kernel
theorem dX6_twice_9 : decode cX6_twice 9 = .ok (.if_icmp .gt 70, 3) := by decide +kernel
theorem dX6_twice_12 : decode cX6_twice 12 = .ok (.iconst 0, 1) := by decide +kernel
theorem dX6_twice_13 : decode cX6_twice 13 = .ok (.istore_n 2, 1) := by decide +kernel
theorem dX6_twice_14 : decode cX6_twice 14 = .ok (.iload_n 2, 1) := by decide +kernel
theorem dX6_twice_15 : decode cX6_twice 15 = .ok (.iconst 2, 1) := by decide +kernel
theorem dX6_twice_16 : decode cX6_twice 16 = .ok (.iload_n 1, 1) := by decide +kernel
theorem dX6_twice_17 : decode cX6_twice 17 = .ok (.imul, 1) := by decide +kernel
theorem dX6_twice_18 : decode cX6_twice 18 = .ok (.iadd, 1) := by decide +kernel
theorem dX6_twice_19 : decode cX6_twice 19 = .ok (.aload_n 0, 1) := by decide +kernel
theorem dX6_twice_20 : decode cX6_twice 20 = .ok (.getfield 100, 3) := by decide +kernel
theorem dX6_twice_23 : decode cX6_twice 23 = .ok (.if_icmp .gt 50, 3) := by decide +kernel
theorem dX6_twice_26 : decode cX6_twice 26 = .ok (.iconst 0, 1) := by decide +kernel
theorem dX6_twice_27 : decode cX6_twice 27 = .ok (.istore_n 3, 1) := by decide +kernel
theorem dX6_twice_28 : decode cX6_twice 28 = .ok (.iload_n 3, 1) := by decide +kernel
theorem dX6_twice_29 : decode cX6_twice 29 = .ok (.iload_n 1, 1) := by decide +kernel
theorem dX6_twice_30 : decode cX6_twice 30 = .ok (.if_icmp .ge 30, 3) := by decide +kernel
theorem dX6_twice_33 : decode cX6_twice 33 = .ok (.aload_n 0, 1) := by decide +kernel
theorem dX6_twice_34 : decode cX6_twice 34 = .ok (.getfield 33, 3) := by decide +kernel
theorem dX6_twice_37 : decode cX6_twice 37 = .ok (.iload_n 2, 1) := by decide +kernel
theorem dX6_twice_38 : decode cX6_twice 38 = .ok (.iload_n 3, 1) := by decide +kernel
theorem dX6_twice_39 : decode cX6_twice 39 = .ok (.iadd, 1) := by decide +kernel
theorem dX6_twice_40 : decode cX6_twice 40 = .ok (.iaload, 1) := by decide +kernel
theorem dX6_twice_41 : decode cX6_twice 41 = .ok (.aload_n 0, 1) := by decide +kernel
theorem dX6_twice_42 : decode cX6_twice 42 = .ok (.getfield 33, 3) := by decide +kernel
theorem dX6_twice_45 : decode cX6_twice 45 = .ok (.iload_n 2, 1) := by decide +kernel
theorem dX6_twice_46 : decode cX6_twice 46 = .ok (.iload_n 1, 1) := by decide +kernel
theorem dX6_twice_47 : decode cX6_twice 47 = .ok (.iadd, 1) := by decide +kernel
theorem dX6_twice_48 : decode cX6_twice 48 = .ok (.iload_n 3, 1) := by decide +kernel
theorem dX6_twice_49 : decode cX6_twice 49 = .ok (.iadd, 1) := by decide +kernel
theorem dX6_twice_50 : decode cX6_twice 50 = .ok (.iaload, 1) := by decide +kernel
theorem dX6_twice_51 : decode cX6_twice 51 = .ok (.if_icmp .ne 9, 3) := by decide +kernel
theorem dX6_twice_54 : decode cX6_twice 54 = .ok (.iinc 3 1, 3) := by decide +kernel
theorem dX6_twice_57 : decode cX6_twice 57 = .ok (.goto (-29), 3) := by decide +kernel
theorem dX6_twice_60 : decode cX6_twice 60 = .ok (.iload_n 3, 1) := by decide +kernel
theorem dX6_twice_61 : decode cX6_twice 61 = .ok (.iload_n 1, 1) := by decide +kernel
theorem dX6_twice_62 : decode cX6_twice 62 = .ok (.if_icmp .ne 5, 3) := by decide +kernel
theorem dX6_twice_65 : decode cX6_twice 65 = .ok (.iload_n 1, 1) := by decide +kernel
theorem dX6_twice_66 : decode cX6_twice 66 = .ok (.ireturn, 1) := by decide +kernel
theorem dX6_twice_67 : decode cX6_twice 67 = .ok (.iinc 2 1, 3) := by decide +kernel
theorem dX6_twice_70 : decode cX6_twice 70 = .ok (.goto (-56), 3) := by decide +kernel
theorem dX6_twice_73 : decode cX6_twice 73 = .ok (.iinc 1 1, 3) := by decide +kernel
theorem dX6_twice_76 : decode cX6_twice 76 = .ok (.goto (-74), 3) := by decide +kernel
theorem dX6_twice_79 : decode cX6_twice 79 = .ok (.iconst 0, 1) := by decide +kernel
theorem dX6_twice_80 : decode cX6_twice 80 = .ok (.ireturn, 1) := by decide +kernel
set_option maxRecDepth 20000 in
theorem ggX6_find_X6_isRow : GoodIn wsX6_find wsX6_isRow := goodIn_r _ [7, 8, 9, 10, 6, 11, 42, 43, 44, 45, 46, 47, 48, 49, 50, 51, 52, 53, 54, 55, 56, 57, 58, 59, 60, 61] (by decide +kernel) (by decide +kernel)
set_option maxRecDepth 20000 in
theorem gX6_find_X6_isRow : GoodIn wsX6_find (wsV RX6 90 RX6 yX6_isRow wsX6_isRow) := goodIn_app (goodIn_of _ (by decide +kernel)) ggX6_find_X6_isRow
set_option maxRecDepth 20000 in
theorem ggX6_find_X6_isPlace : GoodIn wsX6_find wsX6_isPlace := goodIn_r _ [14, 15, 9, 10, 6, 11] (by decide +kernel) (by decide +kernel)
set_option maxRecDepth 20000 in
theorem gX6_find_X6_isPlace : GoodIn wsX6_find (va_wsS RX6 93 yX6_isPlace wsX6_isPlace) := goodIn_app (goodIn_of _ (by decide +kernel)) ggX6_find_X6_isPlace
set_option maxRecDepth 20000 in
theorem ggX6_find_X6_make : GoodIn wsX6_find wsX6_make := goodIn_r _ [19, 20, 21, 22, 8, 23, 24, 25, 26, 6, 27, 28, 29, 30, 31, 32, 33, 34, 35, 36, 37, 38, 39, 40, 41, 42, 43, 44, 45, 46, 47, 48, 49, 50, 51, 52, 53, 54, 55, 56, 57, 58, 59, 60, 61] (by decide +kernel) (by decide +kernel)
set_option maxRecDepth 20000 in
theorem gX6_find_X6_make : GoodIn wsX6_find (wsV RX6 96 RX6 yX6_make wsX6_make) := goodIn_app (goodIn_of _ (by decide +kernel)) ggX6_find_X6_make
set_option maxRecDepth 20000 in
theorem ggX6_find_X6_number : GoodIn wsX6_find wsX6_number := goodIn_r _ [27, 28, 29, 30, 42, 43, 44, 45, 46, 47, 48, 49, 50, 51, 52, 53, 54, 55, 56, 57, 58, 59, 60, 61] (by decide +kernel) (by decide +kernel)
set_option maxRecDepth 20000 in
theorem gX6_find_X6_number : GoodIn wsX6_find (wsV RX6 76 RX6 yX6_number wsX6_number) := goodIn_app (goodIn_of _ (by decide +kernel)) ggX6_find_X6_number
theorem dX6_find_0 : decode cX6_find 0 = .ok (.aload_n 0, 1) := by decide +kernel
theorem dX6_find_1 : decode cX6_find 1 = .ok (.iload_n 1, 1) := by decide +kernel
theorem dX6_find_2 : decode cX6_find 2 = .ok (.invokevirtual 90, 3) := by decide +kernel
theorem dX6_find_5 : decode cX6_find 5 = .ok (.ifCond .ne 6, 3) := by decide +kernel
theorem dX6_find_8 : decode cX6_find 8 = .ok (.bipush (-101), 2) := by decide +kernel
theorem dX6_find_10 : decode cX6_find 10 = .ok (.ireturn, 1) := by decide +kernel
theorem dX6_find_11 : decode cX6_find 11 = .ok (.iload_n 2, 1) := by decide +kernel
theorem dX6_find_12 : decode cX6_find 12 = .ok (.invokestatic 93, 3) := by decide +kernel
theorem dX6_find_15 : decode cX6_find 15 = .ok (.ifCond .eq 10, 3) := by decide +kernel
theorem dX6_find_18 : decode cX6_find 18 = .ok (.iload_n 3, 1) := by decide +kernel
theorem dX6_find_19 : decode cX6_find 19 = .ok (.invokestatic 93, 3) := by decide +kernel
theorem dX6_find_22 : decode cX6_find 22 = .ok (.ifCond .ne 6, 3) := by decide +kernel
theorem dX6_find_25 : decode cX6_find 25 = .ok (.bipush (-102), 2) := by decide +kernel
theorem dX6_find_27 : decode cX6_find 27 = .ok (.ireturn, 1) := by decide +kernel
theorem dX6_find_28 : decode cX6_find 28 = .ok (.aload_n 0, 1) := by decide +kernel
theorem dX6_find_29 : decode cX6_find 29 = .ok (.iload_n 1, 1) := by decide +kernel
theorem dX6_find_30 : decode cX6_find 30 = .ok (.iload_n 3, 1) := by decide +kernel
theorem dX6_find_31 : decode cX6_find 31 = .ok (.iconst 1, 1) := by decide +kernel
theorem dX6_find_32 : decode cX6_find 32 = .ok (.isub, 1) := by decide +kernel
theorem dX6_find_33 : decode cX6_find 33 = .ok (.invokevirtual 96, 3) := by decide +kernel
theorem dX6_find_36 : decode cX6_find 36 = .ok (.iload_n 2, 1) := by decide +kernel
theorem dX6_find_37 : decode cX6_find 37 = .ok (.istore 4, 2) := by decide +kernel
theorem dX6_find_39 : decode cX6_find 39 = .ok (.iload 4, 2) := by decide +kernel
theorem dX6_find_41 : decode cX6_find 41 = .ok (.aload_n 0, 1) := by decide +kernel
theorem dX6_find_42 : decode cX6_find 42 = .ok (.getfield 100, 3) := by decide +kernel
theorem dX6_find_45 : decode cX6_find 45 = .ok (.iadd, 1) := by decide +kernel
theorem dX6_find_46 : decode cX6_find 46 = .ok (.iload_n 3, 1) := by decide +kernel
theorem dX6_find_47 : decode cX6_find 47 = .ok (.if_icmp .gt 59, 3) := by decide +kernel
theorem dX6_find_50 : decode cX6_find 50 = .ok (.iconst 0, 1) := by decide +kernel
theorem dX6_find_51 : decode cX6_find 51 = .ok (.istore 5, 2) := by decide +kernel
theorem dX6_find_53 : decode cX6_find 53 = .ok (.iload 5, 2) := by decide +kernel
theorem dX6_find_55 : decode cX6_find 55 = .ok (.aload_n 0, 1) := by decide +kernel
theorem dX6_find_56 : decode cX6_find 56 = .ok (.getfield 100, 3) := by decide +kernel
theorem dX6_find_59 : decode cX6_find 59 = .ok (.if_icmp .ge 29, 3) := by decide +kernel
theorem dX6_find_62 : decode cX6_find 62 = .ok (.aload_n 0, 1) := by decide +kernel
theorem dX6_find_63 : decode cX6_find 63 = .ok (.iload_n 1, 1) := by decide +kernel
theorem dX6_find_64 : decode cX6_find 64 = .ok (.iload 4, 2) := by decide +kernel
theorem dX6_find_66 : decode cX6_find 66 = .ok (.iload 5, 2) := by decide +kernel
theorem dX6_find_68 : decode cX6_find 68 = .ok (.iadd, 1) := by decide +kernel
theorem dX6_find_69 : decode cX6_find 69 = .ok (.invokevirtual 76, 3) := by decide +kernel
theorem dX6_find_72 : decode cX6_find 72 = .ok (.aload_n 0, 1) := by decide +kernel
theorem dX6_find_73 : decode cX6_find 73 = .ok (.getfield 33, 3) := by decide +kernel
theorem dX6_find_76 : decode cX6_find 76 = .ok (.iload 5, 2) := by decide +kernel
theorem dX6_find_78 : decode cX6_find 78 = .ok (.iaload, 1) := by decide +kernel
theorem dX6_find_79 : decode cX6_find 79 = .ok (.if_icmp .ne 9, 3) := by decide +kernel
theorem dX6_find_82 : decode cX6_find 82 = .ok (.iinc 5 1, 3) := by decide +kernel
theorem dX6_find_85 : decode cX6_find 85 = .ok (.goto (-32), 3) := by decide +kernel
theorem dX6_find_88 : decode cX6_find 88 = .ok (.iload 5, 2) := by decide +kernel
theorem dX6_find_90 : decode cX6_find 90 = .ok (.aload_n 0, 1) := by decide +kernel
theorem dX6_find_91 : decode cX6_find 91 = .ok (.getfield 100, 3) := by decide +kernel
theorem dX6_find_94 : decode cX6_find 94 = .ok (.if_icmp .ne 6, 3) := by decide +kernel
theorem dX6_find_97 : decode cX6_find 97 = .ok (.iload 4, 2) := by decide +kernel
theorem dX6_find_99 : decode cX6_find 99 = .ok (.ireturn, 1) := by decide +kernel
theorem dX6_find_100 : decode cX6_find 100 = .ok (.iinc 4 1, 3) := by decide +kernel
theorem dX6_find_103 : decode cX6_find 103 = .ok (.goto (-64), 3) := by decide +kernel
theorem dX6_find_106 : decode cX6_find 106 = .ok (.iconst (-1), 1) := by decide +kernel
theorem dX6_find_107 : decode cX6_find 107 = .ok (.ireturn, 1) := by decide +kernel
set_option maxRecDepth 20000 in
theorem ggX6_unlike_X6_isRow : GoodIn wsX6_unlike wsX6_isRow := goodIn_r _ [10, 11, 12, 13, 9, 14, 41, 42, 43, 44, 45, 46, 47, 48, 49, 50, 51, 52, 53, 54, 55, 56, 57, 58, 59, 60] (by decide +kernel) (by decide +kernel)
set_option maxRecDepth 20000 in
theorem gX6_unlike_X6_isRow : GoodIn wsX6_unlike (wsV RX6 90 RX6 yX6_isRow wsX6_isRow) := goodIn_app (goodIn_of _ (by decide +kernel)) ggX6_unlike_X6_isRow
set_option maxRecDepth 20000 in
theorem ggX6_unlike_X6_in : GoodIn wsX6_unlike wsX6_in := goodIn_r _ [14] (by decide +kernel) (by decide +kernel)
set_option maxRecDepth 20000 in
theorem gX6_unlike_X6_in : GoodIn wsX6_unlike (va_wsS RX6 59 yX6_in wsX6_in) := goodIn_app (goodIn_of _ (by decide +kernel)) ggX6_unlike_X6_in
set_option maxRecDepth 20000 in
theorem ggX6_unlike_X6_make : GoodIn wsX6_unlike wsX6_make := goodIn_r _ [18, 19, 20, 21, 11, 22, 23, 24, 25, 9, 26, 27, 28, 29, 30, 31, 32, 33, 34, 35, 36, 37, 38, 39, 40, 41, 42, 43, 44, 45, 46, 47, 48, 49, 50, 51, 52, 53, 54, 55, 56, 57, 58, 59, 60] (by decide +kernel) (by decide +kernel)
set_option maxRecDepth 20000 in
theorem gX6_unlike_X6_make : GoodIn wsX6_unlike (wsV RX6 96 RX6 yX6_make wsX6_make) := goodIn_app (goodIn_of _ (by decide +kernel)) ggX6_unlike_X6_make
set_option maxRecDepth 20000 in
theorem ggX6_unlike_X6_number : GoodIn wsX6_unlike wsX6_number := goodIn_r _ [26, 27, 28, 29, 41, 42, 43, 44, 45, 46, 47, 48, 49, 50, 51, 52, 53, 54, 55, 56, 57, 58, 59, 60] (by decide +kernel) (by decide +kernel)
set_option maxRecDepth 20000 in
theorem gX6_unlike_X6_number : GoodIn wsX6_unlike (wsV RX6 76 RX6 yX6_number wsX6_number) := goodIn_app (goodIn_of _ (by decide +kernel)) ggX6_unlike_X6_number
theorem dX6_unlike_0 : decode cX6_unlike 0 = .ok (.aload_n 0, 1) := by decide +kernel
theorem dX6_unlike_1 : decode cX6_unlike 1 = .ok (.iload_n 1, 1) := by decide +kernel
theorem dX6_unlike_2 : decode cX6_unlike 2 = .ok (.invokevirtual 90, 3) := by decide +kernel
theorem dX6_unlike_5 : decode cX6_unlike 5 = .ok (.ifCond .ne 6, 3) := by decide +kernel
theorem dX6_unlike_8 : decode cX6_unlike 8 = .ok (.bipush (-101), 2) := by decide +kernel
theorem dX6_unlike_10 : decode cX6_unlike 10 = .ok (.ireturn, 1) := by decide +kernel
theorem dX6_unlike_11 : decode cX6_unlike 11 = .ok (.iload_n 2, 1) := by decide +kernel
theorem dX6_unlike_12 : decode cX6_unlike 12 = .ok (.i2l, 1) := by decide +kernel
theorem dX6_unlike_13 : decode cX6_unlike 13 = .ok (.lconst 1, 1) := by decide +kernel
theorem dX6_unlike_14 : decode cX6_unlike 14 = .ok (.ldc2_w 136, 3) := by decide +kernel
theorem dX6_unlike_17 : decode cX6_unlike 17 = .ok (.invokestatic 59, 3) := by decide +kernel
theorem dX6_unlike_20 : decode cX6_unlike 20 = .ok (.ifCond .eq 15, 3) := by decide +kernel
theorem dX6_unlike_23 : decode cX6_unlike 23 = .ok (.iload_n 3, 1) := by decide +kernel
theorem dX6_unlike_24 : decode cX6_unlike 24 = .ok (.i2l, 1) := by decide +kernel
theorem dX6_unlike_25 : decode cX6_unlike 25 = .ok (.lconst 0, 1) := by decide +kernel
theorem dX6_unlike_26 : decode cX6_unlike 26 = .ok (.ldc2_w 138, 3) := by decide +kernel
theorem dX6_unlike_29 : decode cX6_unlike 29 = .ok (.invokestatic 59, 3) := by decide +kernel
theorem dX6_unlike_32 : decode cX6_unlike 32 = .ok (.ifCond .ne 6, 3) := by decide +kernel
theorem dX6_unlike_35 : decode cX6_unlike 35 = .ok (.bipush (-102), 2) := by decide +kernel
theorem dX6_unlike_37 : decode cX6_unlike 37 = .ok (.ireturn, 1) := by decide +kernel
theorem dX6_unlike_38 : decode cX6_unlike 38 = .ok (.aload_n 0, 1) := by decide +kernel
theorem dX6_unlike_39 : decode cX6_unlike 39 = .ok (.getfield 140, 3) := by decide +kernel
theorem dX6_unlike_42 : decode cX6_unlike 42 = .ok (.bipush 40, 2) := by decide +kernel
theorem dX6_unlike_44 : decode cX6_unlike 44 = .ok (.if_icmp .ne 6, 3) := by decide +kernel
theorem dX6_unlike_47 : decode cX6_unlike 47 = .ok (.bipush (-103), 2) := by decide +kernel
theorem dX6_unlike_49 : decode cX6_unlike 49 = .ok (.ireturn, 1) := by decide +kernel
theorem dX6_unlike_50 : decode cX6_unlike 50 = .ok (.aload_n 0, 1) := by decide +kernel
theorem dX6_unlike_51 : decode cX6_unlike 51 = .ok (.dup, 1) := by decide +kernel
theorem dX6_unlike_52 : decode cX6_unlike 52 = .ok (.getfield 140, 3) := by decide +kernel
theorem dX6_unlike_55 : decode cX6_unlike 55 = .ok (.iconst 1, 1) := by decide +kernel
theorem dX6_unlike_56 : decode cX6_unlike 56 = .ok (.iadd, 1) := by decide +kernel
theorem dX6_unlike_57 : decode cX6_unlike 57 = .ok (.putfield 140, 3) := by decide +kernel
theorem dX6_unlike_60 : decode cX6_unlike 60 = .ok (.aload_n 0, 1) := by decide +kernel
theorem dX6_unlike_61 : decode cX6_unlike 61 = .ok (.iload_n 1, 1) := by decide +kernel
theorem dX6_unlike_62 : decode cX6_unlike 62 = .ok (.iload_n 3, 1) := by decide +kernel
theorem dX6_unlike_63 : decode cX6_unlike 63 = .ok (.iconst 1, 1) := by decide +kernel
theorem dX6_unlike_64 : decode cX6_unlike 64 = .ok (.isub, 1) := by decide +kernel
theorem dX6_unlike_65 : decode cX6_unlike 65 = .ok (.invokevirtual 96, 3) := by decide +kernel
theorem dX6_unlike_68 : decode cX6_unlike 68 = .ok (.iconst 0, 1) := by decide +kernel
theorem dX6_unlike_69 : decode cX6_unlike 69 = .ok (.istore 4, 2) := by decide +kernel
theorem dX6_unlike_71 : decode cX6_unlike 71 = .ok (.iconst 0, 1) := by decide +kernel
theorem dX6_unlike_72 : decode cX6_unlike 72 = .ok (.istore 5, 2) := by decide +kernel
theorem dX6_unlike_74 : decode cX6_unlike 74 = .ok (.iload 5, 2) := by decide +kernel
theorem dX6_unlike_76 : decode cX6_unlike 76 = .ok (.iload_n 2, 1) := by decide +kernel
theorem dX6_unlike_77 : decode cX6_unlike 77 = .ok (.iadd, 1) := by decide +kernel
theorem dX6_unlike_78 : decode cX6_unlike 78 = .ok (.iload_n 3, 1) := by decide +kernel
theorem dX6_unlike_79 : decode cX6_unlike 79 = .ok (.if_icmp .gt 164, 3) := by decide +kernel
theorem dX6_unlike_82 : decode cX6_unlike 82 = .ok (.lconst 0, 1) := by decide +kernel
theorem dX6_unlike_83 : decode cX6_unlike 83 = .ok (.lstore 6, 2) := by decide +kernel
theorem dX6_unlike_85 : decode cX6_unlike 85 = .ok (.iconst 0, 1) := by decide +kernel
theorem dX6_unlike_86 : decode cX6_unlike 86 = .ok (.istore 8, 2) := by decide +kernel
theorem dX6_unlike_88 : decode cX6_unlike 88 = .ok (.iload 8, 2) := by decide +kernel
theorem dX6_unlike_90 : decode cX6_unlike 90 = .ok (.iload_n 2, 1) := by decide +kernel
theorem dX6_unlike_91 : decode cX6_unlike 91 = .ok (.if_icmp .ge 29, 3) := by decide +kernel
theorem dX6_unlike_94 : decode cX6_unlike 94 = .ok (.ldc2_w 143, 3) := by decide +kernel
theorem dX6_unlike_97 : decode cX6_unlike 97 = .ok (.lload 6, 2) := by decide +kernel
theorem dX6_unlike_99 : decode cX6_unlike 99 = .ok (.lmul, 1) := by decide +kernel
theorem dX6_unlike_100 : decode cX6_unlike 100 = .ok (.aload_n 0, 1) := by decide +kernel
theorem dX6_unlike_101 : decode cX6_unlike 101 = .ok (.iload_n 1, 1) := by decide +kernel
theorem dX6_unlike_102 : decode cX6_unlike 102 = .ok (.iload 5, 2) := by decide +kernel
theorem dX6_unlike_104 : decode cX6_unlike 104 = .ok (.iload 8, 2) := by decide +kernel
theorem dX6_unlike_106 : decode cX6_unlike 106 = .ok (.iadd, 1) := by decide +kernel
theorem dX6_unlike_107 : decode cX6_unlike 107 = .ok (.invokevirtual 76, 3) := by decide +kernel
theorem dX6_unlike_110 : decode cX6_unlike 110 = .ok (.i2l, 1) := by decide +kernel
theorem dX6_unlike_111 : decode cX6_unlike 111 = .ok (.ladd, 1) := by decide +kernel
theorem dX6_unlike_112 : decode cX6_unlike 112 = .ok (.lstore 6, 2) := by decide +kernel
theorem dX6_unlike_114 : decode cX6_unlike 114 = .ok (.iinc 8 1, 3) := by decide +kernel
theorem dX6_unlike_117 : decode cX6_unlike 117 = .ok (.goto (-29), 3) := by decide +kernel
theorem dX6_unlike_120 : decode cX6_unlike 120 = .ok (.iconst 0, 1) := by decide +kernel
theorem dX6_unlike_121 : decode cX6_unlike 121 = .ok (.istore 8, 2) := by decide +kernel
theorem dX6_unlike_123 : decode cX6_unlike 123 = .ok (.iload 4, 2) := by decide +kernel
theorem dX6_unlike_125 : decode cX6_unlike 125 = .ok (.istore 9, 2) := by decide +kernel
theorem dX6_unlike_127 : decode cX6_unlike 127 = .ok (.iload 8, 2) := by decide +kernel
theorem dX6_unlike_129 : decode cX6_unlike 129 = .ok (.iload 9, 2) := by decide +kernel
theorem dX6_unlike_131 : decode cX6_unlike 131 = .ok (.if_icmp .ge 41, 3) := by decide +kernel
theorem dX6_unlike_134 : decode cX6_unlike 134 = .ok (.iload 8, 2) := by decide +kernel
theorem dX6_unlike_136 : decode cX6_unlike 136 = .ok (.iload 9, 2) := by decide +kernel
theorem dX6_unlike_138 : decode cX6_unlike 138 = .ok (.iadd, 1) := by decide +kernel
theorem dX6_unlike_139 : decode cX6_unlike 139 = .ok (.iconst 2, 1) := by decide +kernel
theorem dX6_unlike_140 : decode cX6_unlike 140 = .ok (.idiv, 1) := by decide +kernel
theorem dX6_unlike_141 : decode cX6_unlike 141 = .ok (.istore 10, 2) := by decide +kernel
theorem dX6_unlike_143 : decode cX6_unlike 143 = .ok (.aload_n 0, 1) := by decide +kernel
theorem dX6_unlike_144 : decode cX6_unlike 144 = .ok (.getfield 45, 3) := by decide +kernel
theorem dX6_unlike_147 : decode cX6_unlike 147 = .ok (.iload 10, 2) := by decide +kernel
theorem dX6_unlike_149 : decode cX6_unlike 149 = .ok (.laload, 1) := by decide +kernel
theorem dX6_unlike_150 : decode cX6_unlike 150 = .ok (.lload 6, 2) := by decide +kernel
theorem dX6_unlike_152 : decode cX6_unlike 152 = .ok (.lcmp, 1) := by decide +kernel
theorem dX6_unlike_153 : decode cX6_unlike 153 = .ok (.ifCond .ge 12, 3) := by decide +kernel
theorem dX6_unlike_156 : decode cX6_unlike 156 = .ok (.iload 10, 2) := by decide +kernel
theorem dX6_unlike_158 : decode cX6_unlike 158 = .ok (.iconst 1, 1) := by decide +kernel
theorem dX6_unlike_159 : decode cX6_unlike 159 = .ok (.iadd, 1) := by decide +kernel
theorem dX6_unlike_160 : decode cX6_unlike 160 = .ok (.istore 8, 2) := by decide +kernel
theorem dX6_unlike_162 : decode cX6_unlike 162 = .ok (.goto 7, 3) := by decide +kernel
theorem dX6_unlike_165 : decode cX6_unlike 165 = .ok (.iload 10, 2) := by decide +kernel
theorem dX6_unlike_167 : decode cX6_unlike 167 = .ok (.istore 9, 2) := by decide +kernel
theorem dX6_unlike_169 : decode cX6_unlike 169 = .ok (.goto (-42), 3) := by decide +kernel
theorem dX6_unlike_172 : decode cX6_unlike 172 = .ok (.iload 8, 2) := by decide +kernel
theorem dX6_unlike_174 : decode cX6_unlike 174 = .ok (.iload 4, 2) := by decide +kernel
theorem dX6_unlike_176 : decode cX6_unlike 176 = .ok (.if_icmp .eq 16, 3) := by decide +kernel
theorem dX6_unlike_179 : decode cX6_unlike 179 = .ok (.aload_n 0, 1) := by decide +kernel
theorem dX6_unlike_180 : decode cX6_unlike 180 = .ok (.getfield 45, 3) := by decide +kernel
theorem dX6_unlike_183 : decode cX6_unlike 183 = .ok (.iload 8, 2) := by decide +kernel
theorem dX6_unlike_185 : decode cX6_unlike 185 = .ok (.laload, 1) := by decide +kernel
theorem dX6_unlike_186 : decode cX6_unlike 186 = .ok (.lload 6, 2) := by decide +kernel
theorem dX6_unlike_188 : decode cX6_unlike 188 = .ok (.lcmp, 1) := by decide +kernel
theorem dX6_unlike_189 : decode cX6_unlike 189 = .ok (.ifCond .eq 48, 3) := by decide +kernel
theorem dX6_unlike_192 : decode cX6_unlike 192 = .ok (.iload 4, 2) := by decide +kernel
theorem dX6_unlike_194 : decode cX6_unlike 194 = .ok (.istore 10, 2) := by decide +kernel
theorem dX6_unlike_196 : decode cX6_unlike 196 = .ok (.iload 10, 2) := by decide +kernel
theorem dX6_unlike_198 : decode cX6_unlike 198 = .ok (.iload 8, 2) := by decide +kernel
theorem dX6_unlike_200 : decode cX6_unlike 200 = .ok (.if_icmp .le 25, 3) := by decide +kernel
theorem dX6_unlike_203 : decode cX6_unlike 203 = .ok (.aload_n 0, 1) := by decide +kernel
theorem dX6_unlike_204 : decode cX6_unlike 204 = .ok (.getfield 45, 3) := by decide +kernel
theorem dX6_unlike_207 : decode cX6_unlike 207 = .ok (.iload 10, 2) := by decide +kernel
theorem dX6_unlike_209 : decode cX6_unlike 209 = .ok (.aload_n 0, 1) := by decide +kernel
theorem dX6_unlike_210 : decode cX6_unlike 210 = .ok (.getfield 45, 3) := by decide +kernel
theorem dX6_unlike_213 : decode cX6_unlike 213 = .ok (.iload 10, 2) := by decide +kernel
theorem dX6_unlike_215 : decode cX6_unlike 215 = .ok (.iconst 1, 1) := by decide +kernel
theorem dX6_unlike_216 : decode cX6_unlike 216 = .ok (.isub, 1) := by decide +kernel
theorem dX6_unlike_217 : decode cX6_unlike 217 = .ok (.laload, 1) := by decide +kernel
theorem dX6_unlike_218 : decode cX6_unlike 218 = .ok (.lastore, 1) := by decide +kernel
theorem dX6_unlike_219 : decode cX6_unlike 219 = .ok (.iinc 10 (-1), 3) := by decide +kernel
theorem dX6_unlike_222 : decode cX6_unlike 222 = .ok (.goto (-26), 3) := by decide +kernel
theorem dX6_unlike_225 : decode cX6_unlike 225 = .ok (.aload_n 0, 1) := by decide +kernel
theorem dX6_unlike_226 : decode cX6_unlike 226 = .ok (.getfield 45, 3) := by decide +kernel
theorem dX6_unlike_229 : decode cX6_unlike 229 = .ok (.iload 8, 2) := by decide +kernel
theorem dX6_unlike_231 : decode cX6_unlike 231 = .ok (.lload 6, 2) := by decide +kernel
theorem dX6_unlike_233 : decode cX6_unlike 233 = .ok (.lastore, 1) := by decide +kernel
theorem dX6_unlike_234 : decode cX6_unlike 234 = .ok (.iinc 4 1, 3) := by decide +kernel
theorem dX6_unlike_237 : decode cX6_unlike 237 = .ok (.iinc 5 1, 3) := by decide +kernel
theorem dX6_unlike_240 : decode cX6_unlike 240 = .ok (.goto (-166), 3) := by decide +kernel
theorem dX6_unlike_243 : decode cX6_unlike 243 = .ok (.iload 4, 2) := by decide +kernel
theorem dX6_unlike_245 : decode cX6_unlike 245 = .ok (.ireturn, 1) := by decide +kernel
set_option maxRecDepth 20000 in
theorem ggX6_told_X6_in : GoodIn wsX6_told wsX6_in := goodIn_r _ [11] (by decide +kernel) (by decide +kernel)
set_option maxRecDepth 20000 in
theorem gX6_told_X6_in : GoodIn wsX6_told (va_wsS RX6 59 yX6_in wsX6_in) := goodIn_app (goodIn_of _ (by decide +kernel)) ggX6_told_X6_in
theorem dX6_told_0 : decode cX6_told 0 = .ok (.iload_n 1, 1) := by decide +kernel
theorem dX6_told_1 : decode cX6_told 1 = .ok (.i2l, 1) := by decide +kernel
theorem dX6_told_2 : decode cX6_told 2 = .ok (.ldc2_w 69, 3) := by decide +kernel
theorem dX6_told_5 : decode cX6_told 5 = .ok (.ldc2_w 143, 3) := by decide +kernel
theorem dX6_told_8 : decode cX6_told 8 = .ok (.invokestatic 59, 3) := by decide +kernel
theorem dX6_told_11 : decode cX6_told 11 = .ok (.ifCond .eq 12, 3) := by decide +kernel
theorem dX6_told_14 : decode cX6_told 14 = .ok (.aload_n 0, 1) := by decide +kernel
theorem dX6_told_15 : decode cX6_told 15 = .ok (.getfield 13, 3) := by decide +kernel
theorem dX6_told_18 : decode cX6_told 18 = .ok (.iload_n 1, 1) := by decide +kernel
theorem dX6_told_19 : decode cX6_told 19 = .ok (.iconst 4, 1) := by decide +kernel
theorem dX6_told_20 : decode cX6_told 20 = .ok (.isub, 1) := by decide +kernel
theorem dX6_told_21 : decode cX6_told 21 = .ok (.iaload, 1) := by decide +kernel
theorem dX6_told_22 : decode cX6_told 22 = .ok (.ireturn, 1) := by decide +kernel
theorem dX6_told_23 : decode cX6_told 23 = .ok (.iload_n 1, 1) := by decide +kernel
theorem dX6_told_24 : decode cX6_told 24 = .ok (.ifCond .ne 10, 3) := by decide +kernel
theorem dX6_told_27 : decode cX6_told 27 = .ok (.aload_n 0, 1) := by decide +kernel
theorem dX6_told_28 : decode cX6_told 28 = .ok (.getfield 49, 3) := by decide +kernel
theorem dX6_told_31 : decode cX6_told 31 = .ok (.goto 41, 3) := by decide +kernel
theorem dX6_told_34 : decode cX6_told 34 = .ok (.iload_n 1, 1) := by decide +kernel
theorem dX6_told_35 : decode cX6_told 35 = .ok (.iconst 1, 1) := by decide +kernel
theorem dX6_told_36 : decode cX6_told 36 = .ok (.if_icmp .ne 10, 3) := by decide +kernel
theorem dX6_told_39 : decode cX6_told 39 = .ok (.aload_n 0, 1) := by decide +kernel
theorem dX6_told_40 : decode cX6_told 40 = .ok (.getfield 100, 3) := by decide +kernel
theorem dX6_told_43 : decode cX6_told 43 = .ok (.goto 29, 3) := by decide +kernel
theorem dX6_told_46 : decode cX6_told 46 = .ok (.iload_n 1, 1) := by decide +kernel
theorem dX6_told_47 : decode cX6_told 47 = .ok (.iconst 2, 1) := by decide +kernel
theorem dX6_told_48 : decode cX6_told 48 = .ok (.if_icmp .ne 10, 3) := by decide +kernel
theorem dX6_told_51 : decode cX6_told 51 = .ok (.aload_n 0, 1) := by decide +kernel
theorem dX6_told_52 : decode cX6_told 52 = .ok (.getfield 133, 3) := by decide +kernel
theorem dX6_told_55 : decode cX6_told 55 = .ok (.goto 17, 3) := by decide +kernel
theorem dX6_told_58 : decode cX6_told 58 = .ok (.iload_n 1, 1) := by decide +kernel
theorem dX6_told_59 : decode cX6_told 59 = .ok (.iconst 3, 1) := by decide +kernel
theorem dX6_told_60 : decode cX6_told 60 = .ok (.if_icmp .ne 10, 3) := by decide +kernel
theorem dX6_told_63 : decode cX6_told 63 = .ok (.aload_n 0, 1) := by decide +kernel
theorem dX6_told_64 : decode cX6_told 64 = .ok (.getfield 140, 3) := by decide +kernel
theorem dX6_told_67 : decode cX6_told 67 = .ok (.goto 5, 3) := by decide +kernel
theorem dX6_told_70 : decode cX6_told 70 = .ok (.bipush (-102), 2) := by decide +kernel
theorem dX6_told_72 : decode cX6_told 72 = .ok (.ireturn, 1) := by decide +kernel
theorem dX6_digest_0 : decode cX6_digest 0 = .ok (.ldc2_w 145, 3) := by decide +kernel
theorem dX6_digest_3 : decode cX6_digest 3 = .ok (.lstore_n 1, 1) := by decide +kernel
theorem dX6_digest_4 : decode cX6_digest 4 = .ok (.iconst 0, 1) := by decide +kernel
theorem dX6_digest_5 : decode cX6_digest 5 = .ok (.istore_n 3, 1) := by decide +kernel
theorem dX6_digest_6 : decode cX6_digest 6 = .ok (.iload_n 3, 1) := by decide +kernel
theorem dX6_digest_7 : decode cX6_digest 7 = .ok (.iconst 4, 1) := by decide +kernel
theorem dX6_digest_8 : decode cX6_digest 8 = .ok (.if_icmp .ge 48, 3) := by decide +kernel
theorem dX6_digest_11 : decode cX6_digest 11 = .ok (.iconst 0, 1) := by decide +kernel
theorem dX6_digest_12 : decode cX6_digest 12 = .ok (.istore 4, 2) := by decide +kernel
theorem dX6_digest_14 : decode cX6_digest 14 = .ok (.iload 4, 2) := by decide +kernel
theorem dX6_digest_16 : decode cX6_digest 16 = .ok (.aload_n 0, 1) := by decide +kernel
theorem dX6_digest_17 : decode cX6_digest 17 = .ok (.getfield 13, 3) := by decide +kernel
theorem dX6_digest_20 : decode cX6_digest 20 = .ok (.iload_n 3, 1) := by decide +kernel
theorem dX6_digest_21 : decode cX6_digest 21 = .ok (.iaload, 1) := by decide +kernel
theorem dX6_digest_22 : decode cX6_digest 22 = .ok (.if_icmp .ge 28, 3) := by decide +kernel
theorem dX6_digest_25 : decode cX6_digest 25 = .ok (.ldc2_w 147, 3) := by decide +kernel
theorem dX6_digest_28 : decode cX6_digest 28 = .ok (.lload_n 1, 1) := by decide +kernel
theorem dX6_digest_29 : decode cX6_digest 29 = .ok (.lmul, 1) := by decide +kernel
theorem dX6_digest_30 : decode cX6_digest 30 = .ok (.aload_n 0, 1) := by decide +kernel
theorem dX6_digest_31 : decode cX6_digest 31 = .ok (.getfield 7, 3) := by decide +kernel
theorem dX6_digest_34 : decode cX6_digest 34 = .ok (.iconst 4, 1) := by decide +kernel
theorem dX6_digest_35 : decode cX6_digest 35 = .ok (.iload_n 3, 1) := by decide +kernel
theorem dX6_digest_36 : decode cX6_digest 36 = .ok (.imul, 1) := by decide +kernel
theorem dX6_digest_37 : decode cX6_digest 37 = .ok (.iload 4, 2) := by decide +kernel
theorem dX6_digest_39 : decode cX6_digest 39 = .ok (.iadd, 1) := by decide +kernel
theorem dX6_digest_40 : decode cX6_digest 40 = .ok (.iaload, 1) := by decide +kernel
theorem dX6_digest_41 : decode cX6_digest 41 = .ok (.i2l, 1) := by decide +kernel
theorem dX6_digest_42 : decode cX6_digest 42 = .ok (.ladd, 1) := by decide +kernel
theorem dX6_digest_43 : decode cX6_digest 43 = .ok (.lstore_n 1, 1) := by decide +kernel
theorem dX6_digest_44 : decode cX6_digest 44 = .ok (.iinc 4 1, 3) := by decide +kernel
theorem dX6_digest_47 : decode cX6_digest 47 = .ok (.goto (-33), 3) := by decide +kernel
theorem dX6_digest_50 : decode cX6_digest 50 = .ok (.iinc 3 1, 3) := by decide +kernel
theorem dX6_digest_53 : decode cX6_digest 53 = .ok (.goto (-47), 3) := by decide +kernel
theorem dX6_digest_56 : decode cX6_digest 56 = .ok (.iconst 0, 1) := by decide +kernel
theorem dX6_digest_57 : decode cX6_digest 57 = .ok (.istore_n 3, 1) := by decide +kernel
theorem dX6_digest_58 : decode cX6_digest 58 = .ok (.iload_n 3, 1) := by decide +kernel
theorem dX6_digest_59 : decode cX6_digest 59 = .ok (.aload_n 0, 1) := by decide +kernel
theorem dX6_digest_60 : decode cX6_digest 60 = .ok (.getfield 49, 3) := by decide +kernel
theorem dX6_digest_63 : decode cX6_digest 63 = .ok (.if_icmp .ge 23, 3) := by decide +kernel
theorem dX6_digest_66 : decode cX6_digest 66 = .ok (.ldc2_w 147, 3) := by decide +kernel
theorem dX6_digest_69 : decode cX6_digest 69 = .ok (.lload_n 1, 1) := by decide +kernel
theorem dX6_digest_70 : decode cX6_digest 70 = .ok (.lmul, 1) := by decide +kernel
theorem dX6_digest_71 : decode cX6_digest 71 = .ok (.aload_n 0, 1) := by decide +kernel
theorem dX6_digest_72 : decode cX6_digest 72 = .ok (.getfield 16, 3) := by decide +kernel
theorem dX6_digest_75 : decode cX6_digest 75 = .ok (.iload_n 3, 1) := by decide +kernel
theorem dX6_digest_76 : decode cX6_digest 76 = .ok (.iaload, 1) := by decide +kernel
theorem dX6_digest_77 : decode cX6_digest 77 = .ok (.i2l, 1) := by decide +kernel
theorem dX6_digest_78 : decode cX6_digest 78 = .ok (.ladd, 1) := by decide +kernel
theorem dX6_digest_79 : decode cX6_digest 79 = .ok (.lstore_n 1, 1) := by decide +kernel
theorem dX6_digest_80 : decode cX6_digest 80 = .ok (.iinc 3 1, 3) := by decide +kernel
theorem dX6_digest_83 : decode cX6_digest 83 = .ok (.goto (-25), 3) := by decide +kernel
theorem dX6_digest_86 : decode cX6_digest 86 = .ok (.iconst 0, 1) := by decide +kernel
theorem dX6_digest_87 : decode cX6_digest 87 = .ok (.istore_n 3, 1) := by decide +kernel
theorem dX6_digest_88 : decode cX6_digest 88 = .ok (.iload_n 3, 1) := by decide +kernel
theorem dX6_digest_89 : decode cX6_digest 89 = .ok (.aload_n 0, 1) := by decide +kernel
theorem dX6_digest_90 : decode cX6_digest 90 = .ok (.getfield 100, 3) := by decide +kernel
theorem dX6_digest_93 : decode cX6_digest 93 = .ok (.if_icmp .ge 23, 3) := by decide +kernel
theorem dX6_digest_96 : decode cX6_digest 96 = .ok (.ldc2_w 147, 3) := by decide +kernel
theorem dX6_digest_99 : decode cX6_digest 99 = .ok (.lload_n 1, 1) := by decide +kernel
theorem dX6_digest_100 : decode cX6_digest 100 = .ok (.lmul, 1) := by decide +kernel
theorem dX6_digest_101 : decode cX6_digest 101 = .ok (.aload_n 0, 1) := by decide +kernel
theorem dX6_digest_102 : decode cX6_digest 102 = .ok (.getfield 33, 3) := by decide +kernel
theorem dX6_digest_105 : decode cX6_digest 105 = .ok (.iload_n 3, 1) := by decide +kernel
theorem dX6_digest_106 : decode cX6_digest 106 = .ok (.iaload, 1) := by decide +kernel
theorem dX6_digest_107 : decode cX6_digest 107 = .ok (.i2l, 1) := by decide +kernel
theorem dX6_digest_108 : decode cX6_digest 108 = .ok (.ladd, 1) := by decide +kernel
theorem dX6_digest_109 : decode cX6_digest 109 = .ok (.lstore_n 1, 1) := by decide +kernel
theorem dX6_digest_110 : decode cX6_digest 110 = .ok (.iinc 3 1, 3) := by decide +kernel
theorem dX6_digest_113 : decode cX6_digest 113 = .ok (.goto (-25), 3) := by decide +kernel
theorem dX6_digest_116 : decode cX6_digest 116 = .ok (.ldc2_w 147, 3) := by decide +kernel
theorem dX6_digest_119 : decode cX6_digest 119 = .ok (.lload_n 1, 1) := by decide +kernel
theorem dX6_digest_120 : decode cX6_digest 120 = .ok (.lmul, 1) := by decide +kernel
theorem dX6_digest_121 : decode cX6_digest 121 = .ok (.aload_n 0, 1) := by decide +kernel
theorem dX6_digest_122 : decode cX6_digest 122 = .ok (.getfield 133, 3) := by decide +kernel
theorem dX6_digest_125 : decode cX6_digest 125 = .ok (.i2l, 1) := by decide +kernel
theorem dX6_digest_126 : decode cX6_digest 126 = .ok (.ladd, 1) := by decide +kernel
theorem dX6_digest_127 : decode cX6_digest 127 = .ok (.lstore_n 1, 1) := by decide +kernel
theorem dX6_digest_128 : decode cX6_digest 128 = .ok (.ldc2_w 147, 3) := by decide +kernel
theorem dX6_digest_131 : decode cX6_digest 131 = .ok (.lload_n 1, 1) := by decide +kernel
theorem dX6_digest_132 : decode cX6_digest 132 = .ok (.lmul, 1) := by decide +kernel
theorem dX6_digest_133 : decode cX6_digest 133 = .ok (.aload_n 0, 1) := by decide +kernel
theorem dX6_digest_134 : decode cX6_digest 134 = .ok (.getfield 140, 3) := by decide +kernel
theorem dX6_digest_137 : decode cX6_digest 137 = .ok (.i2l, 1) := by decide +kernel
theorem dX6_digest_138 : decode cX6_digest 138 = .ok (.ladd, 1) := by decide +kernel
theorem dX6_digest_139 : decode cX6_digest 139 = .ok (.lreturn, 1) := by decide +kernel
theorem dJ9_abs_0f7a4_0 : decode cJ9_abs_0f7a4 0 = .ok (.iload_n 0, 1) := by decide +kernel
theorem dJ9_abs_0f7a4_1 : decode cJ9_abs_0f7a4 1 = .ok (.ifCond .ge 8, 3) := by decide +kernel
theorem dJ9_abs_0f7a4_4 : decode cJ9_abs_0f7a4 4 = .ok (.iload_n 0, 1) := by decide +kernel
theorem dJ9_abs_0f7a4_5 : decode cJ9_abs_0f7a4 5 = .ok (.ineg, 1) := by decide +kernel
theorem dJ9_abs_0f7a4_6 : decode cJ9_abs_0f7a4 6 = .ok (.goto 4, 3) := by decide +kernel
theorem dJ9_abs_0f7a4_9 : decode cJ9_abs_0f7a4 9 = .ok (.iload_n 0, 1) := by decide +kernel
theorem dJ9_abs_0f7a4_10 : decode cJ9_abs_0f7a4 10 = .ok (.ireturn, 1) := by decide +kernel
theorem dJ9_max_7cf53_0 : decode cJ9_max_7cf53 0 = .ok (.iload_n 0, 1) := by decide +kernel
theorem dJ9_max_7cf53_1 : decode cJ9_max_7cf53 1 = .ok (.iload_n 1, 1) := by decide +kernel
theorem dJ9_max_7cf53_2 : decode cJ9_max_7cf53 2 = .ok (.if_icmp .lt 7, 3) := by decide +kernel
theorem dJ9_max_7cf53_5 : decode cJ9_max_7cf53 5 = .ok (.iload_n 0, 1) := by decide +kernel
theorem dJ9_max_7cf53_6 : decode cJ9_max_7cf53 6 = .ok (.goto 4, 3) := by decide +kernel
theorem dJ9_max_7cf53_9 : decode cJ9_max_7cf53 9 = .ok (.iload_n 1, 1) := by decide +kernel
theorem dJ9_max_7cf53_10 : decode cJ9_max_7cf53 10 = .ok (.ireturn, 1) := by decide +kernel
