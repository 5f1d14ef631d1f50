theorem dX0_init_0 : decode cX0_init 0 = .ok (.aload_n 0, 1) := by decide +kernel
theorem dX0_init_1 : decode cX0_init 1 = .ok (.invokespecial 3, 3) := by decide +kernel
theorem dX0_init_4 : decode cX0_init 4 = .ok (.aload_n 0, 1) := by decide +kernel
theorem dX0_init_5 : decode cX0_init 5 = .ok (.iconst 4, 1) := by decide +kernel
theorem dX0_init_6 : decode cX0_init 6 = .ok (.newarray .int, 2) := by decide +kernel
theorem dX0_init_8 : decode cX0_init 8 = .ok (.putfield 11, 3) := by decide +kernel
theorem dX0_init_11 : decode cX0_init 11 = .ok (.aload_n 0, 1) := by decide +kernel
theorem dX0_init_12 : decode cX0_init 12 = .ok (.iconst 2, 1) := by decide +kernel
theorem dX0_init_13 : decode cX0_init 13 = .ok (.putfield 15, 3) := by decide +kernel
theorem dX0_init_16 : decode cX0_init 16 = .ok (.aload_n 0, 1) := by decide +kernel
theorem dX0_init_17 : decode cX0_init 17 = .ok (.getfield 11, 3) := by decide +kernel
theorem dX0_init_20 : decode cX0_init 20 = .ok (.iconst 0, 1) := by decide +kernel
theorem dX0_init_21 : decode cX0_init 21 = .ok (.iconst 1, 1) := by decide +kernel
theorem dX0_init_22 : decode cX0_init 22 = .ok (.iastore, 1) := by decide +kernel
theorem dX0_init_23 : decode cX0_init 23 = .ok (.aload_n 0, 1) := by decide +kernel
theorem dX0_init_24 : decode cX0_init 24 = .ok (.getfield 11, 3) := by decide +kernel
theorem dX0_init_27 : decode cX0_init 27 = .ok (.iconst 1, 1) := by decide +kernel
theorem dX0_init_28 : decode cX0_init 28 = .ok (.iconst 2, 1) := by decide +kernel
theorem dX0_init_29 : decode cX0_init 29 = .ok (.iastore, 1) := by decide +kernel
theorem dX0_init_30 : decode cX0_init 30 = .ok (.return_, 1) := by decide +kernel
theorem dX0_size_0 : decode cX0_size 0 = .ok (.aload_n 0, 1) := by decide +kernel
theorem dX0_size_1 : decode cX0_size 1 = .ok (.getfield 15, 3) := by decide +kernel
theorem dX0_size_4 : decode cX0_size 4 = .ok (.ireturn, 1) := by decide +kernel
theorem dX0_letterOfRun_0 : decode cX0_letterOfRun 0 = .ok (.aload_n 0, 1) := by decide +kernel
theorem dX0_letterOfRun_1 : decode cX0_letterOfRun 1 = .ok (.getfield 15, 3) := by decide +kernel
theorem dX0_letterOfRun_4 : decode cX0_letterOfRun 4 = .ok (.iconst 1, 1) := by decide +kernel
theorem dX0_letterOfRun_5 : decode cX0_letterOfRun 5 = .ok (.if_icmp .lt 7, 3) := by decide +kernel
theorem dX0_letterOfRun_8 : decode cX0_letterOfRun 8 = .ok (.iload_n 1, 1) := by decide +kernel
theorem dX0_letterOfRun_9 : decode cX0_letterOfRun 9 = .ok (.ifCond .ge 5, 3) := by decide +kernel
theorem dX0_letterOfRun_12 : decode cX0_letterOfRun 12 = .ok (.iconst (-1), 1) := by decide +kernel
theorem dX0_letterOfRun_13 : decode cX0_letterOfRun 13 = .ok (.ireturn, 1) := by decide +kernel
theorem dX0_letterOfRun_14 : decode cX0_letterOfRun 14 = .ok (.iload_n 1, 1) := by decide +kernel
theorem dX0_letterOfRun_15 : decode cX0_letterOfRun 15 = .ok (.aload_n 0, 1) := by decide +kernel
theorem dX0_letterOfRun_16 : decode cX0_letterOfRun 16 = .ok (.getfield 15, 3) := by decide +kernel
theorem dX0_letterOfRun_19 : decode cX0_letterOfRun 19 = .ok (.irem, 1) := by decide +kernel
theorem dX0_letterOfRun_20 : decode cX0_letterOfRun 20 = .ok (.istore_n 2, 1) := by decide +kernel
theorem dX0_letterOfRun_21 : decode cX0_letterOfRun 21 = .ok (.iload_n 2, 1) := by decide +kernel
theorem dX0_letterOfRun_22 : decode cX0_letterOfRun 22 = .ok (.aload_n 0, 1) := by decide +kernel
theorem dX0_letterOfRun_23 : decode cX0_letterOfRun 23 = .ok (.getfield 11, 3) := by decide +kernel
theorem dX0_letterOfRun_26 : decode cX0_letterOfRun 26 = .ok (.arraylength, 1) := by decide +kernel
theorem dX0_letterOfRun_27 : decode cX0_letterOfRun 27 = .ok (.if_icmp .ge 12, 3) := by decide +kernel
theorem dX0_letterOfRun_30 : decode cX0_letterOfRun 30 = .ok (.aload_n 0, 1) := by decide +kernel
theorem dX0_letterOfRun_31 : decode cX0_letterOfRun 31 = .ok (.getfield 11, 3) := by decide +kernel
theorem dX0_letterOfRun_34 : decode cX0_letterOfRun 34 = .ok (.iload_n 2, 1) := by decide +kernel
theorem dX0_letterOfRun_35 : decode cX0_letterOfRun 35 = .ok (.iaload, 1) := by decide +kernel
theorem dX0_letterOfRun_36 : decode cX0_letterOfRun 36 = .ok (.goto 4, 3) := by decide +kernel
theorem dX0_letterOfRun_39 : decode cX0_letterOfRun 39 = .ok (.iconst (-1), 1) := by decide +kernel
theorem dX0_letterOfRun_40 : decode cX0_letterOfRun 40 = .ok (.ireturn, 1) := by decide +kernel
set_option maxRecDepth 20000 in
theorem ggX0_letterBehind_X0_letterOfRun : GoodIn wsX0_letterBehind wsX0_letterOfRun := goodIn_r _ [6, 1, 7, 8, 9] (by decide +kernel) (by decide +kernel)
set_option maxRecDepth 20000 in
theorem gX0_letterBehind_X0_letterOfRun : GoodIn wsX0_letterBehind (wsV RX0 19 RX0 yX0_letterOfRun wsX0_letterOfRun) := goodIn_app (goodIn_of _ (by decide +kernel)) ggX0_letterBehind_X0_letterOfRun
theorem dX0_letterBehind_0 : decode cX0_letterBehind 0 = .ok (.iconst 0, 1) := by decide +kernel
theorem dX0_letterBehind_1 : decode cX0_letterBehind 1 = .ok (.istore_n 2, 1) := by decide +kernel
theorem dX0_letterBehind_2 : decode cX0_letterBehind 2 = .ok (.iload_n 2, 1) := by decide +kernel
theorem dX0_letterBehind_3 : decode cX0_letterBehind 3 = .ok (.aload_n 0, 1) := by decide +kernel
theorem dX0_letterBehind_4 : decode cX0_letterBehind 4 = .ok (.getfield 15, 3) := by decide +kernel
theorem dX0_letterBehind_7 : decode cX0_letterBehind 7 = .ok (.if_icmp .ge 26, 3) := by decide +kernel
theorem dX0_letterBehind_10 : decode cX0_letterBehind 10 = .ok (.aload_n 0, 1) := by decide +kernel
theorem dX0_letterBehind_11 : decode cX0_letterBehind 11 = .ok (.iload_n 2, 1) := by decide +kernel
theorem dX0_letterBehind_12 : decode cX0_letterBehind 12 = .ok (.invokevirtual 19, 3) := by decide +kernel
theorem dX0_letterBehind_15 : decode cX0_letterBehind 15 = .ok (.iload_n 1, 1) := by decide +kernel
theorem dX0_letterBehind_16 : decode cX0_letterBehind 16 = .ok (.if_icmp .ne 11, 3) := by decide +kernel
theorem dX0_letterBehind_19 : decode cX0_letterBehind 19 = .ok (.aload_n 0, 1) := by decide +kernel
theorem dX0_letterBehind_20 : decode cX0_letterBehind 20 = .ok (.iload_n 2, 1) := by decide +kernel
theorem dX0_letterBehind_21 : decode cX0_letterBehind 21 = .ok (.iconst 1, 1) := by decide +kernel
theorem dX0_letterBehind_22 : decode cX0_letterBehind 22 = .ok (.iadd, 1) := by decide +kernel
theorem dX0_letterBehind_23 : decode cX0_letterBehind 23 = .ok (.invokevirtual 19, 3) := by decide +kernel
theorem dX0_letterBehind_26 : decode cX0_letterBehind 26 = .ok (.ireturn, 1) := by decide +kernel
theorem dX0_letterBehind_27 : decode cX0_letterBehind 27 = .ok (.iinc 2 1, 3) := by decide +kernel
theorem dX0_letterBehind_30 : decode cX0_letterBehind 30 = .ok (.goto (-28), 3) := by decide +kernel
theorem dX0_letterBehind_33 : decode cX0_letterBehind 33 = .ok (.iconst (-1), 1) := by decide +kernel
theorem dX0_letterBehind_34 : decode cX0_letterBehind 34 = .ok (.ireturn, 1) := by decide +kernel
set_option maxRecDepth 20000 in
theorem ggX0_change_X5_isLetter : GoodIn wsX0_change wsX5_isLetter := goodIn_r _ [5] (by decide +kernel) (by decide +kernel)
set_option maxRecDepth 20000 in
theorem gX0_change_X5_isLetter_n23 : GoodIn wsX0_change (wsX5_isLetter) := ggX0_change_X5_isLetter
theorem dX0_change_0 : decode cX0_change 0 = .ok (.iload_n 1, 1) := by decide +kernel
theorem dX0_change_1 : decode cX0_change 1 = .ok (.iconst 2, 1) := by decide +kernel
theorem dX0_change_2 : decode cX0_change 2 = .ok (.if_icmp .lt 8, 3) := by decide +kernel
theorem dX0_change_5 : decode cX0_change 5 = .ok (.iload_n 1, 1) := by decide +kernel
theorem dX0_change_6 : decode cX0_change 6 = .ok (.iconst 4, 1) := by decide +kernel
theorem dX0_change_7 : decode cX0_change 7 = .ok (.if_icmp .le 5, 3) := by decide +kernel
theorem dX0_change_10 : decode cX0_change 10 = .ok (.iconst 0, 1) := by decide +kernel
theorem dX0_change_11 : decode cX0_change 11 = .ok (.ireturn, 1) := by decide +kernel
theorem dX0_change_12 : decode cX0_change 12 = .ok (.iload_n 1, 1) := by decide +kernel
theorem dX0_change_13 : decode cX0_change 13 = .ok (.iconst 2, 1) := by decide +kernel
theorem dX0_change_14 : decode cX0_change 14 = .ok (.if_icmp .ne 7, 3) := by decide +kernel
theorem dX0_change_17 : decode cX0_change 17 = .ok (.iload_n 3, 1) := by decide +kernel
theorem dX0_change_18 : decode cX0_change 18 = .ok (.goto 15, 3) := by decide +kernel
theorem dX0_change_21 : decode cX0_change 21 = .ok (.iload_n 1, 1) := by decide +kernel
theorem dX0_change_22 : decode cX0_change 22 = .ok (.iconst 3, 1) := by decide +kernel
theorem dX0_change_23 : decode cX0_change 23 = .ok (.if_icmp .ne 8, 3) := by decide +kernel
theorem dX0_change_26 : decode cX0_change 26 = .ok (.iload 4, 2) := by decide +kernel
theorem dX0_change_28 : decode cX0_change 28 = .ok (.goto 5, 3) := by decide +kernel
theorem dX0_change_31 : decode cX0_change 31 = .ok (.iload 5, 2) := by decide +kernel
theorem dX0_change_33 : decode cX0_change 33 = .ok (.istore 6, 2) := by decide +kernel
theorem dX0_change_35 : decode cX0_change 35 = .ok (.iload_n 2, 1) := by decide +kernel
theorem dX0_change_36 : decode cX0_change 36 = .ok (.invokestatic 23, 3) := by decide +kernel
theorem dX0_change_39 : decode cX0_change 39 = .ok (.ifCond .eq 21, 3) := by decide +kernel
theorem dX0_change_42 : decode cX0_change 42 = .ok (.iload_n 3, 1) := by decide +kernel
theorem dX0_change_43 : decode cX0_change 43 = .ok (.invokestatic 23, 3) := by decide +kernel
theorem dX0_change_46 : decode cX0_change 46 = .ok (.ifCond .eq 14, 3) := by decide +kernel
theorem dX0_change_49 : decode cX0_change 49 = .ok (.iload_n 2, 1) := by decide +kernel
theorem dX0_change_50 : decode cX0_change 50 = .ok (.iload_n 3, 1) := by decide +kernel
theorem dX0_change_51 : decode cX0_change 51 = .ok (.if_icmp .eq 9, 3) := by decide +kernel
theorem dX0_change_54 : decode cX0_change 54 = .ok (.iload 6, 2) := by decide +kernel
theorem dX0_change_56 : decode cX0_change 56 = .ok (.iload_n 2, 1) := by decide +kernel
theorem dX0_change_57 : decode cX0_change 57 = .ok (.if_icmp .ne 5, 3) := by decide +kernel
theorem dX0_change_60 : decode cX0_change 60 = .ok (.iconst 0, 1) := by decide +kernel
theorem dX0_change_61 : decode cX0_change 61 = .ok (.ireturn, 1) := by decide +kernel
theorem dX0_change_62 : decode cX0_change 62 = .ok (.iload_n 1, 1) := by decide +kernel
theorem dX0_change_63 : decode cX0_change 63 = .ok (.iconst 3, 1) := by decide +kernel
theorem dX0_change_64 : decode cX0_change 64 = .ok (.if_icmp .lt 19, 3) := by decide +kernel
theorem dX0_change_67 : decode cX0_change 67 = .ok (.iload 4, 2) := by decide +kernel
theorem dX0_change_69 : decode cX0_change 69 = .ok (.invokestatic 23, 3) := by decide +kernel
theorem dX0_change_72 : decode cX0_change 72 = .ok (.ifCond .eq 9, 3) := by decide +kernel
theorem dX0_change_75 : decode cX0_change 75 = .ok (.iload_n 3, 1) := by decide +kernel
theorem dX0_change_76 : decode cX0_change 76 = .ok (.iload 4, 2) := by decide +kernel
theorem dX0_change_78 : decode cX0_change 78 = .ok (.if_icmp .ne 5, 3) := by decide +kernel
theorem dX0_change_81 : decode cX0_change 81 = .ok (.iconst 0, 1) := by decide +kernel
theorem dX0_change_82 : decode cX0_change 82 = .ok (.ireturn, 1) := by decide +kernel
theorem dX0_change_83 : decode cX0_change 83 = .ok (.iload_n 1, 1) := by decide +kernel
theorem dX0_change_84 : decode cX0_change 84 = .ok (.iconst 4, 1) := by decide +kernel
theorem dX0_change_85 : decode cX0_change 85 = .ok (.if_icmp .lt 20, 3) := by decide +kernel
theorem dX0_change_88 : decode cX0_change 88 = .ok (.iload 5, 2) := by decide +kernel
theorem dX0_change_90 : decode cX0_change 90 = .ok (.invokestatic 23, 3) := by decide +kernel
theorem dX0_change_93 : decode cX0_change 93 = .ok (.ifCond .eq 10, 3) := by decide +kernel
theorem dX0_change_96 : decode cX0_change 96 = .ok (.iload 4, 2) := by decide +kernel
theorem dX0_change_98 : decode cX0_change 98 = .ok (.iload 5, 2) := by decide +kernel
theorem dX0_change_100 : decode cX0_change 100 = .ok (.if_icmp .ne 5, 3) := by decide +kernel
theorem dX0_change_103 : decode cX0_change 103 = .ok (.iconst 0, 1) := by decide +kernel
theorem dX0_change_104 : decode cX0_change 104 = .ok (.ireturn, 1) := by decide +kernel
theorem dX0_change_105 : decode cX0_change 105 = .ok (.aload_n 0, 1) := by decide +kernel
theorem dX0_change_106 : decode cX0_change 106 = .ok (.getfield 11, 3) := by decide +kernel
theorem dX0_change_109 : decode cX0_change 109 = .ok (.iconst 0, 1) := by decide +kernel
theorem dX0_change_110 : decode cX0_change 110 = .ok (.iload_n 2, 1) := by decide +kernel
theorem dX0_change_111 : decode cX0_change 111 = .ok (.iastore, 1) := by decide +kernel
theorem dX0_change_112 : decode cX0_change 112 = .ok (.aload_n 0, 1) := by decide +kernel
theorem dX0_change_113 : decode cX0_change 113 = .ok (.getfield 11, 3) := by decide +kernel
theorem dX0_change_116 : decode cX0_change 116 = .ok (.iconst 1, 1) := by decide +kernel
theorem dX0_change_117 : decode cX0_change 117 = .ok (.iload_n 3, 1) := by decide +kernel
theorem dX0_change_118 : decode cX0_change 118 = .ok (.iastore, 1) := by decide +kernel
theorem dX0_change_119 : decode cX0_change 119 = .ok (.aload_n 0, 1) := by decide +kernel
theorem dX0_change_120 : decode cX0_change 120 = .ok (.getfield 11, 3) := by decide +kernel
theorem dX0_change_123 : decode cX0_change 123 = .ok (.iconst 2, 1) := by decide +kernel
theorem dX0_change_124 : decode cX0_change 124 = .ok (.iload 4, 2) := by decide +kernel
theorem dX0_change_126 : decode cX0_change 126 = .ok (.iastore, 1) := by decide +kernel
theorem dX0_change_127 : decode cX0_change 127 = .ok (.aload_n 0, 1) := by decide +kernel
theorem dX0_change_128 : decode cX0_change 128 = .ok (.getfield 11, 3) := by decide +kernel
theorem dX0_change_131 : decode cX0_change 131 = .ok (.iconst 3, 1) := by decide +kernel
theorem dX0_change_132 : decode cX0_change 132 = .ok (.iload 5, 2) := by decide +kernel
theorem dX0_change_134 : decode cX0_change 134 = .ok (.iastore, 1) := by decide +kernel
theorem dX0_change_135 : decode cX0_change 135 = .ok (.aload_n 0, 1) := by decide +kernel
theorem dX0_change_136 : decode cX0_change 136 = .ok (.iload_n 1, 1) := by decide +kernel
theorem dX0_change_137 : decode cX0_change 137 = .ok (.putfield 15, 3) := by decide +kernel
theorem dX0_change_140 : decode cX0_change 140 = .ok (.iconst 1, 1) := by decide +kernel
theorem dX0_change_141 : decode cX0_change 141 = .ok (.ireturn, 1) := by decide +kernel
set_option maxRecDepth 20000 in
theorem ggX0_mixInto_X0_letterOfRun : GoodIn wsX0_mixInto wsX0_letterOfRun := goodIn_r _ [7, 1, 8, 9, 10] (by decide +kernel) (by decide +kernel)
set_option maxRecDepth 20000 in
theorem gX0_mixInto_X0_letterOfRun : GoodIn wsX0_mixInto (wsV RX0 19 RX0 yX0_letterOfRun wsX0_letterOfRun) := goodIn_app (goodIn_of _ (by decide +kernel)) ggX0_mixInto_X0_letterOfRun
theorem dX0_mixInto_0 : decode cX0_mixInto 0 = .ok (.lload_n 1, 1) := by decide +kernel
theorem dX0_mixInto_1 : decode cX0_mixInto 1 = .ok (.lstore_n 3, 1) := by decide +kernel
theorem dX0_mixInto_2 : decode cX0_mixInto 2 = .ok (.iconst 0, 1) := by decide +kernel
theorem dX0_mixInto_3 : decode cX0_mixInto 3 = .ok (.istore 5, 2) := by decide +kernel
theorem dX0_mixInto_5 : decode cX0_mixInto 5 = .ok (.iload 5, 2) := by decide +kernel
theorem dX0_mixInto_7 : decode cX0_mixInto 7 = .ok (.aload_n 0, 1) := by decide +kernel
theorem dX0_mixInto_8 : decode cX0_mixInto 8 = .ok (.getfield 15, 3) := by decide +kernel
theorem dX0_mixInto_11 : decode cX0_mixInto 11 = .ok (.if_icmp .ge 23, 3) := by decide +kernel
theorem dX0_mixInto_14 : decode cX0_mixInto 14 = .ok (.ldc2_w 27, 3) := by decide +kernel
theorem dX0_mixInto_17 : decode cX0_mixInto 17 = .ok (.lload_n 3, 1) := by decide +kernel
theorem dX0_mixInto_18 : decode cX0_mixInto 18 = .ok (.lmul, 1) := by decide +kernel
theorem dX0_mixInto_19 : decode cX0_mixInto 19 = .ok (.aload_n 0, 1) := by decide +kernel
theorem dX0_mixInto_20 : decode cX0_mixInto 20 = .ok (.iload 5, 2) := by decide +kernel
theorem dX0_mixInto_22 : decode cX0_mixInto 22 = .ok (.invokevirtual 19, 3) := by decide +kernel
theorem dX0_mixInto_25 : decode cX0_mixInto 25 = .ok (.i2l, 1) := by decide +kernel
theorem dX0_mixInto_26 : decode cX0_mixInto 26 = .ok (.ladd, 1) := by decide +kernel
theorem dX0_mixInto_27 : decode cX0_mixInto 27 = .ok (.lstore_n 3, 1) := by decide +kernel
theorem dX0_mixInto_28 : decode cX0_mixInto 28 = .ok (.iinc 5 1, 3) := by decide +kernel
theorem dX0_mixInto_31 : decode cX0_mixInto 31 = .ok (.goto (-26), 3) := by decide +kernel
theorem dX0_mixInto_34 : decode cX0_mixInto 34 = .ok (.lload_n 3, 1) := by decide +kernel
theorem dX0_mixInto_35 : decode cX0_mixInto 35 = .ok (.lreturn, 1) := by decide +kernel
set_option maxRecDepth 20000 in
theorem ggX1_init_X0_init : GoodIn wsX1_init wsX0_init := goodIn_r _ [17, 18, 2, 3, 8, 19, 20, 34, 35] (by decide +kernel) (by decide +kernel)
set_option maxRecDepth 20000 in
theorem gX1_init_X0_init : GoodIn wsX1_init (wsX0_init) := ggX1_init_X0_init
set_option maxRecDepth 20000 in
theorem ggX1_init_X2_init : GoodIn wsX1_init wsX2_init := goodIn_r _ [22, 23, 2, 3, 24, 25, 26, 8, 27, 28, 29, 36, 37, 38, 39] (by decide +kernel) (by decide +kernel)
set_option maxRecDepth 20000 in
theorem gX1_init_X2_init_n32 : GoodIn wsX1_init (wsX2_init) := ggX1_init_X2_init
theorem dX1_init_0 : decode cX1_init 0 = .ok (.aload_n 0, 1) := by decide +kernel
theorem dX1_init_1 : decode cX1_init 1 = .ok (.invokespecial 3, 3) := by decide +kernel
theorem dX1_init_4 : decode cX1_init 4 = .ok (.aload_n 0, 1) := by decide +kernel
theorem dX1_init_5 : decode cX1_init 5 = .ok (.iconst 4, 1) := by decide +kernel
theorem dX1_init_6 : decode cX1_init 6 = .ok (.anewarray 9, 3) := by decide +kernel
theorem dX1_init_9 : decode cX1_init 9 = .ok (.putfield 11, 3) := by decide +kernel
theorem dX1_init_12 : decode cX1_init 12 = .ok (.aload_n 0, 1) := by decide +kernel
theorem dX1_init_13 : decode cX1_init 13 = .ok (.iconst 3, 1) := by decide +kernel
theorem dX1_init_14 : decode cX1_init 14 = .ok (.anewarray 17, 3) := by decide +kernel
theorem dX1_init_17 : decode cX1_init 17 = .ok (.putfield 19, 3) := by decide +kernel
theorem dX1_init_20 : decode cX1_init 20 = .ok (.aload_n 0, 1) := by decide +kernel
theorem dX1_init_21 : decode cX1_init 21 = .ok (.iconst 3, 1) := by decide +kernel
theorem dX1_init_22 : decode cX1_init 22 = .ok (.newarray .int, 2) := by decide +kernel
theorem dX1_init_24 : decode cX1_init 24 = .ok (.putfield 23, 3) := by decide +kernel
theorem dX1_init_27 : decode cX1_init 27 = .ok (.aload_n 0, 1) := by decide +kernel
theorem dX1_init_28 : decode cX1_init 28 = .ok (.iconst 1, 1) := by decide +kernel
theorem dX1_init_29 : decode cX1_init 29 = .ok (.putfield 27, 3) := by decide +kernel
theorem dX1_init_32 : decode cX1_init 32 = .ok (.iconst 0, 1) := by decide +kernel
theorem dX1_init_33 : decode cX1_init 33 = .ok (.istore_n 1, 1) := by decide +kernel
theorem dX1_init_34 : decode cX1_init 34 = .ok (.iload_n 1, 1) := by decide +kernel
theorem dX1_init_35 : decode cX1_init 35 = .ok (.aload_n 0, 1) := by decide +kernel
theorem dX1_init_36 : decode cX1_init 36 = .ok (.getfield 11, 3) := by decide +kernel
theorem dX1_init_39 : decode cX1_init 39 = .ok (.arraylength, 1) := by decide +kernel
theorem dX1_init_40 : decode cX1_init 40 = .ok (.if_icmp .ge 22, 3) := by decide +kernel
theorem dX1_init_43 : decode cX1_init 43 = .ok (.aload_n 0, 1) := by decide +kernel
theorem dX1_init_44 : decode cX1_init 44 = .ok (.getfield 11, 3) := by decide +kernel
theorem dX1_init_47 : decode cX1_init 47 = .ok (.iload_n 1, 1) := by decide +kernel
theorem dX1_init_48 : decode cX1_init 48 = .ok (.new 9, 3) := by decide +kernel
theorem dX1_init_51 : decode cX1_init 51 = .ok (.dup, 1) := by decide +kernel
theorem dX1_init_52 : decode cX1_init 52 = .ok (.invokespecial 31, 3) := by decide +kernel
theorem dX1_init_55 : decode cX1_init 55 = .ok (.aastore, 1) := by decide +kernel
theorem dX1_init_56 : decode cX1_init 56 = .ok (.iinc 1 1, 3) := by decide +kernel
theorem dX1_init_59 : decode cX1_init 59 = .ok (.goto (-25), 3) := by decide +kernel
theorem dX1_init_62 : decode cX1_init 62 = .ok (.iconst 0, 1) := by decide +kernel
theorem dX1_init_63 : decode cX1_init 63 = .ok (.istore_n 1, 1) := by decide +kernel
theorem dX1_init_64 : decode cX1_init 64 = .ok (.iload_n 1, 1) := by decide +kernel
theorem dX1_init_65 : decode cX1_init 65 = .ok (.aload_n 0, 1) := by decide +kernel
theorem dX1_init_66 : decode cX1_init 66 = .ok (.getfield 19, 3) := by decide +kernel
theorem dX1_init_69 : decode cX1_init 69 = .ok (.arraylength, 1) := by decide +kernel
theorem dX1_init_70 : decode cX1_init 70 = .ok (.if_icmp .ge 22, 3) := by decide +kernel
theorem dX1_init_73 : decode cX1_init 73 = .ok (.aload_n 0, 1) := by decide +kernel
theorem dX1_init_74 : decode cX1_init 74 = .ok (.getfield 19, 3) := by decide +kernel
theorem dX1_init_77 : decode cX1_init 77 = .ok (.iload_n 1, 1) := by decide +kernel
theorem dX1_init_78 : decode cX1_init 78 = .ok (.new 17, 3) := by decide +kernel
theorem dX1_init_81 : decode cX1_init 81 = .ok (.dup, 1) := by decide +kernel
theorem dX1_init_82 : decode cX1_init 82 = .ok (.invokespecial 32, 3) := by decide +kernel
theorem dX1_init_85 : decode cX1_init 85 = .ok (.aastore, 1) := by decide +kernel
theorem dX1_init_86 : decode cX1_init 86 = .ok (.iinc 1 1, 3) := by decide +kernel
theorem dX1_init_89 : decode cX1_init 89 = .ok (.goto (-25), 3) := by decide +kernel
theorem dX1_init_92 : decode cX1_init 92 = .ok (.return_, 1) := by decide +kernel
theorem dX1_size_0 : decode cX1_size 0 = .ok (.aload_n 0, 1) := by decide +kernel
theorem dX1_size_1 : decode cX1_size 1 = .ok (.getfield 27, 3) := by decide +kernel
theorem dX1_size_4 : decode cX1_size 4 = .ok (.ireturn, 1) := by decide +kernel
theorem dX1_hasAlphabet_0 : decode cX1_hasAlphabet 0 = .ok (.iload_n 1, 1) := by decide +kernel
theorem dX1_hasAlphabet_1 : decode cX1_hasAlphabet 1 = .ok (.ifCond .lt 16, 3) := by decide +kernel
theorem dX1_hasAlphabet_4 : decode cX1_hasAlphabet 4 = .ok (.iload_n 1, 1) := by decide +kernel
theorem dX1_hasAlphabet_5 : decode cX1_hasAlphabet 5 = .ok (.aload_n 0, 1) := by decide +kernel
theorem dX1_hasAlphabet_6 : decode cX1_hasAlphabet 6 = .ok (.getfield 11, 3) := by decide +kernel
theorem dX1_hasAlphabet_9 : decode cX1_hasAlphabet 9 = .ok (.arraylength, 1) := by decide +kernel
theorem dX1_hasAlphabet_10 : decode cX1_hasAlphabet 10 = .ok (.if_icmp .ge 7, 3) := by decide +kernel
theorem dX1_hasAlphabet_13 : decode cX1_hasAlphabet 13 = .ok (.iconst 1, 1) := by decide +kernel
theorem dX1_hasAlphabet_14 : decode cX1_hasAlphabet 14 = .ok (.goto 4, 3) := by decide +kernel
theorem dX1_hasAlphabet_17 : decode cX1_hasAlphabet 17 = .ok (.iconst 0, 1) := by decide +kernel
theorem dX1_hasAlphabet_18 : decode cX1_hasAlphabet 18 = .ok (.ireturn, 1) := by decide +kernel
theorem dX1_hasRow_0 : decode cX1_hasRow 0 = .ok (.iload_n 1, 1) := by decide +kernel
theorem dX1_hasRow_1 : decode cX1_hasRow 1 = .ok (.ifCond .lt 24, 3) := by decide +kernel
theorem dX1_hasRow_4 : decode cX1_hasRow 4 = .ok (.iload_n 1, 1) := by decide +kernel
theorem dX1_hasRow_5 : decode cX1_hasRow 5 = .ok (.aload_n 0, 1) := by decide +kernel
theorem dX1_hasRow_6 : decode cX1_hasRow 6 = .ok (.getfield 27, 3) := by decide +kernel
theorem dX1_hasRow_9 : decode cX1_hasRow 9 = .ok (.if_icmp .ge 16, 3) := by decide +kernel
theorem dX1_hasRow_12 : decode cX1_hasRow 12 = .ok (.iload_n 1, 1) := by decide +kernel
theorem dX1_hasRow_13 : decode cX1_hasRow 13 = .ok (.aload_n 0, 1) := by decide +kernel
theorem dX1_hasRow_14 : decode cX1_hasRow 14 = .ok (.getfield 19, 3) := by decide +kernel
theorem dX1_hasRow_17 : decode cX1_hasRow 17 = .ok (.arraylength, 1) := by decide +kernel
theorem dX1_hasRow_18 : decode cX1_hasRow 18 = .ok (.if_icmp .ge 7, 3) := by decide +kernel
theorem dX1_hasRow_21 : decode cX1_hasRow 21 = .ok (.iconst 1, 1) := by decide +kernel
theorem dX1_hasRow_22 : decode cX1_hasRow 22 = .ok (.goto 4, 3) := by decide +kernel
theorem dX1_hasRow_25 : decode cX1_hasRow 25 = .ok (.iconst 0, 1) := by decide +kernel
theorem dX1_hasRow_26 : decode cX1_hasRow 26 = .ok (.ireturn, 1) := by decide +kernel
theorem dX1_alphabetNamed_0 : decode cX1_alphabetNamed 0 = .ok (.lload_n 1, 1) := by decide +kernel
theorem dX1_alphabetNamed_1 : decode cX1_alphabetNamed 1 = .ok (.lconst 0, 1) := by decide +kernel
theorem dX1_alphabetNamed_2 : decode cX1_alphabetNamed 2 = .ok (.lcmp, 1) := by decide +kernel
theorem dX1_alphabetNamed_3 : decode cX1_alphabetNamed 3 = .ok (.ifCond .lt 24, 3) := by decide +kernel
theorem dX1_alphabetNamed_6 : decode cX1_alphabetNamed 6 = .ok (.lload_n 1, 1) := by decide +kernel
theorem dX1_alphabetNamed_7 : decode cX1_alphabetNamed 7 = .ok (.aload_n 0, 1) := by decide +kernel
theorem dX1_alphabetNamed_8 : decode cX1_alphabetNamed 8 = .ok (.getfield 11, 3) := by decide +kernel
theorem dX1_alphabetNamed_11 : decode cX1_alphabetNamed 11 = .ok (.arraylength, 1) := by decide +kernel
theorem dX1_alphabetNamed_12 : decode cX1_alphabetNamed 12 = .ok (.i2l, 1) := by decide +kernel
theorem dX1_alphabetNamed_13 : decode cX1_alphabetNamed 13 = .ok (.lcmp, 1) := by decide +kernel
theorem dX1_alphabetNamed_14 : decode cX1_alphabetNamed 14 = .ok (.ifCond .ge 13, 3) := by decide +kernel
theorem dX1_alphabetNamed_17 : decode cX1_alphabetNamed 17 = .ok (.aload_n 0, 1) := by decide +kernel
theorem dX1_alphabetNamed_18 : decode cX1_alphabetNamed 18 = .ok (.getfield 11, 3) := by decide +kernel
theorem dX1_alphabetNamed_21 : decode cX1_alphabetNamed 21 = .ok (.lload_n 1, 1) := by decide +kernel
theorem dX1_alphabetNamed_22 : decode cX1_alphabetNamed 22 = .ok (.l2i, 1) := by decide +kernel
theorem dX1_alphabetNamed_23 : decode cX1_alphabetNamed 23 = .ok (.aaload, 1) := by decide +kernel
theorem dX1_alphabetNamed_24 : decode cX1_alphabetNamed 24 = .ok (.goto 4, 3) := by decide +kernel
theorem dX1_alphabetNamed_27 : decode cX1_alphabetNamed 27 = .ok (.aconst_null, 1) := by decide +kernel
theorem dX1_alphabetNamed_28 : decode cX1_alphabetNamed 28 = .ok (.areturn, 1) := by decide +kernel
set_option maxRecDepth 20000 in
theorem ggX1_join_X1_forgetNumbers : GoodIn wsX1_join wsX1_forgetNumbers := goodIn_r _ [7, 8, 9, 10, 11, 12, 13, 14, 15, 16, 17, 18, 19, 20, 21, 22, 23] (by decide +kernel) (by decide +kernel)
set_option maxRecDepth 20000 in
theorem gX1_join_X1_forgetNumbers : GoodIn wsX1_join (wsV RX1 33 RX1 yX1_forgetNumbers wsX1_forgetNumbers) := goodIn_app (goodIn_of _ (by decide +kernel)) ggX1_join_X1_forgetNumbers
theorem dX1_join_0 : decode cX1_join 0 = .ok (.aload_n 0, 1) := by decide +kernel
theorem dX1_join_1 : decode cX1_join 1 = .ok (.iload_n 1, 1) := by decide +kernel
theorem dX1_join_2 : decode cX1_join 2 = .ok (.putfield 27, 3) := by decide +kernel
theorem dX1_join_5 : decode cX1_join 5 = .ok (.aload_n 0, 1) := by decide +kernel
theorem dX1_join_6 : decode cX1_join 6 = .ok (.getfield 23, 3) := by decide +kernel
theorem dX1_join_9 : decode cX1_join 9 = .ok (.iconst 0, 1) := by decide +kernel
theorem dX1_join_10 : decode cX1_join 10 = .ok (.iload_n 2, 1) := by decide +kernel
theorem dX1_join_11 : decode cX1_join 11 = .ok (.iastore, 1) := by decide +kernel
theorem dX1_join_12 : decode cX1_join 12 = .ok (.aload_n 0, 1) := by decide +kernel
theorem dX1_join_13 : decode cX1_join 13 = .ok (.getfield 23, 3) := by decide +kernel
theorem dX1_join_16 : decode cX1_join 16 = .ok (.iconst 1, 1) := by decide +kernel
theorem dX1_join_17 : decode cX1_join 17 = .ok (.iload_n 3, 1) := by decide +kernel
theorem dX1_join_18 : decode cX1_join 18 = .ok (.iastore, 1) := by decide +kernel
theorem dX1_join_19 : decode cX1_join 19 = .ok (.aload_n 0, 1) := by decide +kernel
theorem dX1_join_20 : decode cX1_join 20 = .ok (.getfield 23, 3) := by decide +kernel
theorem dX1_join_23 : decode cX1_join 23 = .ok (.iconst 2, 1) := by decide +kernel
theorem dX1_join_24 : decode cX1_join 24 = .ok (.iload 4, 2) := by decide +kernel
theorem dX1_join_26 : decode cX1_join 26 = .ok (.iastore, 1) := by decide +kernel
theorem dX1_join_27 : decode cX1_join 27 = .ok (.aload_n 0, 1) := by decide +kernel
theorem dX1_join_28 : decode cX1_join 28 = .ok (.invokevirtual 33, 3) := by decide +kernel
theorem dX1_join_31 : decode cX1_join 31 = .ok (.return_, 1) := by decide +kernel
set_option maxRecDepth 20000 in
theorem ggX1_forgetNumbers_X2_forget : GoodIn wsX1_forgetNumbers wsX2_forget := goodIn_r _ [6, 7, 8, 13, 14, 15, 16] (by decide +kernel) (by decide +kernel)
set_option maxRecDepth 20000 in
theorem gX1_forgetNumbers_X2_forget : GoodIn wsX1_forgetNumbers (wsV RX1 36 RX2 yX2_forget wsX2_forget) := goodIn_app (goodIn_of _ (by decide +kernel)) ggX1_forgetNumbers_X2_forget
theorem dX1_forgetNumbers_0 : decode cX1_forgetNumbers 0 = .ok (.iconst 0, 1) := by decide +kernel
theorem dX1_forgetNumbers_1 : decode cX1_forgetNumbers 1 = .ok (.istore_n 1, 1) := by decide +kernel
theorem dX1_forgetNumbers_2 : decode cX1_forgetNumbers 2 = .ok (.iload_n 1, 1) := by decide +kernel
theorem dX1_forgetNumbers_3 : decode cX1_forgetNumbers 3 = .ok (.aload_n 0, 1) := by decide +kernel
theorem dX1_forgetNumbers_4 : decode cX1_forgetNumbers 4 = .ok (.getfield 19, 3) := by decide +kernel
theorem dX1_forgetNumbers_7 : decode cX1_forgetNumbers 7 = .ok (.arraylength, 1) := by decide +kernel
theorem dX1_forgetNumbers_8 : decode cX1_forgetNumbers 8 = .ok (.if_icmp .ge 18, 3) := by decide +kernel
theorem dX1_forgetNumbers_11 : decode cX1_forgetNumbers 11 = .ok (.aload_n 0, 1) := by decide +kernel
theorem dX1_forgetNumbers_12 : decode cX1_forgetNumbers 12 = .ok (.getfield 19, 3) := by decide +kernel
theorem dX1_forgetNumbers_15 : decode cX1_forgetNumbers 15 = .ok (.iload_n 1, 1) := by decide +kernel
theorem dX1_forgetNumbers_16 : decode cX1_forgetNumbers 16 = .ok (.aaload, 1) := by decide +kernel
theorem dX1_forgetNumbers_17 : decode cX1_forgetNumbers 17 = .ok (.invokevirtual 36, 3) := by decide +kernel
theorem dX1_forgetNumbers_20 : decode cX1_forgetNumbers 20 = .ok (.iinc 1 1, 3) := by decide +kernel
theorem dX1_forgetNumbers_23 : decode cX1_forgetNumbers 23 = .ok (.goto (-21), 3) := by decide +kernel
theorem dX1_forgetNumbers_26 : decode cX1_forgetNumbers 26 = .ok (.return_, 1) := by decide +kernel
theorem dX1_nextOf_0 : decode cX1_nextOf 0 = .ok (.iload_n 1, 1) := by decide +kernel
theorem dX1_nextOf_1 : decode cX1_nextOf 1 = .ok (.iconst 1, 1) := by decide +kernel
theorem dX1_nextOf_2 : decode cX1_nextOf 2 = .ok (.iadd, 1) := by decide +kernel
theorem dX1_nextOf_3 : decode cX1_nextOf 3 = .ok (.aload_n 0, 1) := by decide +kernel
theorem dX1_nextOf_4 : decode cX1_nextOf 4 = .ok (.getfield 27, 3) := by decide +kernel
theorem dX1_nextOf_7 : decode cX1_nextOf 7 = .ok (.if_icmp .ge 9, 3) := by decide +kernel
theorem dX1_nextOf_10 : decode cX1_nextOf 10 = .ok (.iload_n 1, 1) := by decide +kernel
theorem dX1_nextOf_11 : decode cX1_nextOf 11 = .ok (.iconst 1, 1) := by decide +kernel
theorem dX1_nextOf_12 : decode cX1_nextOf 12 = .ok (.iadd, 1) := by decide +kernel
theorem dX1_nextOf_13 : decode cX1_nextOf 13 = .ok (.goto 4, 3) := by decide +kernel
theorem dX1_nextOf_16 : decode cX1_nextOf 16 = .ok (.iconst 0, 1) := by decide +kernel
theorem dX1_nextOf_17 : decode cX1_nextOf 17 = .ok (.ireturn, 1) := by decide +kernel
set_option maxRecDepth 20000 in
theorem ggX1_rowOf_X1_hasRow : GoodIn wsX1_rowOf wsX1_hasRow := goodIn_r _ [7, 8, 1, 83, 84, 85, 86] (by decide +kernel) (by decide +kernel)
set_option maxRecDepth 20000 in
theorem gX1_rowOf_X1_hasRow : GoodIn wsX1_rowOf (wsV RX1 39 RX1 yX1_hasRow wsX1_hasRow) := goodIn_app (goodIn_of _ (by decide +kernel)) ggX1_rowOf_X1_hasRow
set_option maxRecDepth 20000 in
theorem ggX1_rowOf_X2_made : GoodIn wsX1_rowOf wsX2_made := goodIn_r _ [13, 14, 87, 88, 89, 90] (by decide +kernel) (by decide +kernel)
set_option maxRecDepth 20000 in
theorem gX1_rowOf_X2_made : GoodIn wsX1_rowOf (wsV RX1 44 RX2 yX2_made wsX2_made) := goodIn_app (goodIn_of _ (by decide +kernel)) ggX1_rowOf_X2_made
set_option maxRecDepth 20000 in
theorem ggX1_rowOf_X1_ripeFrom : GoodIn wsX1_rowOf wsX1_ripeFrom := goodIn_r _ [18, 8, 19, 20, 21, 6, 22, 1, 23, 24, 25, 26, 3, 4, 5, 7, 27, 28, 29, 12, 30, 31, 9, 10, 11, 13, 14, 83, 84, 85, 86, 87, 88, 89, 90] (by decide +kernel) (by decide +kernel)
set_option maxRecDepth 20000 in
theorem gX1_rowOf_X1_ripeFrom : GoodIn wsX1_rowOf (wsV RX1 48 RX1 yX1_ripeFrom wsX1_ripeFrom) := goodIn_app (goodIn_of _ (by decide +kernel)) ggX1_rowOf_X1_ripeFrom
set_option maxRecDepth 20000 in
theorem ggX1_rowOf_X1_grow : GoodIn wsX1_rowOf wsX1_grow := goodIn_r _ [35, 1, 23, 24, 25, 6, 26, 8, 3, 4, 5, 7, 27, 28, 29, 12, 30, 31, 36, 37, 38, 39, 40, 41, 42, 43, 44, 45, 46, 47, 48, 49, 50, 51, 52, 53, 54, 55, 56, 9, 10, 11, 13, 14, 57, 58, 59, 60, 61, 62, 63, 64, 65, 66, 67, 68, 69, 70, 71, 72, 73, 74, 75, 76, 77, 78, 79, 80, 81, 82, 83, 84, 85, 86, 87, 88, 89, 90, 91, 92] (by decide +kernel) (by decide +kernel)
set_option maxRecDepth 20000 in
theorem gX1_rowOf_X1_grow : GoodIn wsX1_rowOf (wsV RX1 52 RX1 yX1_grow wsX1_grow) := goodIn_app (goodIn_of _ (by decide +kernel)) ggX1_rowOf_X1_grow
theorem dX1_rowOf_0 : decode cX1_rowOf 0 = .ok (.aload_n 0, 1) := by decide +kernel
theorem dX1_rowOf_1 : decode cX1_rowOf 1 = .ok (.getfield 19, 3) := by decide +kernel
theorem dX1_rowOf_4 : decode cX1_rowOf 4 = .ok (.aload_n 0, 1) := by decide +kernel
theorem dX1_rowOf_5 : decode cX1_rowOf 5 = .ok (.iload_n 1, 1) := by decide +kernel
theorem dX1_rowOf_6 : decode cX1_rowOf 6 = .ok (.invokevirtual 39, 3) := by decide +kernel
theorem dX1_rowOf_9 : decode cX1_rowOf 9 = .ok (.ifCond .eq 7, 3) := by decide +kernel
theorem dX1_rowOf_12 : decode cX1_rowOf 12 = .ok (.iload_n 1, 1) := by decide +kernel
theorem dX1_rowOf_13 : decode cX1_rowOf 13 = .ok (.goto 4, 3) := by decide +kernel
theorem dX1_rowOf_16 : decode cX1_rowOf 16 = .ok (.iconst 0, 1) := by decide +kernel
theorem dX1_rowOf_17 : decode cX1_rowOf 17 = .ok (.aaload, 1) := by decide +kernel
theorem dX1_rowOf_18 : decode cX1_rowOf 18 = .ok (.astore_n 3, 1) := by decide +kernel
theorem dX1_rowOf_19 : decode cX1_rowOf 19 = .ok (.iconst 0, 1) := by decide +kernel
theorem dX1_rowOf_20 : decode cX1_rowOf 20 = .ok (.istore 4, 2) := by decide +kernel
theorem dX1_rowOf_22 : decode cX1_rowOf 22 = .ok (.iload 4, 2) := by decide +kernel
theorem dX1_rowOf_24 : decode cX1_rowOf 24 = .ok (.ldc 43, 2) := by decide +kernel
theorem dX1_rowOf_26 : decode cX1_rowOf 26 = .ok (.if_icmp .ge 27, 3) := by decide +kernel
theorem dX1_rowOf_29 : decode cX1_rowOf 29 = .ok (.aload_n 3, 1) := by decide +kernel
theorem dX1_rowOf_30 : decode cX1_rowOf 30 = .ok (.invokevirtual 44, 3) := by decide +kernel
theorem dX1_rowOf_33 : decode cX1_rowOf 33 = .ok (.iload_n 2, 1) := by decide +kernel
theorem dX1_rowOf_34 : decode cX1_rowOf 34 = .ok (.if_icmp .ge 19, 3) := by decide +kernel
theorem dX1_rowOf_37 : decode cX1_rowOf 37 = .ok (.aload_n 0, 1) := by decide +kernel
theorem dX1_rowOf_38 : decode cX1_rowOf 38 = .ok (.aload_n 0, 1) := by decide +kernel
theorem dX1_rowOf_39 : decode cX1_rowOf 39 = .ok (.iload_n 1, 1) := by decide +kernel
theorem dX1_rowOf_40 : decode cX1_rowOf 40 = .ok (.invokevirtual 48, 3) := by decide +kernel
theorem dX1_rowOf_43 : decode cX1_rowOf 43 = .ok (.iload_n 2, 1) := by decide +kernel
theorem dX1_rowOf_44 : decode cX1_rowOf 44 = .ok (.invokevirtual 52, 3) := by decide +kernel
theorem dX1_rowOf_47 : decode cX1_rowOf 47 = .ok (.iinc 4 1, 3) := by decide +kernel
theorem dX1_rowOf_50 : decode cX1_rowOf 50 = .ok (.goto (-28), 3) := by decide +kernel
theorem dX1_rowOf_53 : decode cX1_rowOf 53 = .ok (.aload_n 3, 1) := by decide +kernel
theorem dX1_rowOf_54 : decode cX1_rowOf 54 = .ok (.areturn, 1) := by decide +kernel
set_option maxRecDepth 20000 in
theorem ggX1_ripeFrom_X1_waits : GoodIn wsX1_ripeFrom wsX1_waits := goodIn_r _ [6, 7, 8, 9, 10, 5, 11, 1, 12, 13, 14, 15, 16, 17, 18, 19, 20, 21, 22, 23, 24, 25, 26, 27, 28, 29, 30, 31, 32, 33, 34] (by decide +kernel) (by decide +kernel)
set_option maxRecDepth 20000 in
theorem gX1_ripeFrom_X1_waits : GoodIn wsX1_ripeFrom (wsV RX1 56 RX1 yX1_waits wsX1_waits) := goodIn_app (goodIn_of _ (by decide +kernel)) ggX1_ripeFrom_X1_waits
set_option maxRecDepth 20000 in
theorem ggX1_ripeFrom_X1_nextOf : GoodIn wsX1_ripeFrom wsX1_nextOf := goodIn_r _ [11, 1, 27, 28, 29, 30] (by decide +kernel) (by decide +kernel)
set_option maxRecDepth 20000 in
theorem gX1_ripeFrom_X1_nextOf : GoodIn wsX1_ripeFrom (wsV RX1 59 RX1 yX1_nextOf wsX1_nextOf) := goodIn_app (goodIn_of _ (by decide +kernel)) ggX1_ripeFrom_X1_nextOf
theorem dX1_ripeFrom_0 : decode cX1_ripeFrom 0 = .ok (.iload_n 1, 1) := by decide +kernel
theorem dX1_ripeFrom_1 : decode cX1_ripeFrom 1 = .ok (.istore_n 2, 1) := by decide +kernel
theorem dX1_ripeFrom_2 : decode cX1_ripeFrom 2 = .ok (.iconst 1, 1) := by decide +kernel
theorem dX1_ripeFrom_3 : decode cX1_ripeFrom 3 = .ok (.istore_n 3, 1) := by decide +kernel
theorem dX1_ripeFrom_4 : decode cX1_ripeFrom 4 = .ok (.iload_n 3, 1) := by decide +kernel
theorem dX1_ripeFrom_5 : decode cX1_ripeFrom 5 = .ok (.aload_n 0, 1) := by decide +kernel
theorem dX1_ripeFrom_6 : decode cX1_ripeFrom 6 = .ok (.getfield 27, 3) := by decide +kernel
theorem dX1_ripeFrom_9 : decode cX1_ripeFrom 9 = .ok (.if_icmp .ge 23, 3) := by decide +kernel
theorem dX1_ripeFrom_12 : decode cX1_ripeFrom 12 = .ok (.aload_n 0, 1) := by decide +kernel
theorem dX1_ripeFrom_13 : decode cX1_ripeFrom 13 = .ok (.iload_n 2, 1) := by decide +kernel
theorem dX1_ripeFrom_14 : decode cX1_ripeFrom 14 = .ok (.invokevirtual 56, 3) := by decide +kernel
theorem dX1_ripeFrom_17 : decode cX1_ripeFrom 17 = .ok (.ifCond .eq 15, 3) := by decide +kernel
theorem dX1_ripeFrom_20 : decode cX1_ripeFrom 20 = .ok (.aload_n 0, 1) := by decide +kernel
theorem dX1_ripeFrom_21 : decode cX1_ripeFrom 21 = .ok (.iload_n 2, 1) := by decide +kernel
theorem dX1_ripeFrom_22 : decode cX1_ripeFrom 22 = .ok (.invokevirtual 59, 3) := by decide +kernel
theorem dX1_ripeFrom_25 : decode cX1_ripeFrom 25 = .ok (.istore_n 2, 1) := by decide +kernel
theorem dX1_ripeFrom_26 : decode cX1_ripeFrom 26 = .ok (.iinc 3 1, 3) := by decide +kernel
theorem dX1_ripeFrom_29 : decode cX1_ripeFrom 29 = .ok (.goto (-25), 3) := by decide +kernel
theorem dX1_ripeFrom_32 : decode cX1_ripeFrom 32 = .ok (.iload_n 2, 1) := by decide +kernel
theorem dX1_ripeFrom_33 : decode cX1_ripeFrom 33 = .ok (.ireturn, 1) := by decide +kernel
set_option maxRecDepth 20000 in
theorem ggX1_waits_X1_nextOf : GoodIn wsX1_waits wsX1_nextOf := goodIn_r _ [6, 7, 23, 24, 25, 26] (by decide +kernel) (by decide +kernel)
set_option maxRecDepth 20000 in
theorem gX1_waits_X1_nextOf : GoodIn wsX1_waits (wsV RX1 59 RX1 yX1_nextOf wsX1_nextOf) := goodIn_app (goodIn_of _ (by decide +kernel)) ggX1_waits_X1_nextOf
set_option maxRecDepth 20000 in
theorem ggX1_waits_X1_hasRow : GoodIn wsX1_waits wsX1_hasRow := goodIn_r _ [11, 7, 1, 23, 24, 25, 26] (by decide +kernel) (by decide +kernel)
set_option maxRecDepth 20000 in
theorem gX1_waits_X1_hasRow : GoodIn wsX1_waits (wsV RX1 39 RX1 yX1_hasRow wsX1_hasRow) := goodIn_app (goodIn_of _ (by decide +kernel)) ggX1_waits_X1_hasRow
set_option maxRecDepth 20000 in
theorem ggX1_waits_X2_runsMade : GoodIn wsX1_waits wsX2_runsMade := goodIn_r _ [16, 17, 27, 28, 29, 30] (by decide +kernel) (by decide +kernel)
set_option maxRecDepth 20000 in
theorem gX1_waits_X2_runsMade : GoodIn wsX1_waits (wsV RX1 62 RX2 yX2_runsMade wsX2_runsMade) := goodIn_app (goodIn_of _ (by decide +kernel)) ggX1_waits_X2_runsMade
set_option maxRecDepth 20000 in
theorem ggX1_waits_X2_made : GoodIn wsX1_waits wsX2_made := goodIn_r _ [21, 22, 27, 28, 29, 30] (by decide +kernel) (by decide +kernel)
set_option maxRecDepth 20000 in
theorem gX1_waits_X2_made : GoodIn wsX1_waits (wsV RX1 44 RX2 yX2_made wsX2_made) := goodIn_app (goodIn_of _ (by decide +kernel)) ggX1_waits_X2_made
theorem dX1_waits_0 : decode cX1_waits 0 = .ok (.aload_n 0, 1) := by decide +kernel
theorem dX1_waits_1 : decode cX1_waits 1 = .ok (.iload_n 1, 1) := by decide +kernel
theorem dX1_waits_2 : decode cX1_waits 2 = .ok (.invokevirtual 59, 3) := by decide +kernel
theorem dX1_waits_5 : decode cX1_waits 5 = .ok (.istore_n 2, 1) := by decide +kernel
theorem dX1_waits_6 : decode cX1_waits 6 = .ok (.aload_n 0, 1) := by decide +kernel
theorem dX1_waits_7 : decode cX1_waits 7 = .ok (.iload_n 1, 1) := by decide +kernel
theorem dX1_waits_8 : decode cX1_waits 8 = .ok (.invokevirtual 39, 3) := by decide +kernel
theorem dX1_waits_11 : decode cX1_waits 11 = .ok (.ifCond .eq 36, 3) := by decide +kernel
theorem dX1_waits_14 : decode cX1_waits 14 = .ok (.aload_n 0, 1) := by decide +kernel
theorem dX1_waits_15 : decode cX1_waits 15 = .ok (.iload_n 2, 1) := by decide +kernel
theorem dX1_waits_16 : decode cX1_waits 16 = .ok (.invokevirtual 39, 3) := by decide +kernel
theorem dX1_waits_19 : decode cX1_waits 19 = .ok (.ifCond .eq 28, 3) := by decide +kernel
theorem dX1_waits_22 : decode cX1_waits 22 = .ok (.aload_n 0, 1) := by decide +kernel
theorem dX1_waits_23 : decode cX1_waits 23 = .ok (.getfield 19, 3) := by decide +kernel
theorem dX1_waits_26 : decode cX1_waits 26 = .ok (.iload_n 1, 1) := by decide +kernel
theorem dX1_waits_27 : decode cX1_waits 27 = .ok (.aaload, 1) := by decide +kernel
theorem dX1_waits_28 : decode cX1_waits 28 = .ok (.invokevirtual 62, 3) := by decide +kernel
theorem dX1_waits_31 : decode cX1_waits 31 = .ok (.aload_n 0, 1) := by decide +kernel
theorem dX1_waits_32 : decode cX1_waits 32 = .ok (.getfield 19, 3) := by decide +kernel
theorem dX1_waits_35 : decode cX1_waits 35 = .ok (.iload_n 2, 1) := by decide +kernel
theorem dX1_waits_36 : decode cX1_waits 36 = .ok (.aaload, 1) := by decide +kernel
theorem dX1_waits_37 : decode cX1_waits 37 = .ok (.invokevirtual 44, 3) := by decide +kernel
theorem dX1_waits_40 : decode cX1_waits 40 = .ok (.if_icmp .le 7, 3) := by decide +kernel
theorem dX1_waits_43 : decode cX1_waits 43 = .ok (.iconst 1, 1) := by decide +kernel
theorem dX1_waits_44 : decode cX1_waits 44 = .ok (.goto 4, 3) := by decide +kernel
theorem dX1_waits_47 : decode cX1_waits 47 = .ok (.iconst 0, 1) := by decide +kernel
theorem dX1_waits_48 : decode cX1_waits 48 = .ok (.ireturn, 1) := by decide +kernel
set_option maxRecDepth 20000 in
theorem ggX1_grow_X1_nextOf : GoodIn wsX1_grow wsX1_nextOf := goodIn_r _ [6, 7, 70, 71, 72, 73] (by decide +kernel) (by decide +kernel)
set_option maxRecDepth 20000 in
theorem gX1_grow_X1_nextOf : GoodIn wsX1_grow (wsV RX1 59 RX1 yX1_nextOf wsX1_nextOf) := goodIn_app (goodIn_of _ (by decide +kernel)) ggX1_grow_X1_nextOf
set_option maxRecDepth 20000 in
theorem ggX1_grow_X1_hasRow : GoodIn wsX1_grow wsX1_hasRow := goodIn_r _ [11, 7, 1, 70, 71, 72, 73] (by decide +kernel) (by decide +kernel)
set_option maxRecDepth 20000 in
theorem gX1_grow_X1_hasRow : GoodIn wsX1_grow (wsV RX1 39 RX1 yX1_hasRow wsX1_hasRow) := goodIn_app (goodIn_of _ (by decide +kernel)) ggX1_grow_X1_hasRow
set_option maxRecDepth 20000 in
theorem ggX1_grow_X2_runsMade : GoodIn wsX1_grow wsX2_runsMade := goodIn_r _ [16, 17, 74, 75, 76, 77] (by decide +kernel) (by decide +kernel)
set_option maxRecDepth 20000 in
theorem gX1_grow_X2_runsMade : GoodIn wsX1_grow (wsV RX1 62 RX2 yX2_runsMade wsX2_runsMade) := goodIn_app (goodIn_of _ (by decide +kernel)) ggX1_grow_X2_runsMade
set_option maxRecDepth 20000 in
theorem ggX1_grow_X1_lettersOf : GoodIn wsX1_grow wsX1_lettersOf := goodIn_r _ [21, 22, 23, 8, 9, 10, 5, 11, 7, 1, 24, 25, 26, 27, 70, 71, 72, 73] (by decide +kernel) (by decide +kernel)
set_option maxRecDepth 20000 in
theorem gX1_grow_X1_lettersOf : GoodIn wsX1_grow (wsV RX1 65 RX1 yX1_lettersOf wsX1_lettersOf) := goodIn_app (goodIn_of _ (by decide +kernel)) ggX1_grow_X1_lettersOf
set_option maxRecDepth 20000 in
theorem ggX1_grow_X0_letterOfRun : GoodIn wsX1_grow wsX0_letterOfRun := goodIn_r _ [32, 33, 34, 78, 79] (by decide +kernel) (by decide +kernel)
set_option maxRecDepth 20000 in
theorem gX1_grow_X0_letterOfRun : GoodIn wsX1_grow (wsV RX1 69 RX0 yX0_letterOfRun wsX0_letterOfRun) := goodIn_app (goodIn_of _ (by decide +kernel)) ggX1_grow_X0_letterOfRun
set_option maxRecDepth 20000 in
theorem ggX1_grow_X1_lengthTold : GoodIn wsX1_grow wsX1_lengthTold := goodIn_r _ [38, 1, 8, 9, 10, 5, 11, 7, 39, 40, 41, 15, 42, 43, 44, 45, 46, 47, 48, 18, 19, 20, 21, 22, 23, 24, 25, 26, 27, 12, 13, 14, 16, 17, 28, 29, 30, 31, 32, 33, 34, 70, 71, 72, 73, 74, 75, 76, 77, 78, 79] (by decide +kernel) (by decide +kernel)
set_option maxRecDepth 20000 in
theorem gX1_grow_X1_lengthTold : GoodIn wsX1_grow (wsV RX1 72 RX1 yX1_lengthTold wsX1_lengthTold) := goodIn_app (goodIn_of _ (by decide +kernel)) ggX1_grow_X1_lengthTold
set_option maxRecDepth 20000 in
theorem ggX1_grow_X2_putRun : GoodIn wsX1_grow wsX2_putRun := goodIn_r _ [52, 17, 43, 48, 53, 54, 55, 56, 57, 58, 15, 59, 60, 74, 75, 76, 77] (by decide +kernel) (by decide +kernel)
set_option maxRecDepth 20000 in
theorem gX1_grow_X2_putRun : GoodIn wsX1_grow (wsV RX1 76 RX2 yX2_putRun wsX2_putRun) := goodIn_app (goodIn_of _ (by decide +kernel)) ggX1_grow_X2_putRun
set_option maxRecDepth 20000 in
theorem ggX1_grow_X2_putRunsToldBy : GoodIn wsX1_grow wsX2_putRunsToldBy := goodIn_r _ [64, 43, 48, 65, 40, 41, 15, 42, 66, 13, 14, 16, 17, 67, 29, 30, 31, 32, 33, 34, 68, 45, 46, 47, 69, 50, 51, 52, 53, 54, 55, 56, 57, 58, 59, 60, 74, 75, 76, 77, 78, 79] (by decide +kernel) (by decide +kernel)
set_option maxRecDepth 20000 in
theorem gX1_grow_X2_putRunsToldBy : GoodIn wsX1_grow (wsV RX1 79 RX2 yX2_putRunsToldBy wsX2_putRunsToldBy) := goodIn_app (goodIn_of _ (by decide +kernel)) ggX1_grow_X2_putRunsToldBy
theorem dX1_grow_0 : decode cX1_grow 0 = .ok (.aload_n 0, 1) := by decide +kernel
theorem dX1_grow_1 : decode cX1_grow 1 = .ok (.iload_n 1, 1) := by decide +kernel
theorem dX1_grow_2 : decode cX1_grow 2 = .ok (.invokevirtual 59, 3) := by decide +kernel
theorem dX1_grow_5 : decode cX1_grow 5 = .ok (.istore_n 3, 1) := by decide +kernel
theorem dX1_grow_6 : decode cX1_grow 6 = .ok (.aload_n 0, 1) := by decide +kernel
theorem dX1_grow_7 : decode cX1_grow 7 = .ok (.iload_n 1, 1) := by decide +kernel
theorem dX1_grow_8 : decode cX1_grow 8 = .ok (.invokevirtual 39, 3) := by decide +kernel
theorem dX1_grow_11 : decode cX1_grow 11 = .ok (.ifCond .eq 11, 3) := by decide +kernel
theorem dX1_grow_14 : decode cX1_grow 14 = .ok (.aload_n 0, 1) := by decide +kernel
theorem dX1_grow_15 : decode cX1_grow 15 = .ok (.iload_n 3, 1) := by decide +kernel
theorem dX1_grow_16 : decode cX1_grow 16 = .ok (.invokevirtual 39, 3) := by decide +kernel
theorem dX1_grow_19 : decode cX1_grow 19 = .ok (.ifCond .ne 4, 3) := by decide +kernel
theorem dX1_grow_22 : decode cX1_grow 22 = .ok (.return_, 1) := by decide +kernel
theorem dX1_grow_23 : decode cX1_grow 23 = .ok (.aload_n 0, 1) := by decide +kernel
theorem dX1_grow_24 : decode cX1_grow 24 = .ok (.getfield 19, 3) := by decide +kernel
theorem dX1_grow_27 : decode cX1_grow 27 = .ok (.iload_n 1, 1) := by decide +kernel
theorem dX1_grow_28 : decode cX1_grow 28 = .ok (.aaload, 1) := by decide +kernel
theorem dX1_grow_29 : decode cX1_grow 29 = .ok (.astore 4, 2) := by decide +kernel
theorem dX1_grow_31 : decode cX1_grow 31 = .ok (.aload 4, 2) := by decide +kernel
theorem dX1_grow_33 : decode cX1_grow 33 = .ok (.invokevirtual 62, 3) := by decide +kernel
theorem dX1_grow_36 : decode cX1_grow 36 = .ok (.istore 5, 2) := by decide +kernel
theorem dX1_grow_38 : decode cX1_grow 38 = .ok (.aload 4, 2) := by decide +kernel
theorem dX1_grow_40 : decode cX1_grow 40 = .ok (.aload_n 0, 1) := by decide +kernel
theorem dX1_grow_41 : decode cX1_grow 41 = .ok (.iload_n 1, 1) := by decide +kernel
theorem dX1_grow_42 : decode cX1_grow 42 = .ok (.invokevirtual 65, 3) := by decide +kernel
theorem dX1_grow_45 : decode cX1_grow 45 = .ok (.iload 5, 2) := by decide +kernel
theorem dX1_grow_47 : decode cX1_grow 47 = .ok (.invokevirtual 69, 3) := by decide +kernel
theorem dX1_grow_50 : decode cX1_grow 50 = .ok (.aload_n 0, 1) := by decide +kernel
theorem dX1_grow_51 : decode cX1_grow 51 = .ok (.iload_n 3, 1) := by decide +kernel
theorem dX1_grow_52 : decode cX1_grow 52 = .ok (.iload 5, 2) := by decide +kernel
theorem dX1_grow_54 : decode cX1_grow 54 = .ok (.invokevirtual 72, 3) := by decide +kernel
theorem dX1_grow_57 : decode cX1_grow 57 = .ok (.invokevirtual 76, 3) := by decide +kernel
theorem dX1_grow_60 : decode cX1_grow 60 = .ok (.aload 4, 2) := by decide +kernel
theorem dX1_grow_62 : decode cX1_grow 62 = .ok (.aload_n 0, 1) := by decide +kernel
theorem dX1_grow_63 : decode cX1_grow 63 = .ok (.getfield 19, 3) := by decide +kernel
theorem dX1_grow_66 : decode cX1_grow 66 = .ok (.iload_n 3, 1) := by decide +kernel
theorem dX1_grow_67 : decode cX1_grow 67 = .ok (.aaload, 1) := by decide +kernel
theorem dX1_grow_68 : decode cX1_grow 68 = .ok (.aload_n 0, 1) := by decide +kernel
theorem dX1_grow_69 : decode cX1_grow 69 = .ok (.iload_n 1, 1) := by decide +kernel
theorem dX1_grow_70 : decode cX1_grow 70 = .ok (.invokevirtual 65, 3) := by decide +kernel
theorem dX1_grow_73 : decode cX1_grow 73 = .ok (.iload_n 2, 1) := by decide +kernel
theorem dX1_grow_74 : decode cX1_grow 74 = .ok (.invokevirtual 79, 3) := by decide +kernel
theorem dX1_grow_77 : decode cX1_grow 77 = .ok (.return_, 1) := by decide +kernel
set_option maxRecDepth 20000 in
theorem ggX1_lengthTold_X1_hasRow : GoodIn wsX1_lengthTold wsX1_hasRow := goodIn_r _ [6, 7, 1, 41, 42, 43, 44] (by decide +kernel) (by decide +kernel)
set_option maxRecDepth 20000 in
theorem gX1_lengthTold_X1_hasRow : GoodIn wsX1_lengthTold (wsV RX1 39 RX1 yX1_hasRow wsX1_hasRow) := goodIn_app (goodIn_of _ (by decide +kernel)) ggX1_lengthTold_X1_hasRow
set_option maxRecDepth 20000 in
theorem ggX1_lengthTold_X2_made : GoodIn wsX1_lengthTold wsX2_made := goodIn_r _ [12, 13, 45, 46, 47, 48] (by decide +kernel) (by decide +kernel)
set_option maxRecDepth 20000 in
theorem gX1_lengthTold_X2_made : GoodIn wsX1_lengthTold (wsV RX1 44 RX2 yX2_made wsX2_made) := goodIn_app (goodIn_of _ (by decide +kernel)) ggX1_lengthTold_X2_made
set_option maxRecDepth 20000 in
theorem ggX1_lengthTold_X2_number : GoodIn wsX1_lengthTold wsX2_number := goodIn_r _ [17, 13, 18, 45, 46, 47, 48] (by decide +kernel) (by decide +kernel)
set_option maxRecDepth 20000 in
theorem gX1_lengthTold_X2_number : GoodIn wsX1_lengthTold (wsV RX1 83 RX2 yX2_number wsX2_number) := goodIn_app (goodIn_of _ (by decide +kernel)) ggX1_lengthTold_X2_number
set_option maxRecDepth 20000 in
theorem ggX1_lengthTold_X1_lettersOf : GoodIn wsX1_lengthTold wsX1_lettersOf := goodIn_r _ [22, 23, 24, 2, 3, 4, 5, 6, 7, 1, 25, 26, 27, 28, 41, 42, 43, 44] (by decide +kernel) (by decide +kernel)
set_option maxRecDepth 20000 in
theorem gX1_lengthTold_X1_lettersOf : GoodIn wsX1_lengthTold (wsV RX1 65 RX1 yX1_lettersOf wsX1_lettersOf) := goodIn_app (goodIn_of _ (by decide +kernel)) ggX1_lengthTold_X1_lettersOf
set_option maxRecDepth 20000 in
theorem ggX1_lengthTold_X2_runsMade : GoodIn wsX1_lengthTold wsX2_runsMade := goodIn_r _ [32, 33, 45, 46, 47, 48] (by decide +kernel) (by decide +kernel)
set_option maxRecDepth 20000 in
theorem gX1_lengthTold_X2_runsMade : GoodIn wsX1_lengthTold (wsV RX1 62 RX2 yX2_runsMade wsX2_runsMade) := goodIn_app (goodIn_of _ (by decide +kernel)) ggX1_lengthTold_X2_runsMade
set_option maxRecDepth 20000 in
theorem ggX1_lengthTold_X0_letterOfRun : GoodIn wsX1_lengthTold wsX0_letterOfRun := goodIn_r _ [38, 39, 40, 49, 50] (by decide +kernel) (by decide +kernel)
set_option maxRecDepth 20000 in
theorem gX1_lengthTold_X0_letterOfRun : GoodIn wsX1_lengthTold (wsV RX1 69 RX0 yX0_letterOfRun wsX0_letterOfRun) := goodIn_app (goodIn_of _ (by decide +kernel)) ggX1_lengthTold_X0_letterOfRun
theorem dX1_lengthTold_0 : decode cX1_lengthTold 0 = .ok (.aload_n 0, 1) := by decide +kernel
theorem dX1_lengthTold_1 : decode cX1_lengthTold 1 = .ok (.getfield 19, 3) := by decide +kernel
theorem dX1_lengthTold_4 : decode cX1_lengthTold 4 = .ok (.aload_n 0, 1) := by decide +kernel
theorem dX1_lengthTold_5 : decode cX1_lengthTold 5 = .ok (.iload_n 1, 1) := by decide +kernel
theorem dX1_lengthTold_6 : decode cX1_lengthTold 6 = .ok (.invokevirtual 39, 3) := by decide +kernel
theorem dX1_lengthTold_9 : decode cX1_lengthTold 9 = .ok (.ifCond .eq 7, 3) := by decide +kernel
theorem dX1_lengthTold_12 : decode cX1_lengthTold 12 = .ok (.iload_n 1, 1) := by decide +kernel
theorem dX1_lengthTold_13 : decode cX1_lengthTold 13 = .ok (.goto 4, 3) := by decide +kernel
theorem dX1_lengthTold_16 : decode cX1_lengthTold 16 = .ok (.iconst 0, 1) := by decide +kernel
theorem dX1_lengthTold_17 : decode cX1_lengthTold 17 = .ok (.aaload, 1) := by decide +kernel
theorem dX1_lengthTold_18 : decode cX1_lengthTold 18 = .ok (.astore_n 3, 1) := by decide +kernel
theorem dX1_lengthTold_19 : decode cX1_lengthTold 19 = .ok (.iload_n 2, 1) := by decide +kernel
theorem dX1_lengthTold_20 : decode cX1_lengthTold 20 = .ok (.aload_n 3, 1) := by decide +kernel
theorem dX1_lengthTold_21 : decode cX1_lengthTold 21 = .ok (.invokevirtual 44, 3) := by decide +kernel
theorem dX1_lengthTold_24 : decode cX1_lengthTold 24 = .ok (.if_icmp .ge 11, 3) := by decide +kernel
theorem dX1_lengthTold_27 : decode cX1_lengthTold 27 = .ok (.aload_n 3, 1) := by decide +kernel
theorem dX1_lengthTold_28 : decode cX1_lengthTold 28 = .ok (.iload_n 2, 1) := by decide +kernel
theorem dX1_lengthTold_29 : decode cX1_lengthTold 29 = .ok (.invokevirtual 83, 3) := by decide +kernel
theorem dX1_lengthTold_32 : decode cX1_lengthTold 32 = .ok (.goto 15, 3) := by decide +kernel
theorem dX1_lengthTold_35 : decode cX1_lengthTold 35 = .ok (.aload_n 0, 1) := by decide +kernel
theorem dX1_lengthTold_36 : decode cX1_lengthTold 36 = .ok (.iload_n 1, 1) := by decide +kernel
theorem dX1_lengthTold_37 : decode cX1_lengthTold 37 = .ok (.invokevirtual 65, 3) := by decide +kernel
theorem dX1_lengthTold_40 : decode cX1_lengthTold 40 = .ok (.aload_n 3, 1) := by decide +kernel
theorem dX1_lengthTold_41 : decode cX1_lengthTold 41 = .ok (.invokevirtual 62, 3) := by decide +kernel
theorem dX1_lengthTold_44 : decode cX1_lengthTold 44 = .ok (.invokevirtual 69, 3) := by decide +kernel
theorem dX1_lengthTold_47 : decode cX1_lengthTold 47 = .ok (.ireturn, 1) := by decide +kernel
set_option maxRecDepth 20000 in
theorem ggX1_lettersOf_X1_hasRow : GoodIn wsX1_lettersOf wsX1_hasRow := goodIn_r _ [7, 8, 9, 14, 15, 16, 17] (by decide +kernel) (by decide +kernel)
set_option maxRecDepth 20000 in
theorem gX1_lettersOf_X1_hasRow : GoodIn wsX1_lettersOf (wsV RX1 39 RX1 yX1_hasRow wsX1_hasRow) := goodIn_app (goodIn_of _ (by decide +kernel)) ggX1_lettersOf_X1_hasRow
set_option maxRecDepth 20000 in
theorem ggX1_lettersOf_X1_hasAlphabet : GoodIn wsX1_lettersOf wsX1_hasAlphabet := goodIn_r _ [13, 2, 14, 15, 16, 17] (by decide +kernel) (by decide +kernel)
set_option maxRecDepth 20000 in
theorem gX1_lettersOf_X1_hasAlphabet : GoodIn wsX1_lettersOf (wsV RX1 86 RX1 yX1_hasAlphabet wsX1_hasAlphabet) := goodIn_app (goodIn_of _ (by decide +kernel)) ggX1_lettersOf_X1_hasAlphabet
theorem dX1_lettersOf_0 : decode cX1_lettersOf 0 = .ok (.aload_n 0, 1) := by decide +kernel
theorem dX1_lettersOf_1 : decode cX1_lettersOf 1 = .ok (.iload_n 1, 1) := by decide +kernel
theorem dX1_lettersOf_2 : decode cX1_lettersOf 2 = .ok (.invokevirtual 39, 3) := by decide +kernel
theorem dX1_lettersOf_5 : decode cX1_lettersOf 5 = .ok (.ifCond .eq 12, 3) := by decide +kernel
theorem dX1_lettersOf_8 : decode cX1_lettersOf 8 = .ok (.aload_n 0, 1) := by decide +kernel
theorem dX1_lettersOf_9 : decode cX1_lettersOf 9 = .ok (.getfield 23, 3) := by decide +kernel
theorem dX1_lettersOf_12 : decode cX1_lettersOf 12 = .ok (.iload_n 1, 1) := by decide +kernel
theorem dX1_lettersOf_13 : decode cX1_lettersOf 13 = .ok (.iaload, 1) := by decide +kernel
theorem dX1_lettersOf_14 : decode cX1_lettersOf 14 = .ok (.goto 4, 3) := by decide +kernel
theorem dX1_lettersOf_17 : decode cX1_lettersOf 17 = .ok (.iconst 0, 1) := by decide +kernel
theorem dX1_lettersOf_18 : decode cX1_lettersOf 18 = .ok (.istore_n 2, 1) := by decide +kernel
theorem dX1_lettersOf_19 : decode cX1_lettersOf 19 = .ok (.aload_n 0, 1) := by decide +kernel
theorem dX1_lettersOf_20 : decode cX1_lettersOf 20 = .ok (.getfield 11, 3) := by decide +kernel
theorem dX1_lettersOf_23 : decode cX1_lettersOf 23 = .ok (.aload_n 0, 1) := by decide +kernel
theorem dX1_lettersOf_24 : decode cX1_lettersOf 24 = .ok (.iload_n 2, 1) := by decide +kernel
theorem dX1_lettersOf_25 : decode cX1_lettersOf 25 = .ok (.invokevirtual 86, 3) := by decide +kernel
theorem dX1_lettersOf_28 : decode cX1_lettersOf 28 = .ok (.ifCond .eq 7, 3) := by decide +kernel
theorem dX1_lettersOf_31 : decode cX1_lettersOf 31 = .ok (.iload_n 2, 1) := by decide +kernel
theorem dX1_lettersOf_32 : decode cX1_lettersOf 32 = .ok (.goto 4, 3) := by decide +kernel
theorem dX1_lettersOf_35 : decode cX1_lettersOf 35 = .ok (.iconst 0, 1) := by decide +kernel
theorem dX1_lettersOf_36 : decode cX1_lettersOf 36 = .ok (.aaload, 1) := by decide +kernel
theorem dX1_lettersOf_37 : decode cX1_lettersOf 37 = .ok (.areturn, 1) := by decide +kernel
set_option maxRecDepth 20000 in
theorem ggX1_mixInto_X0_mixInto : GoodIn wsX1_mixInto wsX0_mixInto := goodIn_r _ [9, 10, 11, 12, 13, 14, 8, 15, 16, 21, 22] (by decide +kernel) (by decide +kernel)
set_option maxRecDepth 20000 in
theorem gX1_mixInto_X0_mixInto : GoodIn wsX1_mixInto (wsV RX1 89 RX0 yX0_mixInto wsX0_mixInto) := goodIn_app (goodIn_of _ (by decide +kernel)) ggX1_mixInto_X0_mixInto
theorem dX1_mixInto_0 : decode cX1_mixInto 0 = .ok (.lload_n 1, 1) := by decide +kernel
theorem dX1_mixInto_1 : decode cX1_mixInto 1 = .ok (.lstore_n 3, 1) := by decide +kernel
theorem dX1_mixInto_2 : decode cX1_mixInto 2 = .ok (.iconst 0, 1) := by decide +kernel
theorem dX1_mixInto_3 : decode cX1_mixInto 3 = .ok (.istore 5, 2) := by decide +kernel
theorem dX1_mixInto_5 : decode cX1_mixInto 5 = .ok (.iload 5, 2) := by decide +kernel
theorem dX1_mixInto_7 : decode cX1_mixInto 7 = .ok (.aload_n 0, 1) := by decide +kernel
theorem dX1_mixInto_8 : decode cX1_mixInto 8 = .ok (.getfield 11, 3) := by decide +kernel
theorem dX1_mixInto_11 : decode cX1_mixInto 11 = .ok (.arraylength, 1) := by decide +kernel
theorem dX1_mixInto_12 : decode cX1_mixInto 12 = .ok (.if_icmp .ge 21, 3) := by decide +kernel
theorem dX1_mixInto_15 : decode cX1_mixInto 15 = .ok (.aload_n 0, 1) := by decide +kernel
theorem dX1_mixInto_16 : decode cX1_mixInto 16 = .ok (.getfield 11, 3) := by decide +kernel
theorem dX1_mixInto_19 : decode cX1_mixInto 19 = .ok (.iload 5, 2) := by decide +kernel
theorem dX1_mixInto_21 : decode cX1_mixInto 21 = .ok (.aaload, 1) := by decide +kernel
theorem dX1_mixInto_22 : decode cX1_mixInto 22 = .ok (.lload_n 3, 1) := by decide +kernel
theorem dX1_mixInto_23 : decode cX1_mixInto 23 = .ok (.invokevirtual 89, 3) := by decide +kernel
theorem dX1_mixInto_26 : decode cX1_mixInto 26 = .ok (.lstore_n 3, 1) := by decide +kernel
theorem dX1_mixInto_27 : decode cX1_mixInto 27 = .ok (.iinc 5 1, 3) := by decide +kernel
theorem dX1_mixInto_30 : decode cX1_mixInto 30 = .ok (.goto (-25), 3) := by decide +kernel
theorem dX1_mixInto_33 : decode cX1_mixInto 33 = .ok (.iconst 0, 1) := by decide +kernel
theorem dX1_mixInto_34 : decode cX1_mixInto 34 = .ok (.istore 5, 2) := by decide +kernel
theorem dX1_mixInto_36 : decode cX1_mixInto 36 = .ok (.iload 5, 2) := by decide +kernel
theorem dX1_mixInto_38 : decode cX1_mixInto 38 = .ok (.aload_n 0, 1) := by decide +kernel
theorem dX1_mixInto_39 : decode cX1_mixInto 39 = .ok (.getfield 27, 3) := by decide +kernel
theorem dX1_mixInto_42 : decode cX1_mixInto 42 = .ok (.if_icmp .ge 34, 3) := by decide +kernel
theorem dX1_mixInto_45 : decode cX1_mixInto 45 = .ok (.iload 5, 2) := by decide +kernel
theorem dX1_mixInto_47 : decode cX1_mixInto 47 = .ok (.aload_n 0, 1) := by decide +kernel
theorem dX1_mixInto_48 : decode cX1_mixInto 48 = .ok (.getfield 23, 3) := by decide +kernel
theorem dX1_mixInto_51 : decode cX1_mixInto 51 = .ok (.arraylength, 1) := by decide +kernel
theorem dX1_mixInto_52 : decode cX1_mixInto 52 = .ok (.if_icmp .ge 24, 3) := by decide +kernel
theorem dX1_mixInto_55 : decode cX1_mixInto 55 = .ok (.ldc2_w 93, 3) := by decide +kernel
theorem dX1_mixInto_58 : decode cX1_mixInto 58 = .ok (.lload_n 3, 1) := by decide +kernel
theorem dX1_mixInto_59 : decode cX1_mixInto 59 = .ok (.lmul, 1) := by decide +kernel
theorem dX1_mixInto_60 : decode cX1_mixInto 60 = .ok (.aload_n 0, 1) := by decide +kernel
theorem dX1_mixInto_61 : decode cX1_mixInto 61 = .ok (.getfield 23, 3) := by decide +kernel
theorem dX1_mixInto_64 : decode cX1_mixInto 64 = .ok (.iload 5, 2) := by decide +kernel
theorem dX1_mixInto_66 : decode cX1_mixInto 66 = .ok (.iaload, 1) := by decide +kernel
theorem dX1_mixInto_67 : decode cX1_mixInto 67 = .ok (.i2l, 1) := by decide +kernel
theorem dX1_mixInto_68 : decode cX1_mixInto 68 = .ok (.ladd, 1) := by decide +kernel
theorem dX1_mixInto_69 : decode cX1_mixInto 69 = .ok (.lstore_n 3, 1) := by decide +kernel
theorem dX1_mixInto_70 : decode cX1_mixInto 70 = .ok (.iinc 5 1, 3) := by decide +kernel
theorem dX1_mixInto_73 : decode cX1_mixInto 73 = .ok (.goto (-37), 3) := by decide +kernel
theorem dX1_mixInto_76 : decode cX1_mixInto 76 = .ok (.lload_n 3, 1) := by decide +kernel
theorem dX1_mixInto_77 : decode cX1_mixInto 77 = .ok (.lreturn, 1) := by decide +kernel
theorem dX2_init_0 : decode cX2_init 0 = .ok (.aload_n 0, 1) := by decide +kernel
theorem dX2_init_1 : decode cX2_init 1 = .ok (.invokespecial 3, 3) := by decide +kernel
theorem dX2_init_4 : decode cX2_init 4 = .ok (.aload_n 0, 1) := by decide +kernel
theorem dX2_init_5 : decode cX2_init 5 = .ok (.ldc 9, 2) := by decide +kernel
theorem dX2_init_7 : decode cX2_init 7 = .ok (.newarray .byte, 2) := by decide +kernel
theorem dX2_init_9 : decode cX2_init 9 = .ok (.putfield 10, 3) := by decide +kernel
theorem dX2_init_12 : decode cX2_init 12 = .ok (.aload_n 0, 1) := by decide +kernel
theorem dX2_init_13 : decode cX2_init 13 = .ok (.sipush 2737, 3) := by decide +kernel
theorem dX2_init_16 : decode cX2_init 16 = .ok (.newarray .int, 2) := by decide +kernel
theorem dX2_init_18 : decode cX2_init 18 = .ok (.putfield 16, 3) := by decide +kernel
theorem dX2_init_21 : decode cX2_init 21 = .ok (.aload_n 0, 1) := by decide +kernel
theorem dX2_init_22 : decode cX2_init 22 = .ok (.bipush 7, 2) := by decide +kernel
theorem dX2_init_24 : decode cX2_init 24 = .ok (.newarray .int, 2) := by decide +kernel
theorem dX2_init_26 : decode cX2_init 26 = .ok (.putfield 20, 3) := by decide +kernel
theorem dX2_init_29 : decode cX2_init 29 = .ok (.aload_n 0, 1) := by decide +kernel
theorem dX2_init_30 : decode cX2_init 30 = .ok (.iconst 0, 1) := by decide +kernel
theorem dX2_init_31 : decode cX2_init 31 = .ok (.putfield 23, 3) := by decide +kernel
theorem dX2_init_34 : decode cX2_init 34 = .ok (.return_, 1) := by decide +kernel
theorem dX2_made_0 : decode cX2_made 0 = .ok (.aload_n 0, 1) := by decide +kernel
theorem dX2_made_1 : decode cX2_made 1 = .ok (.getfield 23, 3) := by decide +kernel
theorem dX2_made_4 : decode cX2_made 4 = .ok (.ireturn, 1) := by decide +kernel
theorem dX2_runsMade_0 : decode cX2_runsMade 0 = .ok (.aload_n 0, 1) := by decide +kernel
theorem dX2_runsMade_1 : decode cX2_runsMade 1 = .ok (.getfield 20, 3) := by decide +kernel
theorem dX2_runsMade_4 : decode cX2_runsMade 4 = .ok (.iconst 0, 1) := by decide +kernel
theorem dX2_runsMade_5 : decode cX2_runsMade 5 = .ok (.iaload, 1) := by decide +kernel
theorem dX2_runsMade_6 : decode cX2_runsMade 6 = .ok (.ireturn, 1) := by decide +kernel
theorem dX2_number_0 : decode cX2_number 0 = .ok (.iload_n 1, 1) := by decide +kernel
theorem dX2_number_1 : decode cX2_number 1 = .ok (.ifCond .lt 29, 3) := by decide +kernel
theorem dX2_number_4 : decode cX2_number 4 = .ok (.iload_n 1, 1) := by decide +kernel
theorem dX2_number_5 : decode cX2_number 5 = .ok (.aload_n 0, 1) := by decide +kernel
theorem dX2_number_6 : decode cX2_number 6 = .ok (.getfield 23, 3) := by decide +kernel
theorem dX2_number_9 : decode cX2_number 9 = .ok (.if_icmp .ge 21, 3) := by decide +kernel
theorem dX2_number_12 : decode cX2_number 12 = .ok (.iload_n 1, 1) := by decide +kernel
theorem dX2_number_13 : decode cX2_number 13 = .ok (.aload_n 0, 1) := by decide +kernel
theorem dX2_number_14 : decode cX2_number 14 = .ok (.getfield 10, 3) := by decide +kernel
theorem dX2_number_17 : decode cX2_number 17 = .ok (.arraylength, 1) := by decide +kernel
theorem dX2_number_18 : decode cX2_number 18 = .ok (.if_icmp .ge 12, 3) := by decide +kernel
theorem dX2_number_21 : decode cX2_number 21 = .ok (.aload_n 0, 1) := by decide +kernel
theorem dX2_number_22 : decode cX2_number 22 = .ok (.getfield 10, 3) := by decide +kernel
theorem dX2_number_25 : decode cX2_number 25 = .ok (.iload_n 1, 1) := by decide +kernel
theorem dX2_number_26 : decode cX2_number 26 = .ok (.baload, 1) := by decide +kernel
theorem dX2_number_27 : decode cX2_number 27 = .ok (.goto 4, 3) := by decide +kernel
theorem dX2_number_30 : decode cX2_number 30 = .ok (.iconst (-1), 1) := by decide +kernel
theorem dX2_number_31 : decode cX2_number 31 = .ok (.ireturn, 1) := by decide +kernel
theorem dX2_forget_0 : decode cX2_forget 0 = .ok (.aload_n 0, 1) := by decide +kernel
theorem dX2_forget_1 : decode cX2_forget 1 = .ok (.iconst 0, 1) := by decide +kernel
theorem dX2_forget_2 : decode cX2_forget 2 = .ok (.putfield 23, 3) := by decide +kernel
theorem dX2_forget_5 : decode cX2_forget 5 = .ok (.iconst 0, 1) := by decide +kernel
theorem dX2_forget_6 : decode cX2_forget 6 = .ok (.istore_n 1, 1) := by decide +kernel
theorem dX2_forget_7 : decode cX2_forget 7 = .ok (.iload_n 1, 1) := by decide +kernel
theorem dX2_forget_8 : decode cX2_forget 8 = .ok (.aload_n 0, 1) := by decide +kernel
theorem dX2_forget_9 : decode cX2_forget 9 = .ok (.getfield 20, 3) := by decide +kernel
theorem dX2_forget_12 : decode cX2_forget 12 = .ok (.arraylength, 1) := by decide +kernel
theorem dX2_forget_13 : decode cX2_forget 13 = .ok (.if_icmp .ge 16, 3) := by decide +kernel
theorem dX2_forget_16 : decode cX2_forget 16 = .ok (.aload_n 0, 1) := by decide +kernel
theorem dX2_forget_17 : decode cX2_forget 17 = .ok (.getfield 20, 3) := by decide +kernel
theorem dX2_forget_20 : decode cX2_forget 20 = .ok (.iload_n 1, 1) := by decide +kernel
theorem dX2_forget_21 : decode cX2_forget 21 = .ok (.iconst 0, 1) := by decide +kernel
theorem dX2_forget_22 : decode cX2_forget 22 = .ok (.iastore, 1) := by decide +kernel
theorem dX2_forget_23 : decode cX2_forget 23 = .ok (.iinc 1 1, 3) := by decide +kernel
theorem dX2_forget_26 : decode cX2_forget 26 = .ok (.goto (-19), 3) := by decide +kernel
theorem dX2_forget_29 : decode cX2_forget 29 = .ok (.return_, 1) := by decide +kernel
set_option maxRecDepth 20000 in
theorem ggX2_putRun_X5_isLetter : GoodIn wsX2_putRun wsX5_isLetter := goodIn_r _ [6] (by decide +kernel) (by decide +kernel)
set_option maxRecDepth 20000 in
theorem gX2_putRun_X5_isLetter_n27 : GoodIn wsX2_putRun (wsX5_isLetter) := ggX2_putRun_X5_isLetter
set_option maxRecDepth 20000 in
theorem ggX2_putRun_X2_keepCounts : GoodIn wsX2_putRun wsX2_keepCounts := goodIn_r _ [11, 2, 12, 1, 13, 14, 15, 16] (by decide +kernel) (by decide +kernel)
set_option maxRecDepth 20000 in
theorem gX2_putRun_X2_keepCounts : GoodIn wsX2_putRun (wsV RX2 31 RX2 yX2_keepCounts wsX2_keepCounts) := goodIn_app (goodIn_of _ (by decide +kernel)) ggX2_putRun_X2_keepCounts
theorem dX2_putRun_0 : decode cX2_putRun 0 = .ok (.iload_n 1, 1) := by decide +kernel
theorem dX2_putRun_1 : decode cX2_putRun 1 = .ok (.invokestatic 27, 3) := by decide +kernel
theorem dX2_putRun_4 : decode cX2_putRun 4 = .ok (.ifCond .eq 24, 3) := by decide +kernel
theorem dX2_putRun_7 : decode cX2_putRun 7 = .ok (.iload_n 1, 1) := by decide +kernel
theorem dX2_putRun_8 : decode cX2_putRun 8 = .ok (.aload_n 0, 1) := by decide +kernel
theorem dX2_putRun_9 : decode cX2_putRun 9 = .ok (.getfield 20, 3) := by decide +kernel
theorem dX2_putRun_12 : decode cX2_putRun 12 = .ok (.arraylength, 1) := by decide +kernel
theorem dX2_putRun_13 : decode cX2_putRun 13 = .ok (.if_icmp .ge 15, 3) := by decide +kernel
theorem dX2_putRun_16 : decode cX2_putRun 16 = .ok (.aload_n 0, 1) := by decide +kernel
theorem dX2_putRun_17 : decode cX2_putRun 17 = .ok (.getfield 23, 3) := by decide +kernel
theorem dX2_putRun_20 : decode cX2_putRun 20 = .ok (.aload_n 0, 1) := by decide +kernel
theorem dX2_putRun_21 : decode cX2_putRun 21 = .ok (.getfield 10, 3) := by decide +kernel
theorem dX2_putRun_24 : decode cX2_putRun 24 = .ok (.arraylength, 1) := by decide +kernel
theorem dX2_putRun_25 : decode cX2_putRun 25 = .ok (.if_icmp .lt 4, 3) := by decide +kernel
theorem dX2_putRun_28 : decode cX2_putRun 28 = .ok (.return_, 1) := by decide +kernel
theorem dX2_putRun_29 : decode cX2_putRun 29 = .ok (.aload_n 0, 1) := by decide +kernel
theorem dX2_putRun_30 : decode cX2_putRun 30 = .ok (.getfield 20, 3) := by decide +kernel
theorem dX2_putRun_33 : decode cX2_putRun 33 = .ok (.iconst 0, 1) := by decide +kernel
theorem dX2_putRun_34 : decode cX2_putRun 34 = .ok (.dup2, 1) := by decide +kernel
theorem dX2_putRun_35 : decode cX2_putRun 35 = .ok (.iaload, 1) := by decide +kernel
theorem dX2_putRun_36 : decode cX2_putRun 36 = .ok (.iconst 1, 1) := by decide +kernel
theorem dX2_putRun_37 : decode cX2_putRun 37 = .ok (.iadd, 1) := by decide +kernel
theorem dX2_putRun_38 : decode cX2_putRun 38 = .ok (.iastore, 1) := by decide +kernel
theorem dX2_putRun_39 : decode cX2_putRun 39 = .ok (.iconst 0, 1) := by decide +kernel
theorem dX2_putRun_40 : decode cX2_putRun 40 = .ok (.istore_n 3, 1) := by decide +kernel
theorem dX2_putRun_41 : decode cX2_putRun 41 = .ok (.iload_n 3, 1) := by decide +kernel
theorem dX2_putRun_42 : decode cX2_putRun 42 = .ok (.iload_n 2, 1) := by decide +kernel
theorem dX2_putRun_43 : decode cX2_putRun 43 = .ok (.if_icmp .ge 67, 3) := by decide +kernel
theorem dX2_putRun_46 : decode cX2_putRun 46 = .ok (.aload_n 0, 1) := by decide +kernel
theorem dX2_putRun_47 : decode cX2_putRun 47 = .ok (.getfield 23, 3) := by decide +kernel
theorem dX2_putRun_50 : decode cX2_putRun 50 = .ok (.aload_n 0, 1) := by decide +kernel
theorem dX2_putRun_51 : decode cX2_putRun 51 = .ok (.getfield 10, 3) := by decide +kernel
theorem dX2_putRun_54 : decode cX2_putRun 54 = .ok (.arraylength, 1) := by decide +kernel
theorem dX2_putRun_55 : decode cX2_putRun 55 = .ok (.if_icmp .ge 55, 3) := by decide +kernel
theorem dX2_putRun_58 : decode cX2_putRun 58 = .ok (.aload_n 0, 1) := by decide +kernel
theorem dX2_putRun_59 : decode cX2_putRun 59 = .ok (.getfield 10, 3) := by decide +kernel
theorem dX2_putRun_62 : decode cX2_putRun 62 = .ok (.aload_n 0, 1) := by decide +kernel
theorem dX2_putRun_63 : decode cX2_putRun 63 = .ok (.getfield 23, 3) := by decide +kernel
theorem dX2_putRun_66 : decode cX2_putRun 66 = .ok (.iload_n 1, 1) := by decide +kernel
theorem dX2_putRun_67 : decode cX2_putRun 67 = .ok (.i2b, 1) := by decide +kernel
theorem dX2_putRun_68 : decode cX2_putRun 68 = .ok (.bastore, 1) := by decide +kernel
theorem dX2_putRun_69 : decode cX2_putRun 69 = .ok (.aload_n 0, 1) := by decide +kernel
theorem dX2_putRun_70 : decode cX2_putRun 70 = .ok (.getfield 20, 3) := by decide +kernel
theorem dX2_putRun_73 : decode cX2_putRun 73 = .ok (.iload_n 1, 1) := by decide +kernel
theorem dX2_putRun_74 : decode cX2_putRun 74 = .ok (.dup2, 1) := by decide +kernel
theorem dX2_putRun_75 : decode cX2_putRun 75 = .ok (.iaload, 1) := by decide +kernel
theorem dX2_putRun_76 : decode cX2_putRun 76 = .ok (.iconst 1, 1) := by decide +kernel
theorem dX2_putRun_77 : decode cX2_putRun 77 = .ok (.iadd, 1) := by decide +kernel
theorem dX2_putRun_78 : decode cX2_putRun 78 = .ok (.iastore, 1) := by decide +kernel
theorem dX2_putRun_79 : decode cX2_putRun 79 = .ok (.aload_n 0, 1) := by decide +kernel
theorem dX2_putRun_80 : decode cX2_putRun 80 = .ok (.dup, 1) := by decide +kernel
theorem dX2_putRun_81 : decode cX2_putRun 81 = .ok (.getfield 23, 3) := by decide +kernel
theorem dX2_putRun_84 : decode cX2_putRun 84 = .ok (.iconst 1, 1) := by decide +kernel
theorem dX2_putRun_85 : decode cX2_putRun 85 = .ok (.iadd, 1) := by decide +kernel
theorem dX2_putRun_86 : decode cX2_putRun 86 = .ok (.putfield 23, 3) := by decide +kernel
theorem dX2_putRun_89 : decode cX2_putRun 89 = .ok (.aload_n 0, 1) := by decide +kernel
theorem dX2_putRun_90 : decode cX2_putRun 90 = .ok (.getfield 23, 3) := by decide +kernel
theorem dX2_putRun_93 : decode cX2_putRun 93 = .ok (.sipush 256, 3) := by decide +kernel
theorem dX2_putRun_96 : decode cX2_putRun 96 = .ok (.irem, 1) := by decide +kernel
theorem dX2_putRun_97 : decode cX2_putRun 97 = .ok (.ifCond .ne 7, 3) := by decide +kernel
theorem dX2_putRun_100 : decode cX2_putRun 100 = .ok (.aload_n 0, 1) := by decide +kernel
theorem dX2_putRun_101 : decode cX2_putRun 101 = .ok (.invokevirtual 31, 3) := by decide +kernel
theorem dX2_putRun_104 : decode cX2_putRun 104 = .ok (.iinc 3 1, 3) := by decide +kernel
theorem dX2_putRun_107 : decode cX2_putRun 107 = .ok (.goto (-66), 3) := by decide +kernel
theorem dX2_putRun_110 : decode cX2_putRun 110 = .ok (.return_, 1) := by decide +kernel
set_option maxRecDepth 20000 in
theorem ggX2_putRunsToldBy_X2_made : GoodIn wsX2_putRunsToldBy wsX2_made := goodIn_r _ [7, 1, 36, 37, 38, 39] (by decide +kernel) (by decide +kernel)
set_option maxRecDepth 20000 in
theorem gX2_putRunsToldBy_X2_made : GoodIn wsX2_putRunsToldBy (wsV RX2 34 RX2 yX2_made wsX2_made) := goodIn_app (goodIn_of _ (by decide +kernel)) ggX2_putRunsToldBy_X2_made
set_option maxRecDepth 20000 in
theorem ggX2_putRunsToldBy_X2_runsMade : GoodIn wsX2_putRunsToldBy wsX2_runsMade := goodIn_r _ [11, 12, 36, 37, 38, 39] (by decide +kernel) (by decide +kernel)
set_option maxRecDepth 20000 in
theorem gX2_putRunsToldBy_X2_runsMade : GoodIn wsX2_putRunsToldBy (wsV RX2 37 RX2 yX2_runsMade wsX2_runsMade) := goodIn_app (goodIn_of _ (by decide +kernel)) ggX2_putRunsToldBy_X2_runsMade
set_option maxRecDepth 20000 in
theorem ggX2_putRunsToldBy_X0_letterOfRun : GoodIn wsX2_putRunsToldBy wsX0_letterOfRun := goodIn_r _ [17, 18, 19, 40, 41] (by decide +kernel) (by decide +kernel)
set_option maxRecDepth 20000 in
theorem gX2_putRunsToldBy_X0_letterOfRun : GoodIn wsX2_putRunsToldBy (wsV RX2 40 RX0 yX0_letterOfRun wsX0_letterOfRun) := goodIn_app (goodIn_of _ (by decide +kernel)) ggX2_putRunsToldBy_X0_letterOfRun
set_option maxRecDepth 20000 in
theorem ggX2_putRunsToldBy_X2_number : GoodIn wsX2_putRunsToldBy wsX2_number := goodIn_r _ [23, 1, 2, 36, 37, 38, 39] (by decide +kernel) (by decide +kernel)
set_option maxRecDepth 20000 in
theorem gX2_putRunsToldBy_X2_number : GoodIn wsX2_putRunsToldBy (wsV RX2 46 RX2 yX2_number wsX2_number) := goodIn_app (goodIn_of _ (by decide +kernel)) ggX2_putRunsToldBy_X2_number
set_option maxRecDepth 20000 in
theorem ggX2_putRunsToldBy_X2_putRun : GoodIn wsX2_putRunsToldBy wsX2_putRun := goodIn_r _ [27, 12, 1, 2, 28, 29, 30, 31, 32, 33, 6, 34, 35, 36, 37, 38, 39] (by decide +kernel) (by decide +kernel)
set_option maxRecDepth 20000 in
theorem gX2_putRunsToldBy_X2_putRun : GoodIn wsX2_putRunsToldBy (wsV RX2 49 RX2 yX2_putRun wsX2_putRun) := goodIn_app (goodIn_of _ (by decide +kernel)) ggX2_putRunsToldBy_X2_putRun
theorem dX2_putRunsToldBy_0 : decode cX2_putRunsToldBy 0 = .ok (.aload_n 1, 1) := by decide +kernel
theorem dX2_putRunsToldBy_1 : decode cX2_putRunsToldBy 1 = .ok (.invokevirtual 34, 3) := by decide +kernel
theorem dX2_putRunsToldBy_4 : decode cX2_putRunsToldBy 4 = .ok (.istore 4, 2) := by decide +kernel
theorem dX2_putRunsToldBy_6 : decode cX2_putRunsToldBy 6 = .ok (.aload_n 0, 1) := by decide +kernel
theorem dX2_putRunsToldBy_7 : decode cX2_putRunsToldBy 7 = .ok (.invokevirtual 37, 3) := by decide +kernel
theorem dX2_putRunsToldBy_10 : decode cX2_putRunsToldBy 10 = .ok (.istore 5, 2) := by decide +kernel
theorem dX2_putRunsToldBy_12 : decode cX2_putRunsToldBy 12 = .ok (.iload 5, 2) := by decide +kernel
theorem dX2_putRunsToldBy_14 : decode cX2_putRunsToldBy 14 = .ok (.iload 4, 2) := by decide +kernel
theorem dX2_putRunsToldBy_16 : decode cX2_putRunsToldBy 16 = .ok (.if_icmp .ge 45, 3) := by decide +kernel
theorem dX2_putRunsToldBy_19 : decode cX2_putRunsToldBy 19 = .ok (.aload_n 0, 1) := by decide +kernel
theorem dX2_putRunsToldBy_20 : decode cX2_putRunsToldBy 20 = .ok (.getfield 23, 3) := by decide +kernel
theorem dX2_putRunsToldBy_23 : decode cX2_putRunsToldBy 23 = .ok (.iload_n 3, 1) := by decide +kernel
theorem dX2_putRunsToldBy_24 : decode cX2_putRunsToldBy 24 = .ok (.if_icmp .ge 37, 3) := by decide +kernel
theorem dX2_putRunsToldBy_27 : decode cX2_putRunsToldBy 27 = .ok (.aload_n 0, 1) := by decide +kernel
theorem dX2_putRunsToldBy_28 : decode cX2_putRunsToldBy 28 = .ok (.getfield 23, 3) := by decide +kernel
theorem dX2_putRunsToldBy_31 : decode cX2_putRunsToldBy 31 = .ok (.aload_n 0, 1) := by decide +kernel
theorem dX2_putRunsToldBy_32 : decode cX2_putRunsToldBy 32 = .ok (.getfield 10, 3) := by decide +kernel
theorem dX2_putRunsToldBy_35 : decode cX2_putRunsToldBy 35 = .ok (.arraylength, 1) := by decide +kernel
theorem dX2_putRunsToldBy_36 : decode cX2_putRunsToldBy 36 = .ok (.if_icmp .ge 25, 3) := by decide +kernel
theorem dX2_putRunsToldBy_39 : decode cX2_putRunsToldBy 39 = .ok (.aload_n 0, 1) := by decide +kernel
theorem dX2_putRunsToldBy_40 : decode cX2_putRunsToldBy 40 = .ok (.aload_n 2, 1) := by decide +kernel
theorem dX2_putRunsToldBy_41 : decode cX2_putRunsToldBy 41 = .ok (.iload 5, 2) := by decide +kernel
theorem dX2_putRunsToldBy_43 : decode cX2_putRunsToldBy 43 = .ok (.invokevirtual 40, 3) := by decide +kernel
theorem dX2_putRunsToldBy_46 : decode cX2_putRunsToldBy 46 = .ok (.aload_n 1, 1) := by decide +kernel
theorem dX2_putRunsToldBy_47 : decode cX2_putRunsToldBy 47 = .ok (.iload 5, 2) := by decide +kernel
theorem dX2_putRunsToldBy_49 : decode cX2_putRunsToldBy 49 = .ok (.invokevirtual 46, 3) := by decide +kernel
theorem dX2_putRunsToldBy_52 : decode cX2_putRunsToldBy 52 = .ok (.invokevirtual 49, 3) := by decide +kernel
theorem dX2_putRunsToldBy_55 : decode cX2_putRunsToldBy 55 = .ok (.iinc 5 1, 3) := by decide +kernel
theorem dX2_putRunsToldBy_58 : decode cX2_putRunsToldBy 58 = .ok (.goto (-46), 3) := by decide +kernel
theorem dX2_putRunsToldBy_61 : decode cX2_putRunsToldBy 61 = .ok (.return_, 1) := by decide +kernel
theorem dX2_keepCounts_0 : decode cX2_keepCounts 0 = .ok (.aload_n 0, 1) := by decide +kernel
theorem dX2_keepCounts_1 : decode cX2_keepCounts 1 = .ok (.getfield 23, 3) := by decide +kernel
theorem dX2_keepCounts_4 : decode cX2_keepCounts 4 = .ok (.sipush 256, 3) := by decide +kernel
theorem dX2_keepCounts_7 : decode cX2_keepCounts 7 = .ok (.idiv, 1) := by decide +kernel
theorem dX2_keepCounts_8 : decode cX2_keepCounts 8 = .ok (.bipush 7, 2) := by decide +kernel
theorem dX2_keepCounts_10 : decode cX2_keepCounts 10 = .ok (.imul, 1) := by decide +kernel
theorem dX2_keepCounts_11 : decode cX2_keepCounts 11 = .ok (.istore_n 1, 1) := by decide +kernel
theorem dX2_keepCounts_12 : decode cX2_keepCounts 12 = .ok (.iload_n 1, 1) := by decide +kernel
theorem dX2_keepCounts_13 : decode cX2_keepCounts 13 = .ok (.ifCond .lt 15, 3) := by decide +kernel
theorem dX2_keepCounts_16 : decode cX2_keepCounts 16 = .ok (.iload_n 1, 1) := by decide +kernel
theorem dX2_keepCounts_17 : decode cX2_keepCounts 17 = .ok (.bipush 7, 2) := by decide +kernel
theorem dX2_keepCounts_19 : decode cX2_keepCounts 19 = .ok (.iadd, 1) := by decide +kernel
theorem dX2_keepCounts_20 : decode cX2_keepCounts 20 = .ok (.aload_n 0, 1) := by decide +kernel
theorem dX2_keepCounts_21 : decode cX2_keepCounts 21 = .ok (.getfield 16, 3) := by decide +kernel
theorem dX2_keepCounts_24 : decode cX2_keepCounts 24 = .ok (.arraylength, 1) := by decide +kernel
theorem dX2_keepCounts_25 : decode cX2_keepCounts 25 = .ok (.if_icmp .le 4, 3) := by decide +kernel
theorem dX2_keepCounts_28 : decode cX2_keepCounts 28 = .ok (.return_, 1) := by decide +kernel
theorem dX2_keepCounts_29 : decode cX2_keepCounts 29 = .ok (.iconst 0, 1) := by decide +kernel
theorem dX2_keepCounts_30 : decode cX2_keepCounts 30 = .ok (.istore_n 2, 1) := by decide +kernel
theorem dX2_keepCounts_31 : decode cX2_keepCounts 31 = .ok (.iload_n 2, 1) := by decide +kernel
theorem dX2_keepCounts_32 : decode cX2_keepCounts 32 = .ok (.aload_n 0, 1) := by decide +kernel
theorem dX2_keepCounts_33 : decode cX2_keepCounts 33 = .ok (.getfield 20, 3) := by decide +kernel
theorem dX2_keepCounts_36 : decode cX2_keepCounts 36 = .ok (.arraylength, 1) := by decide +kernel
theorem dX2_keepCounts_37 : decode cX2_keepCounts 37 = .ok (.if_icmp .ge 23, 3) := by decide +kernel
theorem dX2_keepCounts_40 : decode cX2_keepCounts 40 = .ok (.aload_n 0, 1) := by decide +kernel
theorem dX2_keepCounts_41 : decode cX2_keepCounts 41 = .ok (.getfield 16, 3) := by decide +kernel
theorem dX2_keepCounts_44 : decode cX2_keepCounts 44 = .ok (.iload_n 1, 1) := by decide +kernel
theorem dX2_keepCounts_45 : decode cX2_keepCounts 45 = .ok (.iload_n 2, 1) := by decide +kernel
theorem dX2_keepCounts_46 : decode cX2_keepCounts 46 = .ok (.iadd, 1) := by decide +kernel
theorem dX2_keepCounts_47 : decode cX2_keepCounts 47 = .ok (.aload_n 0, 1) := by decide +kernel
theorem dX2_keepCounts_48 : decode cX2_keepCounts 48 = .ok (.getfield 20, 3) := by decide +kernel
theorem dX2_keepCounts_51 : decode cX2_keepCounts 51 = .ok (.iload_n 2, 1) := by decide +kernel
theorem dX2_keepCounts_52 : decode cX2_keepCounts 52 = .ok (.iaload, 1) := by decide +kernel
theorem dX2_keepCounts_53 : decode cX2_keepCounts 53 = .ok (.iastore, 1) := by decide +kernel
theorem dX2_keepCounts_54 : decode cX2_keepCounts 54 = .ok (.iinc 2 1, 3) := by decide +kernel
theorem dX2_keepCounts_57 : decode cX2_keepCounts 57 = .ok (.goto (-26), 3) := by decide +kernel
theorem dX2_keepCounts_60 : decode cX2_keepCounts 60 = .ok (.return_, 1) := by decide +kernel
theorem dX2_keptBefore_0 : decode cX2_keptBefore 0 = .ok (.iload_n 1, 1) := by decide +kernel
theorem dX2_keptBefore_1 : decode cX2_keptBefore 1 = .ok (.sipush 256, 3) := by decide +kernel
theorem dX2_keptBefore_4 : decode cX2_keptBefore 4 = .ok (.idiv, 1) := by decide +kernel
theorem dX2_keptBefore_5 : decode cX2_keptBefore 5 = .ok (.bipush 7, 2) := by decide +kernel
theorem dX2_keptBefore_7 : decode cX2_keptBefore 7 = .ok (.imul, 1) := by decide +kernel
theorem dX2_keptBefore_8 : decode cX2_keptBefore 8 = .ok (.iload_n 2, 1) := by decide +kernel
theorem dX2_keptBefore_9 : decode cX2_keptBefore 9 = .ok (.iadd, 1) := by decide +kernel
theorem dX2_keptBefore_10 : decode cX2_keptBefore 10 = .ok (.istore_n 3, 1) := by decide +kernel
theorem dX2_keptBefore_11 : decode cX2_keptBefore 11 = .ok (.iload_n 3, 1) := by decide +kernel
theorem dX2_keptBefore_12 : decode cX2_keptBefore 12 = .ok (.ifCond .lt 21, 3) := by decide +kernel
theorem dX2_keptBefore_15 : decode cX2_keptBefore 15 = .ok (.iload_n 3, 1) := by decide +kernel
theorem dX2_keptBefore_16 : decode cX2_keptBefore 16 = .ok (.aload_n 0, 1) := by decide +kernel
theorem dX2_keptBefore_17 : decode cX2_keptBefore 17 = .ok (.getfield 16, 3) := by decide +kernel
theorem dX2_keptBefore_20 : decode cX2_keptBefore 20 = .ok (.arraylength, 1) := by decide +kernel
theorem dX2_keptBefore_21 : decode cX2_keptBefore 21 = .ok (.if_icmp .ge 12, 3) := by decide +kernel
theorem dX2_keptBefore_24 : decode cX2_keptBefore 24 = .ok (.aload_n 0, 1) := by decide +kernel
theorem dX2_keptBefore_25 : decode cX2_keptBefore 25 = .ok (.getfield 16, 3) := by decide +kernel
theorem dX2_keptBefore_28 : decode cX2_keptBefore 28 = .ok (.iload_n 3, 1) := by decide +kernel
theorem dX2_keptBefore_29 : decode cX2_keptBefore 29 = .ok (.iaload, 1) := by decide +kernel
theorem dX2_keptBefore_30 : decode cX2_keptBefore 30 = .ok (.goto 4, 3) := by decide +kernel
theorem dX2_keptBefore_33 : decode cX2_keptBefore 33 = .ok (.iconst 0, 1) := by decide +kernel
theorem dX2_keptBefore_34 : decode cX2_keptBefore 34 = .ok (.ireturn, 1) := by decide +kernel
set_option maxRecDepth 20000 in
theorem ggX2_lettersWithin_X5_isLetter : GoodIn wsX2_lettersWithin wsX5_isLetter := goodIn_r _ [3] (by decide +kernel) (by decide +kernel)
set_option maxRecDepth 20000 in
theorem gX2_lettersWithin_X5_isLetter_n27 : GoodIn wsX2_lettersWithin (wsX5_isLetter) := ggX2_lettersWithin_X5_isLetter
set_option maxRecDepth 20000 in
theorem ggX2_lettersWithin_X2_keptBefore : GoodIn wsX2_lettersWithin wsX2_keptBefore := goodIn_r _ [8, 9, 16, 17, 18, 19] (by decide +kernel) (by decide +kernel)
set_option maxRecDepth 20000 in
theorem gX2_lettersWithin_X2_keptBefore : GoodIn wsX2_lettersWithin (wsV RX2 53 RX2 yX2_keptBefore wsX2_keptBefore) := goodIn_app (goodIn_of _ (by decide +kernel)) ggX2_lettersWithin_X2_keptBefore
set_option maxRecDepth 20000 in
theorem ggX2_lettersWithin_X2_number : GoodIn wsX2_lettersWithin wsX2_number := goodIn_r _ [13, 14, 15, 16, 17, 18, 19] (by decide +kernel) (by decide +kernel)
set_option maxRecDepth 20000 in
theorem gX2_lettersWithin_X2_number : GoodIn wsX2_lettersWithin (wsV RX2 46 RX2 yX2_number wsX2_number) := goodIn_app (goodIn_of _ (by decide +kernel)) ggX2_lettersWithin_X2_number
theorem dX2_lettersWithin_0 : decode cX2_lettersWithin 0 = .ok (.iload_n 1, 1) := by decide +kernel
theorem dX2_lettersWithin_1 : decode cX2_lettersWithin 1 = .ok (.invokestatic 27, 3) := by decide +kernel
theorem dX2_lettersWithin_4 : decode cX2_lettersWithin 4 = .ok (.ifCond .eq 7, 3) := by decide +kernel
theorem dX2_lettersWithin_7 : decode cX2_lettersWithin 7 = .ok (.iload_n 2, 1) := by decide +kernel
theorem dX2_lettersWithin_8 : decode cX2_lettersWithin 8 = .ok (.ifCond .ge 5, 3) := by decide +kernel
theorem dX2_lettersWithin_11 : decode cX2_lettersWithin 11 = .ok (.iconst 0, 1) := by decide +kernel
theorem dX2_lettersWithin_12 : decode cX2_lettersWithin 12 = .ok (.ireturn, 1) := by decide +kernel
theorem dX2_lettersWithin_13 : decode cX2_lettersWithin 13 = .ok (.aload_n 0, 1) := by decide +kernel
theorem dX2_lettersWithin_14 : decode cX2_lettersWithin 14 = .ok (.iload_n 2, 1) := by decide +kernel
theorem dX2_lettersWithin_15 : decode cX2_lettersWithin 15 = .ok (.iload_n 1, 1) := by decide +kernel
theorem dX2_lettersWithin_16 : decode cX2_lettersWithin 16 = .ok (.invokevirtual 53, 3) := by decide +kernel
theorem dX2_lettersWithin_19 : decode cX2_lettersWithin 19 = .ok (.istore_n 3, 1) := by decide +kernel
theorem dX2_lettersWithin_20 : decode cX2_lettersWithin 20 = .ok (.iload_n 2, 1) := by decide +kernel
theorem dX2_lettersWithin_21 : decode cX2_lettersWithin 21 = .ok (.iload_n 2, 1) := by decide +kernel
theorem dX2_lettersWithin_22 : decode cX2_lettersWithin 22 = .ok (.sipush 256, 3) := by decide +kernel
theorem dX2_lettersWithin_25 : decode cX2_lettersWithin 25 = .ok (.irem, 1) := by decide +kernel
theorem dX2_lettersWithin_26 : decode cX2_lettersWithin 26 = .ok (.isub, 1) := by decide +kernel
theorem dX2_lettersWithin_27 : decode cX2_lettersWithin 27 = .ok (.istore 4, 2) := by decide +kernel
theorem dX2_lettersWithin_29 : decode cX2_lettersWithin 29 = .ok (.iload 4, 2) := by decide +kernel
theorem dX2_lettersWithin_31 : decode cX2_lettersWithin 31 = .ok (.iload_n 2, 1) := by decide +kernel
theorem dX2_lettersWithin_32 : decode cX2_lettersWithin 32 = .ok (.if_icmp .ge 22, 3) := by decide +kernel
theorem dX2_lettersWithin_35 : decode cX2_lettersWithin 35 = .ok (.aload_n 0, 1) := by decide +kernel
theorem dX2_lettersWithin_36 : decode cX2_lettersWithin 36 = .ok (.iload 4, 2) := by decide +kernel
theorem dX2_lettersWithin_38 : decode cX2_lettersWithin 38 = .ok (.invokevirtual 46, 3) := by decide +kernel
theorem dX2_lettersWithin_41 : decode cX2_lettersWithin 41 = .ok (.iload_n 1, 1) := by decide +kernel
theorem dX2_lettersWithin_42 : decode cX2_lettersWithin 42 = .ok (.if_icmp .ne 6, 3) := by decide +kernel
theorem dX2_lettersWithin_45 : decode cX2_lettersWithin 45 = .ok (.iinc 3 1, 3) := by decide +kernel
theorem dX2_lettersWithin_48 : decode cX2_lettersWithin 48 = .ok (.iinc 4 1, 3) := by decide +kernel
theorem dX2_lettersWithin_51 : decode cX2_lettersWithin 51 = .ok (.goto (-22), 3) := by decide +kernel
theorem dX2_lettersWithin_54 : decode cX2_lettersWithin 54 = .ok (.iload_n 3, 1) := by decide +kernel
theorem dX2_lettersWithin_55 : decode cX2_lettersWithin 55 = .ok (.ireturn, 1) := by decide +kernel
set_option maxRecDepth 20000 in
theorem ggX2_sumWithin_X2_lettersWithin : GoodIn wsX2_sumWithin wsX2_lettersWithin := goodIn_r _ [5, 6, 7, 8, 9, 10, 11, 4, 12, 13, 14, 15, 16, 17, 18, 19, 20, 21, 22, 23] (by decide +kernel) (by decide +kernel)
set_option maxRecDepth 20000 in
theorem gX2_sumWithin_X2_lettersWithin : GoodIn wsX2_sumWithin (wsV RX2 57 RX2 yX2_lettersWithin wsX2_lettersWithin) := goodIn_app (goodIn_of _ (by decide +kernel)) ggX2_sumWithin_X2_lettersWithin
theorem dX2_sumWithin_0 : decode cX2_sumWithin 0 = .ok (.iconst 0, 1) := by decide +kernel
theorem dX2_sumWithin_1 : decode cX2_sumWithin 1 = .ok (.istore_n 2, 1) := by decide +kernel
theorem dX2_sumWithin_2 : decode cX2_sumWithin 2 = .ok (.iconst 1, 1) := by decide +kernel
theorem dX2_sumWithin_3 : decode cX2_sumWithin 3 = .ok (.istore_n 3, 1) := by decide +kernel
theorem dX2_sumWithin_4 : decode cX2_sumWithin 4 = .ok (.iload_n 3, 1) := by decide +kernel
theorem dX2_sumWithin_5 : decode cX2_sumWithin 5 = .ok (.bipush 6, 2) := by decide +kernel
theorem dX2_sumWithin_7 : decode cX2_sumWithin 7 = .ok (.if_icmp .gt 20, 3) := by decide +kernel
theorem dX2_sumWithin_10 : decode cX2_sumWithin 10 = .ok (.iload_n 2, 1) := by decide +kernel
theorem dX2_sumWithin_11 : decode cX2_sumWithin 11 = .ok (.iload_n 3, 1) := by decide +kernel
theorem dX2_sumWithin_12 : decode cX2_sumWithin 12 = .ok (.aload_n 0, 1) := by decide +kernel
theorem dX2_sumWithin_13 : decode cX2_sumWithin 13 = .ok (.iload_n 3, 1) := by decide +kernel
theorem dX2_sumWithin_14 : decode cX2_sumWithin 14 = .ok (.iload_n 1, 1) := by decide +kernel
theorem dX2_sumWithin_15 : decode cX2_sumWithin 15 = .ok (.invokevirtual 57, 3) := by decide +kernel
theorem dX2_sumWithin_18 : decode cX2_sumWithin 18 = .ok (.imul, 1) := by decide +kernel
theorem dX2_sumWithin_19 : decode cX2_sumWithin 19 = .ok (.iadd, 1) := by decide +kernel
theorem dX2_sumWithin_20 : decode cX2_sumWithin 20 = .ok (.istore_n 2, 1) := by decide +kernel
theorem dX2_sumWithin_21 : decode cX2_sumWithin 21 = .ok (.iinc 3 1, 3) := by decide +kernel
theorem dX2_sumWithin_24 : decode cX2_sumWithin 24 = .ok (.goto (-20), 3) := by decide +kernel
theorem dX2_sumWithin_27 : decode cX2_sumWithin 27 = .ok (.iload_n 2, 1) := by decide +kernel
theorem dX2_sumWithin_28 : decode cX2_sumWithin 28 = .ok (.ireturn, 1) := by decide +kernel
set_option maxRecDepth 20000 in
theorem ggX2_runsWithin_X2_keptBefore : GoodIn wsX2_runsWithin wsX2_keptBefore := goodIn_r _ [5, 6, 13, 14, 15, 16] (by decide +kernel) (by decide +kernel)
set_option maxRecDepth 20000 in
theorem gX2_runsWithin_X2_keptBefore : GoodIn wsX2_runsWithin (wsV RX2 53 RX2 yX2_keptBefore wsX2_keptBefore) := goodIn_app (goodIn_of _ (by decide +kernel)) ggX2_runsWithin_X2_keptBefore
set_option maxRecDepth 20000 in
theorem ggX2_runsWithin_X2_number : GoodIn wsX2_runsWithin wsX2_number := goodIn_r _ [10, 11, 12, 13, 14, 15, 16] (by decide +kernel) (by decide +kernel)
set_option maxRecDepth 20000 in
theorem gX2_runsWithin_X2_number : GoodIn wsX2_runsWithin (wsV RX2 46 RX2 yX2_number wsX2_number) := goodIn_app (goodIn_of _ (by decide +kernel)) ggX2_runsWithin_X2_number
theorem dX2_runsWithin_0 : decode cX2_runsWithin 0 = .ok (.iload_n 1, 1) := by decide +kernel
theorem dX2_runsWithin_1 : decode cX2_runsWithin 1 = .ok (.ifCond .ge 5, 3) := by decide +kernel
theorem dX2_runsWithin_4 : decode cX2_runsWithin 4 = .ok (.iconst 0, 1) := by decide +kernel
theorem dX2_runsWithin_5 : decode cX2_runsWithin 5 = .ok (.ireturn, 1) := by decide +kernel
theorem dX2_runsWithin_6 : decode cX2_runsWithin 6 = .ok (.aload_n 0, 1) := by decide +kernel
theorem dX2_runsWithin_7 : decode cX2_runsWithin 7 = .ok (.iload_n 1, 1) := by decide +kernel
theorem dX2_runsWithin_8 : decode cX2_runsWithin 8 = .ok (.iconst 0, 1) := by decide +kernel
theorem dX2_runsWithin_9 : decode cX2_runsWithin 9 = .ok (.invokevirtual 53, 3) := by decide +kernel
theorem dX2_runsWithin_12 : decode cX2_runsWithin 12 = .ok (.istore_n 2, 1) := by decide +kernel
theorem dX2_runsWithin_13 : decode cX2_runsWithin 13 = .ok (.iload_n 1, 1) := by decide +kernel
theorem dX2_runsWithin_14 : decode cX2_runsWithin 14 = .ok (.iload_n 1, 1) := by decide +kernel
theorem dX2_runsWithin_15 : decode cX2_runsWithin 15 = .ok (.sipush 256, 3) := by decide +kernel
theorem dX2_runsWithin_18 : decode cX2_runsWithin 18 = .ok (.irem, 1) := by decide +kernel
theorem dX2_runsWithin_19 : decode cX2_runsWithin 19 = .ok (.isub, 1) := by decide +kernel
theorem dX2_runsWithin_20 : decode cX2_runsWithin 20 = .ok (.istore_n 3, 1) := by decide +kernel
theorem dX2_runsWithin_21 : decode cX2_runsWithin 21 = .ok (.iload_n 3, 1) := by decide +kernel
theorem dX2_runsWithin_22 : decode cX2_runsWithin 22 = .ok (.iload_n 1, 1) := by decide +kernel
theorem dX2_runsWithin_23 : decode cX2_runsWithin 23 = .ok (.if_icmp .ge 27, 3) := by decide +kernel
theorem dX2_runsWithin_26 : decode cX2_runsWithin 26 = .ok (.aload_n 0, 1) := by decide +kernel
theorem dX2_runsWithin_27 : decode cX2_runsWithin 27 = .ok (.iload_n 3, 1) := by decide +kernel
theorem dX2_runsWithin_28 : decode cX2_runsWithin 28 = .ok (.invokevirtual 46, 3) := by decide +kernel
theorem dX2_runsWithin_31 : decode cX2_runsWithin 31 = .ok (.aload_n 0, 1) := by decide +kernel
theorem dX2_runsWithin_32 : decode cX2_runsWithin 32 = .ok (.iload_n 3, 1) := by decide +kernel
theorem dX2_runsWithin_33 : decode cX2_runsWithin 33 = .ok (.iconst 1, 1) := by decide +kernel
theorem dX2_runsWithin_34 : decode cX2_runsWithin 34 = .ok (.isub, 1) := by decide +kernel
theorem dX2_runsWithin_35 : decode cX2_runsWithin 35 = .ok (.invokevirtual 46, 3) := by decide +kernel
theorem dX2_runsWithin_38 : decode cX2_runsWithin 38 = .ok (.if_icmp .eq 6, 3) := by decide +kernel
theorem dX2_runsWithin_41 : decode cX2_runsWithin 41 = .ok (.iinc 2 1, 3) := by decide +kernel
theorem dX2_runsWithin_44 : decode cX2_runsWithin 44 = .ok (.iinc 3 1, 3) := by decide +kernel
theorem dX2_runsWithin_47 : decode cX2_runsWithin 47 = .ok (.goto (-26), 3) := by decide +kernel
theorem dX2_runsWithin_50 : decode cX2_runsWithin 50 = .ok (.iload_n 2, 1) := by decide +kernel
theorem dX2_runsWithin_51 : decode cX2_runsWithin 51 = .ok (.ireturn, 1) := by decide +kernel
set_option maxRecDepth 20000 in
theorem ggX2_greatestOff_X2_number : GoodIn wsX2_greatestOff wsX2_number := goodIn_r _ [12, 13, 14, 15, 16, 17, 18] (by decide +kernel) (by decide +kernel)
set_option maxRecDepth 20000 in
theorem gX2_greatestOff_X2_number : GoodIn wsX2_greatestOff (wsV RX2 46 RX2 yX2_number wsX2_number) := goodIn_app (goodIn_of _ (by decide +kernel)) ggX2_greatestOff_X2_number
theorem dX2_greatestOff_0 : decode cX2_greatestOff 0 = .ok (.iconst 0, 1) := by decide +kernel
theorem dX2_greatestOff_1 : decode cX2_greatestOff 1 = .ok (.istore 4, 2) := by decide +kernel
theorem dX2_greatestOff_3 : decode cX2_greatestOff 3 = .ok (.iconst 0, 1) := by decide +kernel
theorem dX2_greatestOff_4 : decode cX2_greatestOff 4 = .ok (.istore 5, 2) := by decide +kernel
theorem dX2_greatestOff_6 : decode cX2_greatestOff 6 = .ok (.iconst 1, 1) := by decide +kernel
theorem dX2_greatestOff_7 : decode cX2_greatestOff 7 = .ok (.istore 6, 2) := by decide +kernel
theorem dX2_greatestOff_9 : decode cX2_greatestOff 9 = .ok (.iload 6, 2) := by decide +kernel
theorem dX2_greatestOff_11 : decode cX2_greatestOff 11 = .ok (.iload_n 3, 1) := by decide +kernel
theorem dX2_greatestOff_12 : decode cX2_greatestOff 12 = .ok (.if_icmp .gt 41, 3) := by decide +kernel
theorem dX2_greatestOff_15 : decode cX2_greatestOff 15 = .ok (.aload_n 0, 1) := by decide +kernel
theorem dX2_greatestOff_16 : decode cX2_greatestOff 16 = .ok (.iload 6, 2) := by decide +kernel
theorem dX2_greatestOff_18 : decode cX2_greatestOff 18 = .ok (.iconst 1, 1) := by decide +kernel
theorem dX2_greatestOff_19 : decode cX2_greatestOff 19 = .ok (.isub, 1) := by decide +kernel
theorem dX2_greatestOff_20 : decode cX2_greatestOff 20 = .ok (.invokevirtual 46, 3) := by decide +kernel
theorem dX2_greatestOff_23 : decode cX2_greatestOff 23 = .ok (.iload_n 1, 1) := by decide +kernel
theorem dX2_greatestOff_24 : decode cX2_greatestOff 24 = .ok (.if_icmp .ne 6, 3) := by decide +kernel
theorem dX2_greatestOff_27 : decode cX2_greatestOff 27 = .ok (.iinc 4 1, 3) := by decide +kernel
theorem dX2_greatestOff_30 : decode cX2_greatestOff 30 = .ok (.iload 5, 2) := by decide +kernel
theorem dX2_greatestOff_32 : decode cX2_greatestOff 32 = .ok (.iload 4, 2) := by decide +kernel
theorem dX2_greatestOff_34 : decode cX2_greatestOff 34 = .ok (.iload_n 2, 1) := by decide +kernel
theorem dX2_greatestOff_35 : decode cX2_greatestOff 35 = .ok (.imul, 1) := by decide +kernel
theorem dX2_greatestOff_36 : decode cX2_greatestOff 36 = .ok (.iload 6, 2) := by decide +kernel
theorem dX2_greatestOff_38 : decode cX2_greatestOff 38 = .ok (.isub, 1) := by decide +kernel
theorem dX2_greatestOff_39 : decode cX2_greatestOff 39 = .ok (.invokestatic 60, 3) := by decide +kernel
theorem dX2_greatestOff_42 : decode cX2_greatestOff 42 = .ok (.invokestatic 65, 3) := by decide +kernel
theorem dX2_greatestOff_45 : decode cX2_greatestOff 45 = .ok (.istore 5, 2) := by decide +kernel
theorem dX2_greatestOff_47 : decode cX2_greatestOff 47 = .ok (.iinc 6 1, 3) := by decide +kernel
theorem dX2_greatestOff_50 : decode cX2_greatestOff 50 = .ok (.goto (-41), 3) := by decide +kernel
theorem dX2_greatestOff_53 : decode cX2_greatestOff 53 = .ok (.iload 5, 2) := by decide +kernel
theorem dX2_greatestOff_55 : decode cX2_greatestOff 55 = .ok (.ireturn, 1) := by decide +kernel
set_option maxRecDepth 20000 in
theorem ggX2_holds_X4_size : GoodIn wsX2_holds wsX4_size := goodIn_r _ [5, 6, 19, 20] (by decide +kernel) (by decide +kernel)
set_option maxRecDepth 20000 in
theorem gX2_holds_X4_size : GoodIn wsX2_holds (wsV RX2 68 RX4 yX4_size wsX4_size) := goodIn_app (goodIn_of _ (by decide +kernel)) ggX2_holds_X4_size
set_option maxRecDepth 20000 in
theorem ggX2_holds_X2_number : GoodIn wsX2_holds wsX2_number := goodIn_r _ [11, 12, 13, 21, 22, 23, 24] (by decide +kernel) (by decide +kernel)
set_option maxRecDepth 20000 in
theorem gX2_holds_X2_number : GoodIn wsX2_holds (wsV RX2 46 RX2 yX2_number wsX2_number) := goodIn_app (goodIn_of _ (by decide +kernel)) ggX2_holds_X2_number
set_option maxRecDepth 20000 in
theorem ggX2_holds_X4_letterAt : GoodIn wsX2_holds wsX4_letterAt := goodIn_r _ [17, 6, 18, 19, 20] (by decide +kernel) (by decide +kernel)
set_option maxRecDepth 20000 in
theorem gX2_holds_X4_letterAt : GoodIn wsX2_holds (wsV RX2 73 RX4 yX4_letterAt wsX4_letterAt) := goodIn_app (goodIn_of _ (by decide +kernel)) ggX2_holds_X4_letterAt
theorem dX2_holds_0 : decode cX2_holds 0 = .ok (.iconst 0, 1) := by decide +kernel
theorem dX2_holds_1 : decode cX2_holds 1 = .ok (.istore_n 3, 1) := by decide +kernel
theorem dX2_holds_2 : decode cX2_holds 2 = .ok (.iload_n 3, 1) := by decide +kernel
theorem dX2_holds_3 : decode cX2_holds 3 = .ok (.aload_n 1, 1) := by decide +kernel
theorem dX2_holds_4 : decode cX2_holds 4 = .ok (.invokevirtual 68, 3) := by decide +kernel
theorem dX2_holds_7 : decode cX2_holds 7 = .ok (.if_icmp .ge 26, 3) := by decide +kernel
theorem dX2_holds_10 : decode cX2_holds 10 = .ok (.aload_n 0, 1) := by decide +kernel
theorem dX2_holds_11 : decode cX2_holds 11 = .ok (.iload_n 2, 1) := by decide +kernel
theorem dX2_holds_12 : decode cX2_holds 12 = .ok (.iload_n 3, 1) := by decide +kernel
theorem dX2_holds_13 : decode cX2_holds 13 = .ok (.iadd, 1) := by decide +kernel
theorem dX2_holds_14 : decode cX2_holds 14 = .ok (.invokevirtual 46, 3) := by decide +kernel
theorem dX2_holds_17 : decode cX2_holds 17 = .ok (.aload_n 1, 1) := by decide +kernel
theorem dX2_holds_18 : decode cX2_holds 18 = .ok (.iload_n 3, 1) := by decide +kernel
theorem dX2_holds_19 : decode cX2_holds 19 = .ok (.invokevirtual 73, 3) := by decide +kernel
theorem dX2_holds_22 : decode cX2_holds 22 = .ok (.if_icmp .eq 5, 3) := by decide +kernel
theorem dX2_holds_25 : decode cX2_holds 25 = .ok (.iconst 0, 1) := by decide +kernel
theorem dX2_holds_26 : decode cX2_holds 26 = .ok (.ireturn, 1) := by decide +kernel
theorem dX2_holds_27 : decode cX2_holds 27 = .ok (.iinc 3 1, 3) := by decide +kernel
theorem dX2_holds_30 : decode cX2_holds 30 = .ok (.goto (-28), 3) := by decide +kernel
theorem dX2_holds_33 : decode cX2_holds 33 = .ok (.iconst 1, 1) := by decide +kernel
theorem dX2_holds_34 : decode cX2_holds 34 = .ok (.ireturn, 1) := by decide +kernel
theorem dX3_init_0 : decode cX3_init 0 = .ok (.aload_n 0, 1) := by decide +kernel
theorem dX3_init_1 : decode cX3_init 1 = .ok (.invokespecial 1, 3) := by decide +kernel
theorem dX3_init_4 : decode cX3_init 4 = .ok (.aload_n 0, 1) := by decide +kernel
theorem dX3_init_5 : decode cX3_init 5 = .ok (.sipush 4096, 3) := by decide +kernel
theorem dX3_init_8 : decode cX3_init 8 = .ok (.newarray .long, 2) := by decide +kernel
theorem dX3_init_10 : decode cX3_init 10 = .ok (.putfield 9, 3) := by decide +kernel
theorem dX3_init_13 : decode cX3_init 13 = .ok (.return_, 1) := by decide +kernel
set_option maxRecDepth 20000 in
theorem ggX3_unlikeWithin_X2_number : GoodIn wsX3_unlikeWithin wsX2_number := goodIn_r _ [6, 7, 8, 16, 17, 18, 19] (by decide +kernel) (by decide +kernel)
set_option maxRecDepth 20000 in
theorem gX3_unlikeWithin_X2_number : GoodIn wsX3_unlikeWithin (wsV RX3 13 RX2 yX2_number wsX2_number) := goodIn_app (goodIn_of _ (by decide +kernel)) ggX3_unlikeWithin_X2_number
set_option maxRecDepth 20000 in
theorem ggX3_unlikeWithin_X3_takesSeat : GoodIn wsX3_unlikeWithin wsX3_takesSeat := goodIn_r _ [13, 14, 1, 15] (by decide +kernel) (by decide +kernel)
set_option maxRecDepth 20000 in
theorem gX3_unlikeWithin_X3_takesSeat : GoodIn wsX3_unlikeWithin (wsV RX3 19 RX3 yX3_takesSeat wsX3_takesSeat) := goodIn_app (goodIn_of _ (by decide +kernel)) ggX3_unlikeWithin_X3_takesSeat
theorem dX3_unlikeWithin_0 : decode cX3_unlikeWithin 0 = .ok (.iconst 0, 1) := by decide +kernel
theorem dX3_unlikeWithin_1 : decode cX3_unlikeWithin 1 = .ok (.istore 4, 2) := by decide +kernel
theorem dX3_unlikeWithin_3 : decode cX3_unlikeWithin 3 = .ok (.iload 4, 2) := by decide +kernel
theorem dX3_unlikeWithin_5 : decode cX3_unlikeWithin 5 = .ok (.aload_n 0, 1) := by decide +kernel
theorem dX3_unlikeWithin_6 : decode cX3_unlikeWithin 6 = .ok (.getfield 9, 3) := by decide +kernel
theorem dX3_unlikeWithin_9 : decode cX3_unlikeWithin 9 = .ok (.arraylength, 1) := by decide +kernel
theorem dX3_unlikeWithin_10 : decode cX3_unlikeWithin 10 = .ok (.if_icmp .ge 17, 3) := by decide +kernel
theorem dX3_unlikeWithin_13 : decode cX3_unlikeWithin 13 = .ok (.aload_n 0, 1) := by decide +kernel
theorem dX3_unlikeWithin_14 : decode cX3_unlikeWithin 14 = .ok (.getfield 9, 3) := by decide +kernel
theorem dX3_unlikeWithin_17 : decode cX3_unlikeWithin 17 = .ok (.iload 4, 2) := by decide +kernel
theorem dX3_unlikeWithin_19 : decode cX3_unlikeWithin 19 = .ok (.lconst 0, 1) := by decide +kernel
theorem dX3_unlikeWithin_20 : decode cX3_unlikeWithin 20 = .ok (.lastore, 1) := by decide +kernel
theorem dX3_unlikeWithin_21 : decode cX3_unlikeWithin 21 = .ok (.iinc 4 1, 3) := by decide +kernel
theorem dX3_unlikeWithin_24 : decode cX3_unlikeWithin 24 = .ok (.goto (-21), 3) := by decide +kernel
theorem dX3_unlikeWithin_27 : decode cX3_unlikeWithin 27 = .ok (.iconst 0, 1) := by decide +kernel
theorem dX3_unlikeWithin_28 : decode cX3_unlikeWithin 28 = .ok (.istore 4, 2) := by decide +kernel
theorem dX3_unlikeWithin_30 : decode cX3_unlikeWithin 30 = .ok (.lconst 0, 1) := by decide +kernel
theorem dX3_unlikeWithin_31 : decode cX3_unlikeWithin 31 = .ok (.lstore 5, 2) := by decide +kernel
theorem dX3_unlikeWithin_33 : decode cX3_unlikeWithin 33 = .ok (.lconst 1, 1) := by decide +kernel
theorem dX3_unlikeWithin_34 : decode cX3_unlikeWithin 34 = .ok (.iconst 3, 1) := by decide +kernel
theorem dX3_unlikeWithin_35 : decode cX3_unlikeWithin 35 = .ok (.iload_n 2, 1) := by decide +kernel
theorem dX3_unlikeWithin_36 : decode cX3_unlikeWithin 36 = .ok (.imul, 1) := by decide +kernel
theorem dX3_unlikeWithin_37 : decode cX3_unlikeWithin 37 = .ok (.lshl, 1) := by decide +kernel
theorem dX3_unlikeWithin_38 : decode cX3_unlikeWithin 38 = .ok (.lconst 1, 1) := by decide +kernel
theorem dX3_unlikeWithin_39 : decode cX3_unlikeWithin 39 = .ok (.lsub, 1) := by decide +kernel
theorem dX3_unlikeWithin_40 : decode cX3_unlikeWithin 40 = .ok (.lstore 7, 2) := by decide +kernel
theorem dX3_unlikeWithin_42 : decode cX3_unlikeWithin 42 = .ok (.iconst 0, 1) := by decide +kernel
theorem dX3_unlikeWithin_43 : decode cX3_unlikeWithin 43 = .ok (.istore 9, 2) := by decide +kernel
theorem dX3_unlikeWithin_45 : decode cX3_unlikeWithin 45 = .ok (.iload 9, 2) := by decide +kernel
theorem dX3_unlikeWithin_47 : decode cX3_unlikeWithin 47 = .ok (.iload_n 3, 1) := by decide +kernel
theorem dX3_unlikeWithin_48 : decode cX3_unlikeWithin 48 = .ok (.if_icmp .ge 46, 3) := by decide +kernel
theorem dX3_unlikeWithin_51 : decode cX3_unlikeWithin 51 = .ok (.lload 5, 2) := by decide +kernel
theorem dX3_unlikeWithin_53 : decode cX3_unlikeWithin 53 = .ok (.iconst 3, 1) := by decide +kernel
theorem dX3_unlikeWithin_54 : decode cX3_unlikeWithin 54 = .ok (.lshl, 1) := by decide +kernel
theorem dX3_unlikeWithin_55 : decode cX3_unlikeWithin 55 = .ok (.aload_n 1, 1) := by decide +kernel
theorem dX3_unlikeWithin_56 : decode cX3_unlikeWithin 56 = .ok (.iload 9, 2) := by decide +kernel
theorem dX3_unlikeWithin_58 : decode cX3_unlikeWithin 58 = .ok (.invokevirtual 13, 3) := by decide +kernel
theorem dX3_unlikeWithin_61 : decode cX3_unlikeWithin 61 = .ok (.i2l, 1) := by decide +kernel
theorem dX3_unlikeWithin_62 : decode cX3_unlikeWithin 62 = .ok (.lor, 1) := by decide +kernel
theorem dX3_unlikeWithin_63 : decode cX3_unlikeWithin 63 = .ok (.lload 7, 2) := by decide +kernel
theorem dX3_unlikeWithin_65 : decode cX3_unlikeWithin 65 = .ok (.land, 1) := by decide +kernel
theorem dX3_unlikeWithin_66 : decode cX3_unlikeWithin 66 = .ok (.lstore 5, 2) := by decide +kernel
theorem dX3_unlikeWithin_68 : decode cX3_unlikeWithin 68 = .ok (.iload 9, 2) := by decide +kernel
theorem dX3_unlikeWithin_70 : decode cX3_unlikeWithin 70 = .ok (.iconst 1, 1) := by decide +kernel
theorem dX3_unlikeWithin_71 : decode cX3_unlikeWithin 71 = .ok (.iadd, 1) := by decide +kernel
theorem dX3_unlikeWithin_72 : decode cX3_unlikeWithin 72 = .ok (.iload_n 2, 1) := by decide +kernel
theorem dX3_unlikeWithin_73 : decode cX3_unlikeWithin 73 = .ok (.if_icmp .lt 15, 3) := by decide +kernel
theorem dX3_unlikeWithin_76 : decode cX3_unlikeWithin 76 = .ok (.aload_n 0, 1) := by decide +kernel
theorem dX3_unlikeWithin_77 : decode cX3_unlikeWithin 77 = .ok (.lload 5, 2) := by decide +kernel
theorem dX3_unlikeWithin_79 : decode cX3_unlikeWithin 79 = .ok (.invokevirtual 19, 3) := by decide +kernel
theorem dX3_unlikeWithin_82 : decode cX3_unlikeWithin 82 = .ok (.ifCond .eq 6, 3) := by decide +kernel
theorem dX3_unlikeWithin_85 : decode cX3_unlikeWithin 85 = .ok (.iinc 4 1, 3) := by decide +kernel
theorem dX3_unlikeWithin_88 : decode cX3_unlikeWithin 88 = .ok (.iinc 9 1, 3) := by decide +kernel
theorem dX3_unlikeWithin_91 : decode cX3_unlikeWithin 91 = .ok (.goto (-46), 3) := by decide +kernel
theorem dX3_unlikeWithin_94 : decode cX3_unlikeWithin 94 = .ok (.iload 4, 2) := by decide +kernel
theorem dX3_unlikeWithin_96 : decode cX3_unlikeWithin 96 = .ok (.ireturn, 1) := by decide +kernel
theorem dX3_takesSeat_0 : decode cX3_takesSeat 0 = .ok (.lload_n 1, 1) := by decide +kernel
theorem dX3_takesSeat_1 : decode cX3_takesSeat 1 = .ok (.ldc2_w 23, 3) := by decide +kernel
theorem dX3_takesSeat_4 : decode cX3_takesSeat 4 = .ok (.lmul, 1) := by decide +kernel
theorem dX3_takesSeat_5 : decode cX3_takesSeat 5 = .ok (.bipush 52, 2) := by decide +kernel
theorem dX3_takesSeat_7 : decode cX3_takesSeat 7 = .ok (.lushr, 1) := by decide +kernel
theorem dX3_takesSeat_8 : decode cX3_takesSeat 8 = .ok (.l2i, 1) := by decide +kernel
theorem dX3_takesSeat_9 : decode cX3_takesSeat 9 = .ok (.istore_n 3, 1) := by decide +kernel
theorem dX3_takesSeat_10 : decode cX3_takesSeat 10 = .ok (.iconst 0, 1) := by decide +kernel
theorem dX3_takesSeat_11 : decode cX3_takesSeat 11 = .ok (.istore 4, 2) := by decide +kernel
theorem dX3_takesSeat_13 : decode cX3_takesSeat 13 = .ok (.iload 4, 2) := by decide +kernel
theorem dX3_takesSeat_15 : decode cX3_takesSeat 15 = .ok (.sipush 4096, 3) := by decide +kernel
theorem dX3_takesSeat_18 : decode cX3_takesSeat 18 = .ok (.if_icmp .ge 74, 3) := by decide +kernel
theorem dX3_takesSeat_21 : decode cX3_takesSeat 21 = .ok (.iload_n 3, 1) := by decide +kernel
theorem dX3_takesSeat_22 : decode cX3_takesSeat 22 = .ok (.ifCond .lt 12, 3) := by decide +kernel
theorem dX3_takesSeat_25 : decode cX3_takesSeat 25 = .ok (.iload_n 3, 1) := by decide +kernel
theorem dX3_takesSeat_26 : decode cX3_takesSeat 26 = .ok (.aload_n 0, 1) := by decide +kernel
theorem dX3_takesSeat_27 : decode cX3_takesSeat 27 = .ok (.getfield 9, 3) := by decide +kernel
theorem dX3_takesSeat_30 : decode cX3_takesSeat 30 = .ok (.arraylength, 1) := by decide +kernel
theorem dX3_takesSeat_31 : decode cX3_takesSeat 31 = .ok (.if_icmp .lt 5, 3) := by decide +kernel
theorem dX3_takesSeat_34 : decode cX3_takesSeat 34 = .ok (.iconst 0, 1) := by decide +kernel
theorem dX3_takesSeat_35 : decode cX3_takesSeat 35 = .ok (.ireturn, 1) := by decide +kernel
theorem dX3_takesSeat_36 : decode cX3_takesSeat 36 = .ok (.aload_n 0, 1) := by decide +kernel
theorem dX3_takesSeat_37 : decode cX3_takesSeat 37 = .ok (.getfield 9, 3) := by decide +kernel
theorem dX3_takesSeat_40 : decode cX3_takesSeat 40 = .ok (.iload_n 3, 1) := by decide +kernel
theorem dX3_takesSeat_41 : decode cX3_takesSeat 41 = .ok (.laload, 1) := by decide +kernel
theorem dX3_takesSeat_42 : decode cX3_takesSeat 42 = .ok (.lload_n 1, 1) := by decide +kernel
theorem dX3_takesSeat_43 : decode cX3_takesSeat 43 = .ok (.lcmp, 1) := by decide +kernel
theorem dX3_takesSeat_44 : decode cX3_takesSeat 44 = .ok (.ifCond .ne 5, 3) := by decide +kernel
theorem dX3_takesSeat_47 : decode cX3_takesSeat 47 = .ok (.iconst 0, 1) := by decide +kernel
theorem dX3_takesSeat_48 : decode cX3_takesSeat 48 = .ok (.ireturn, 1) := by decide +kernel
theorem dX3_takesSeat_49 : decode cX3_takesSeat 49 = .ok (.aload_n 0, 1) := by decide +kernel
theorem dX3_takesSeat_50 : decode cX3_takesSeat 50 = .ok (.getfield 9, 3) := by decide +kernel
theorem dX3_takesSeat_53 : decode cX3_takesSeat 53 = .ok (.iload_n 3, 1) := by decide +kernel
theorem dX3_takesSeat_54 : decode cX3_takesSeat 54 = .ok (.laload, 1) := by decide +kernel
theorem dX3_takesSeat_55 : decode cX3_takesSeat 55 = .ok (.lconst 0, 1) := by decide +kernel
theorem dX3_takesSeat_56 : decode cX3_takesSeat 56 = .ok (.lcmp, 1) := by decide +kernel
theorem dX3_takesSeat_57 : decode cX3_takesSeat 57 = .ok (.ifCond .ne 12, 3) := by decide +kernel
theorem dX3_takesSeat_60 : decode cX3_takesSeat 60 = .ok (.aload_n 0, 1) := by decide +kernel
theorem dX3_takesSeat_61 : decode cX3_takesSeat 61 = .ok (.getfield 9, 3) := by decide +kernel
theorem dX3_takesSeat_64 : decode cX3_takesSeat 64 = .ok (.iload_n 3, 1) := by decide +kernel
theorem dX3_takesSeat_65 : decode cX3_takesSeat 65 = .ok (.lload_n 1, 1) := by decide +kernel
theorem dX3_takesSeat_66 : decode cX3_takesSeat 66 = .ok (.lastore, 1) := by decide +kernel
theorem dX3_takesSeat_67 : decode cX3_takesSeat 67 = .ok (.iconst 1, 1) := by decide +kernel
theorem dX3_takesSeat_68 : decode cX3_takesSeat 68 = .ok (.ireturn, 1) := by decide +kernel
theorem dX3_takesSeat_69 : decode cX3_takesSeat 69 = .ok (.iload_n 3, 1) := by decide +kernel
theorem dX3_takesSeat_70 : decode cX3_takesSeat 70 = .ok (.iconst 1, 1) := by decide +kernel
theorem dX3_takesSeat_71 : decode cX3_takesSeat 71 = .ok (.iadd, 1) := by decide +kernel
theorem dX3_takesSeat_72 : decode cX3_takesSeat 72 = .ok (.sipush 4096, 3) := by decide +kernel
theorem dX3_takesSeat_75 : decode cX3_takesSeat 75 = .ok (.if_icmp .ge 9, 3) := by decide +kernel
theorem dX3_takesSeat_78 : decode cX3_takesSeat 78 = .ok (.iload_n 3, 1) := by decide +kernel
theorem dX3_takesSeat_79 : decode cX3_takesSeat 79 = .ok (.iconst 1, 1) := by decide +kernel
theorem dX3_takesSeat_80 : decode cX3_takesSeat 80 = .ok (.iadd, 1) := by decide +kernel
theorem dX3_takesSeat_81 : decode cX3_takesSeat 81 = .ok (.goto 4, 3) := by decide +kernel
theorem dX3_takesSeat_84 : decode cX3_takesSeat 84 = .ok (.iconst 0, 1) := by decide +kernel
theorem dX3_takesSeat_85 : decode cX3_takesSeat 85 = .ok (.istore_n 3, 1) := by decide +kernel
theorem dX3_takesSeat_86 : decode cX3_takesSeat 86 = .ok (.iinc 4 1, 3) := by decide +kernel
theorem dX3_takesSeat_89 : decode cX3_takesSeat 89 = .ok (.goto (-76), 3) := by decide +kernel
theorem dX3_takesSeat_92 : decode cX3_takesSeat 92 = .ok (.iconst 0, 1) := by decide +kernel
theorem dX3_takesSeat_93 : decode cX3_takesSeat 93 = .ok (.ireturn, 1) := by decide +kernel
theorem dX4_init_0 : decode cX4_init 0 = .ok (.aload_n 0, 1) := by decide +kernel
theorem dX4_init_1 : decode cX4_init 1 = .ok (.invokespecial 3, 3) := by decide +kernel
theorem dX4_init_4 : decode cX4_init 4 = .ok (.aload_n 0, 1) := by decide +kernel
theorem dX4_init_5 : decode cX4_init 5 = .ok (.bipush 60, 2) := by decide +kernel
theorem dX4_init_7 : decode cX4_init 7 = .ok (.newarray .int, 2) := by decide +kernel
theorem dX4_init_9 : decode cX4_init 9 = .ok (.putfield 9, 3) := by decide +kernel
theorem dX4_init_12 : decode cX4_init 12 = .ok (.aload_n 0, 1) := by decide +kernel
theorem dX4_init_13 : decode cX4_init 13 = .ok (.iconst 0, 1) := by decide +kernel
theorem dX4_init_14 : decode cX4_init 14 = .ok (.putfield 15, 3) := by decide +kernel
theorem dX4_init_17 : decode cX4_init 17 = .ok (.return_, 1) := by decide +kernel
theorem dX4_size_0 : decode cX4_size 0 = .ok (.aload_n 0, 1) := by decide +kernel
theorem dX4_size_1 : decode cX4_size 1 = .ok (.getfield 15, 3) := by decide +kernel
theorem dX4_size_4 : decode cX4_size 4 = .ok (.ireturn, 1) := by decide +kernel
theorem dX4_letterAt_0 : decode cX4_letterAt 0 = .ok (.iload_n 1, 1) := by decide +kernel
theorem dX4_letterAt_1 : decode cX4_letterAt 1 = .ok (.ifCond .lt 29, 3) := by decide +kernel
theorem dX4_letterAt_4 : decode cX4_letterAt 4 = .ok (.iload_n 1, 1) := by decide +kernel
theorem dX4_letterAt_5 : decode cX4_letterAt 5 = .ok (.aload_n 0, 1) := by decide +kernel
theorem dX4_letterAt_6 : decode cX4_letterAt 6 = .ok (.getfield 15, 3) := by decide +kernel
theorem dX4_letterAt_9 : decode cX4_letterAt 9 = .ok (.if_icmp .ge 21, 3) := by decide +kernel
theorem dX4_letterAt_12 : decode cX4_letterAt 12 = .ok (.iload_n 1, 1) := by decide +kernel
theorem dX4_letterAt_13 : decode cX4_letterAt 13 = .ok (.aload_n 0, 1) := by decide +kernel
theorem dX4_letterAt_14 : decode cX4_letterAt 14 = .ok (.getfield 9, 3) := by decide +kernel
theorem dX4_letterAt_17 : decode cX4_letterAt 17 = .ok (.arraylength, 1) := by decide +kernel
theorem dX4_letterAt_18 : decode cX4_letterAt 18 = .ok (.if_icmp .ge 12, 3) := by decide +kernel
theorem dX4_letterAt_21 : decode cX4_letterAt 21 = .ok (.aload_n 0, 1) := by decide +kernel
theorem dX4_letterAt_22 : decode cX4_letterAt 22 = .ok (.getfield 9, 3) := by decide +kernel
theorem dX4_letterAt_25 : decode cX4_letterAt 25 = .ok (.iload_n 1, 1) := by decide +kernel
theorem dX4_letterAt_26 : decode cX4_letterAt 26 = .ok (.iaload, 1) := by decide +kernel
theorem dX4_letterAt_27 : decode cX4_letterAt 27 = .ok (.goto 4, 3) := by decide +kernel
theorem dX4_letterAt_30 : decode cX4_letterAt 30 = .ok (.iconst (-1), 1) := by decide +kernel
theorem dX4_letterAt_31 : decode cX4_letterAt 31 = .ok (.ireturn, 1) := by decide +kernel
theorem dX4_empty_0 : decode cX4_empty 0 = .ok (.aload_n 0, 1) := by decide +kernel
theorem dX4_empty_1 : decode cX4_empty 1 = .ok (.iconst 0, 1) := by decide +kernel
theorem dX4_empty_2 : decode cX4_empty 2 = .ok (.putfield 15, 3) := by decide +kernel
theorem dX4_empty_5 : decode cX4_empty 5 = .ok (.return_, 1) := by decide +kernel
theorem dX4_put_0 : decode cX4_put 0 = .ok (.aload_n 0, 1) := by decide +kernel
theorem dX4_put_1 : decode cX4_put 1 = .ok (.getfield 15, 3) := by decide +kernel
theorem dX4_put_4 : decode cX4_put 4 = .ok (.ifCond .lt 15, 3) := by decide +kernel
theorem dX4_put_7 : decode cX4_put 7 = .ok (.aload_n 0, 1) := by decide +kernel
theorem dX4_put_8 : decode cX4_put 8 = .ok (.getfield 15, 3) := by decide +kernel
theorem dX4_put_11 : decode cX4_put 11 = .ok (.aload_n 0, 1) := by decide +kernel
theorem dX4_put_12 : decode cX4_put 12 = .ok (.getfield 9, 3) := by decide +kernel
theorem dX4_put_15 : decode cX4_put 15 = .ok (.arraylength, 1) := by decide +kernel
theorem dX4_put_16 : decode cX4_put 16 = .ok (.if_icmp .lt 5, 3) := by decide +kernel
theorem dX4_put_19 : decode cX4_put 19 = .ok (.iconst 0, 1) := by decide +kernel
theorem dX4_put_20 : decode cX4_put 20 = .ok (.ireturn, 1) := by decide +kernel
theorem dX4_put_21 : decode cX4_put 21 = .ok (.aload_n 0, 1) := by decide +kernel
theorem dX4_put_22 : decode cX4_put 22 = .ok (.getfield 9, 3) := by decide +kernel
theorem dX4_put_25 : decode cX4_put 25 = .ok (.aload_n 0, 1) := by decide +kernel
theorem dX4_put_26 : decode cX4_put 26 = .ok (.getfield 15, 3) := by decide +kernel
theorem dX4_put_29 : decode cX4_put 29 = .ok (.iload_n 1, 1) := by decide +kernel
theorem dX4_put_30 : decode cX4_put 30 = .ok (.iastore, 1) := by decide +kernel
theorem dX4_put_31 : decode cX4_put 31 = .ok (.aload_n 0, 1) := by decide +kernel
theorem dX4_put_32 : decode cX4_put 32 = .ok (.dup, 1) := by decide +kernel
theorem dX4_put_33 : decode cX4_put 33 = .ok (.getfield 15, 3) := by decide +kernel
theorem dX4_put_36 : decode cX4_put 36 = .ok (.iconst 1, 1) := by decide +kernel
theorem dX4_put_37 : decode cX4_put 37 = .ok (.iadd, 1) := by decide +kernel
theorem dX4_put_38 : decode cX4_put 38 = .ok (.putfield 15, 3) := by decide +kernel
theorem dX4_put_41 : decode cX4_put 41 = .ok (.iconst 1, 1) := by decide +kernel
theorem dX4_put_42 : decode cX4_put 42 = .ok (.ireturn, 1) := by decide +kernel
set_option maxRecDepth 20000 in
theorem ggX4_putTimes_X4_put : GoodIn wsX4_putTimes wsX4_put := goodIn_r _ [5, 6, 7, 8, 9] (by decide +kernel) (by decide +kernel)
set_option maxRecDepth 20000 in
theorem gX4_putTimes_X4_put : GoodIn wsX4_putTimes (wsV RX4 19 RX4 yX4_put wsX4_put) := goodIn_app (goodIn_of _ (by decide +kernel)) ggX4_putTimes_X4_put
theorem dX4_putTimes_0 : decode cX4_putTimes 0 = .ok (.iconst 0, 1) := by decide +kernel
theorem dX4_putTimes_1 : decode cX4_putTimes 1 = .ok (.istore_n 3, 1) := by decide +kernel
theorem dX4_putTimes_2 : decode cX4_putTimes 2 = .ok (.iload_n 3, 1) := by decide +kernel
theorem dX4_putTimes_3 : decode cX4_putTimes 3 = .ok (.iload_n 2, 1) := by decide +kernel
theorem dX4_putTimes_4 : decode cX4_putTimes 4 = .ok (.if_icmp .ge 15, 3) := by decide +kernel
theorem dX4_putTimes_7 : decode cX4_putTimes 7 = .ok (.aload_n 0, 1) := by decide +kernel
theorem dX4_putTimes_8 : decode cX4_putTimes 8 = .ok (.iload_n 1, 1) := by decide +kernel
theorem dX4_putTimes_9 : decode cX4_putTimes 9 = .ok (.invokevirtual 19, 3) := by decide +kernel
theorem dX4_putTimes_12 : decode cX4_putTimes 12 = .ok (.pop, 1) := by decide +kernel
theorem dX4_putTimes_13 : decode cX4_putTimes 13 = .ok (.iinc 3 1, 3) := by decide +kernel
theorem dX4_putTimes_16 : decode cX4_putTimes 16 = .ok (.goto (-14), 3) := by decide +kernel
theorem dX4_putTimes_19 : decode cX4_putTimes 19 = .ok (.return_, 1) := by decide +kernel
theorem dX4_drop_0 : decode cX4_drop 0 = .ok (.aload_n 0, 1) := by decide +kernel
theorem dX4_drop_1 : decode cX4_drop 1 = .ok (.getfield 15, 3) := by decide +kernel
theorem dX4_drop_4 : decode cX4_drop 4 = .ok (.ifCond .le 13, 3) := by decide +kernel
theorem dX4_drop_7 : decode cX4_drop 7 = .ok (.aload_n 0, 1) := by decide +kernel
theorem dX4_drop_8 : decode cX4_drop 8 = .ok (.dup, 1) := by decide +kernel
theorem dX4_drop_9 : decode cX4_drop 9 = .ok (.getfield 15, 3) := by decide +kernel
theorem dX4_drop_12 : decode cX4_drop 12 = .ok (.iconst 1, 1) := by decide +kernel
theorem dX4_drop_13 : decode cX4_drop 13 = .ok (.isub, 1) := by decide +kernel
theorem dX4_drop_14 : decode cX4_drop 14 = .ok (.putfield 15, 3) := by decide +kernel
theorem dX4_drop_17 : decode cX4_drop 17 = .ok (.return_, 1) := by decide +kernel
set_option maxRecDepth 20000 in
theorem ggX4_become_X4_empty : GoodIn wsX4_become wsX4_empty := goodIn_r _ [5, 6, 20, 21] (by decide +kernel) (by decide +kernel)
set_option maxRecDepth 20000 in
theorem gX4_become_X4_empty : GoodIn wsX4_become (wsV RX4 23 RX4 yX4_empty wsX4_empty) := goodIn_app (goodIn_of _ (by decide +kernel)) ggX4_become_X4_empty
set_option maxRecDepth 20000 in
theorem ggX4_become_X4_size : GoodIn wsX4_become wsX4_size := goodIn_r _ [10, 6, 20, 21] (by decide +kernel) (by decide +kernel)
set_option maxRecDepth 20000 in
theorem gX4_become_X4_size : GoodIn wsX4_become (wsV RX4 26 RX4 yX4_size wsX4_size) := goodIn_app (goodIn_of _ (by decide +kernel)) ggX4_become_X4_size
set_option maxRecDepth 20000 in
theorem ggX4_become_X4_letterAt : GoodIn wsX4_become wsX4_letterAt := goodIn_r _ [14, 6, 15, 20, 21] (by decide +kernel) (by decide +kernel)
set_option maxRecDepth 20000 in
theorem gX4_become_X4_letterAt : GoodIn wsX4_become (wsV RX4 29 RX4 yX4_letterAt wsX4_letterAt) := goodIn_app (goodIn_of _ (by decide +kernel)) ggX4_become_X4_letterAt
set_option maxRecDepth 20000 in
theorem ggX4_become_X4_put : GoodIn wsX4_become wsX4_put := goodIn_r _ [19, 6, 15, 20, 21] (by decide +kernel) (by decide +kernel)
set_option maxRecDepth 20000 in
theorem gX4_become_X4_put : GoodIn wsX4_become (wsV RX4 19 RX4 yX4_put wsX4_put) := goodIn_app (goodIn_of _ (by decide +kernel)) ggX4_become_X4_put
theorem dX4_become_0 : decode cX4_become 0 = .ok (.aload_n 0, 1) := by decide +kernel
theorem dX4_become_1 : decode cX4_become 1 = .ok (.invokevirtual 23, 3) := by decide +kernel
theorem dX4_become_4 : decode cX4_become 4 = .ok (.iconst 0, 1) := by decide +kernel
theorem dX4_become_5 : decode cX4_become 5 = .ok (.istore_n 2, 1) := by decide +kernel
theorem dX4_become_6 : decode cX4_become 6 = .ok (.iload_n 2, 1) := by decide +kernel
theorem dX4_become_7 : decode cX4_become 7 = .ok (.aload_n 1, 1) := by decide +kernel
theorem dX4_become_8 : decode cX4_become 8 = .ok (.invokevirtual 26, 3) := by decide +kernel
theorem dX4_become_11 : decode cX4_become 11 = .ok (.if_icmp .ge 19, 3) := by decide +kernel
theorem dX4_become_14 : decode cX4_become 14 = .ok (.aload_n 0, 1) := by decide +kernel
theorem dX4_become_15 : decode cX4_become 15 = .ok (.aload_n 1, 1) := by decide +kernel
theorem dX4_become_16 : decode cX4_become 16 = .ok (.iload_n 2, 1) := by decide +kernel
theorem dX4_become_17 : decode cX4_become 17 = .ok (.invokevirtual 29, 3) := by decide +kernel
theorem dX4_become_20 : decode cX4_become 20 = .ok (.invokevirtual 19, 3) := by decide +kernel
theorem dX4_become_23 : decode cX4_become 23 = .ok (.pop, 1) := by decide +kernel
theorem dX4_become_24 : decode cX4_become 24 = .ok (.iinc 2 1, 3) := by decide +kernel
theorem dX4_become_27 : decode cX4_become 27 = .ok (.goto (-21), 3) := by decide +kernel
theorem dX4_become_30 : decode cX4_become 30 = .ok (.return_, 1) := by decide +kernel
set_option maxRecDepth 20000 in
theorem ggX4_total_X4_letterAt : GoodIn wsX4_total wsX4_letterAt := goodIn_r _ [6, 1, 7, 8, 9] (by decide +kernel) (by decide +kernel)
set_option maxRecDepth 20000 in
theorem gX4_total_X4_letterAt : GoodIn wsX4_total (wsV RX4 29 RX4 yX4_letterAt wsX4_letterAt) := goodIn_app (goodIn_of _ (by decide +kernel)) ggX4_total_X4_letterAt
theorem dX4_total_0 : decode cX4_total 0 = .ok (.iconst 0, 1) := by decide +kernel
theorem dX4_total_1 : decode cX4_total 1 = .ok (.istore_n 1, 1) := by decide +kernel
theorem dX4_total_2 : decode cX4_total 2 = .ok (.iconst 0, 1) := by decide +kernel
theorem dX4_total_3 : decode cX4_total 3 = .ok (.istore_n 2, 1) := by decide +kernel
theorem dX4_total_4 : decode cX4_total 4 = .ok (.iload_n 2, 1) := by decide +kernel
theorem dX4_total_5 : decode cX4_total 5 = .ok (.aload_n 0, 1) := by decide +kernel
theorem dX4_total_6 : decode cX4_total 6 = .ok (.getfield 15, 3) := by decide +kernel
theorem dX4_total_9 : decode cX4_total 9 = .ok (.if_icmp .ge 17, 3) := by decide +kernel
theorem dX4_total_12 : decode cX4_total 12 = .ok (.iload_n 1, 1) := by decide +kernel
theorem dX4_total_13 : decode cX4_total 13 = .ok (.aload_n 0, 1) := by decide +kernel
theorem dX4_total_14 : decode cX4_total 14 = .ok (.iload_n 2, 1) := by decide +kernel
theorem dX4_total_15 : decode cX4_total 15 = .ok (.invokevirtual 29, 3) := by decide +kernel
theorem dX4_total_18 : decode cX4_total 18 = .ok (.iadd, 1) := by decide +kernel
theorem dX4_total_19 : decode cX4_total 19 = .ok (.istore_n 1, 1) := by decide +kernel
theorem dX4_total_20 : decode cX4_total 20 = .ok (.iinc 2 1, 3) := by decide +kernel
theorem dX4_total_23 : decode cX4_total 23 = .ok (.goto (-19), 3) := by decide +kernel
theorem dX4_total_26 : decode cX4_total 26 = .ok (.iload_n 1, 1) := by decide +kernel
theorem dX4_total_27 : decode cX4_total 27 = .ok (.ireturn, 1) := by decide +kernel
set_option maxRecDepth 20000 in
theorem ggX4_greatestLetter_X4_letterAt : GoodIn wsX4_greatestLetter wsX4_letterAt := goodIn_r _ [10, 1, 11, 12, 13] (by decide +kernel) (by decide +kernel)
set_option maxRecDepth 20000 in
theorem gX4_greatestLetter_X4_letterAt : GoodIn wsX4_greatestLetter (wsV RX4 29 RX4 yX4_letterAt wsX4_letterAt) := goodIn_app (goodIn_of _ (by decide +kernel)) ggX4_greatestLetter_X4_letterAt
theorem dX4_greatestLetter_0 : decode cX4_greatestLetter 0 = .ok (.iconst 0, 1) := by decide +kernel
theorem dX4_greatestLetter_1 : decode cX4_greatestLetter 1 = .ok (.istore_n 1, 1) := by decide +kernel
theorem dX4_greatestLetter_2 : decode cX4_greatestLetter 2 = .ok (.iconst 0, 1) := by decide +kernel
theorem dX4_greatestLetter_3 : decode cX4_greatestLetter 3 = .ok (.istore_n 2, 1) := by decide +kernel
theorem dX4_greatestLetter_4 : decode cX4_greatestLetter 4 = .ok (.iload_n 2, 1) := by decide +kernel
theorem dX4_greatestLetter_5 : decode cX4_greatestLetter 5 = .ok (.aload_n 0, 1) := by decide +kernel
theorem dX4_greatestLetter_6 : decode cX4_greatestLetter 6 = .ok (.getfield 15, 3) := by decide +kernel
theorem dX4_greatestLetter_9 : decode cX4_greatestLetter 9 = .ok (.if_icmp .ge 19, 3) := by decide +kernel
theorem dX4_greatestLetter_12 : decode cX4_greatestLetter 12 = .ok (.iload_n 1, 1) := by decide +kernel
theorem dX4_greatestLetter_13 : decode cX4_greatestLetter 13 = .ok (.aload_n 0, 1) := by decide +kernel
theorem dX4_greatestLetter_14 : decode cX4_greatestLetter 14 = .ok (.iload_n 2, 1) := by decide +kernel
theorem dX4_greatestLetter_15 : decode cX4_greatestLetter 15 = .ok (.invokevirtual 29, 3) := by decide +kernel
theorem dX4_greatestLetter_18 : decode cX4_greatestLetter 18 = .ok (.invokestatic 33, 3) := by decide +kernel
theorem dX4_greatestLetter_21 : decode cX4_greatestLetter 21 = .ok (.istore_n 1, 1) := by decide +kernel
theorem dX4_greatestLetter_22 : decode cX4_greatestLetter 22 = .ok (.iinc 2 1, 3) := by decide +kernel
theorem dX4_greatestLetter_25 : decode cX4_greatestLetter 25 = .ok (.goto (-21), 3) := by decide +kernel
theorem dX4_greatestLetter_28 : decode cX4_greatestLetter 28 = .ok (.iload_n 1, 1) := by decide +kernel
theorem dX4_greatestLetter_29 : decode cX4_greatestLetter 29 = .ok (.ireturn, 1) := by decide +kernel
set_option maxRecDepth 20000 in
theorem ggX4_runsInIt_X4_isEndOfRun : GoodIn wsX4_runsInIt wsX4_isEndOfRun := goodIn_r _ [6, 7, 8, 9, 5, 10, 1, 11, 12, 13] (by decide +kernel) (by decide +kernel)
set_option maxRecDepth 20000 in
theorem gX4_runsInIt_X4_isEndOfRun : GoodIn wsX4_runsInIt (wsV RX4 39 RX4 yX4_isEndOfRun wsX4_isEndOfRun) := goodIn_app (goodIn_of _ (by decide +kernel)) ggX4_runsInIt_X4_isEndOfRun
theorem dX4_runsInIt_0 : decode cX4_runsInIt 0 = .ok (.iconst 0, 1) := by decide +kernel
theorem dX4_runsInIt_1 : decode cX4_runsInIt 1 = .ok (.istore_n 1, 1) := by decide +kernel
theorem dX4_runsInIt_2 : decode cX4_runsInIt 2 = .ok (.iconst 0, 1) := by decide +kernel
theorem dX4_runsInIt_3 : decode cX4_runsInIt 3 = .ok (.istore_n 2, 1) := by decide +kernel
theorem dX4_runsInIt_4 : decode cX4_runsInIt 4 = .ok (.iload_n 2, 1) := by decide +kernel
theorem dX4_runsInIt_5 : decode cX4_runsInIt 5 = .ok (.aload_n 0, 1) := by decide +kernel
theorem dX4_runsInIt_6 : decode cX4_runsInIt 6 = .ok (.getfield 15, 3) := by decide +kernel
theorem dX4_runsInIt_9 : decode cX4_runsInIt 9 = .ok (.if_icmp .ge 20, 3) := by decide +kernel
theorem dX4_runsInIt_12 : decode cX4_runsInIt 12 = .ok (.aload_n 0, 1) := by decide +kernel
theorem dX4_runsInIt_13 : decode cX4_runsInIt 13 = .ok (.iload_n 2, 1) := by decide +kernel
theorem dX4_runsInIt_14 : decode cX4_runsInIt 14 = .ok (.invokevirtual 39, 3) := by decide +kernel
theorem dX4_runsInIt_17 : decode cX4_runsInIt 17 = .ok (.ifCond .eq 6, 3) := by decide +kernel
theorem dX4_runsInIt_20 : decode cX4_runsInIt 20 = .ok (.iinc 1 1, 3) := by decide +kernel
theorem dX4_runsInIt_23 : decode cX4_runsInIt 23 = .ok (.iinc 2 1, 3) := by decide +kernel
theorem dX4_runsInIt_26 : decode cX4_runsInIt 26 = .ok (.goto (-22), 3) := by decide +kernel
theorem dX4_runsInIt_29 : decode cX4_runsInIt 29 = .ok (.iload_n 1, 1) := by decide +kernel
theorem dX4_runsInIt_30 : decode cX4_runsInIt 30 = .ok (.ireturn, 1) := by decide +kernel
set_option maxRecDepth 20000 in
theorem ggX4_longestRun_X4_isEndOfRun : GoodIn wsX4_longestRun wsX4_isEndOfRun := goodIn_r _ [10, 11, 12, 13, 9, 14, 1, 15, 16, 17] (by decide +kernel) (by decide +kernel)
set_option maxRecDepth 20000 in
theorem gX4_longestRun_X4_isEndOfRun : GoodIn wsX4_longestRun (wsV RX4 39 RX4 yX4_isEndOfRun wsX4_isEndOfRun) := goodIn_app (goodIn_of _ (by decide +kernel)) ggX4_longestRun_X4_isEndOfRun
theorem dX4_longestRun_0 : decode cX4_longestRun 0 = .ok (.iconst 0, 1) := by decide +kernel
theorem dX4_longestRun_1 : decode cX4_longestRun 1 = .ok (.istore_n 1, 1) := by decide +kernel
theorem dX4_longestRun_2 : decode cX4_longestRun 2 = .ok (.iconst 0, 1) := by decide +kernel
theorem dX4_longestRun_3 : decode cX4_longestRun 3 = .ok (.istore_n 2, 1) := by decide +kernel
theorem dX4_longestRun_4 : decode cX4_longestRun 4 = .ok (.iconst 0, 1) := by decide +kernel
theorem dX4_longestRun_5 : decode cX4_longestRun 5 = .ok (.istore_n 3, 1) := by decide +kernel
theorem dX4_longestRun_6 : decode cX4_longestRun 6 = .ok (.iload_n 3, 1) := by decide +kernel
theorem dX4_longestRun_7 : decode cX4_longestRun 7 = .ok (.aload_n 0, 1) := by decide +kernel
theorem dX4_longestRun_8 : decode cX4_longestRun 8 = .ok (.getfield 15, 3) := by decide +kernel
theorem dX4_longestRun_11 : decode cX4_longestRun 11 = .ok (.if_icmp .ge 28, 3) := by decide +kernel
theorem dX4_longestRun_14 : decode cX4_longestRun 14 = .ok (.iinc 2 1, 3) := by decide +kernel
theorem dX4_longestRun_17 : decode cX4_longestRun 17 = .ok (.iload_n 1, 1) := by decide +kernel
theorem dX4_longestRun_18 : decode cX4_longestRun 18 = .ok (.iload_n 2, 1) := by decide +kernel
theorem dX4_longestRun_19 : decode cX4_longestRun 19 = .ok (.invokestatic 33, 3) := by decide +kernel
theorem dX4_longestRun_22 : decode cX4_longestRun 22 = .ok (.istore_n 1, 1) := by decide +kernel
theorem dX4_longestRun_23 : decode cX4_longestRun 23 = .ok (.aload_n 0, 1) := by decide +kernel
theorem dX4_longestRun_24 : decode cX4_longestRun 24 = .ok (.iload_n 3, 1) := by decide +kernel
theorem dX4_longestRun_25 : decode cX4_longestRun 25 = .ok (.invokevirtual 39, 3) := by decide +kernel
theorem dX4_longestRun_28 : decode cX4_longestRun 28 = .ok (.ifCond .eq 5, 3) := by decide +kernel
theorem dX4_longestRun_31 : decode cX4_longestRun 31 = .ok (.iconst 0, 1) := by decide +kernel
theorem dX4_longestRun_32 : decode cX4_longestRun 32 = .ok (.istore_n 2, 1) := by decide +kernel
theorem dX4_longestRun_33 : decode cX4_longestRun 33 = .ok (.iinc 3 1, 3) := by decide +kernel
theorem dX4_longestRun_36 : decode cX4_longestRun 36 = .ok (.goto (-30), 3) := by decide +kernel
theorem dX4_longestRun_39 : decode cX4_longestRun 39 = .ok (.iload_n 1, 1) := by decide +kernel
theorem dX4_longestRun_40 : decode cX4_longestRun 40 = .ok (.ireturn, 1) := by decide +kernel
set_option maxRecDepth 20000 in
theorem ggX4_isEndOfRun_X4_letterAt : GoodIn wsX4_isEndOfRun wsX4_letterAt := goodIn_r _ [5, 6, 7, 8, 9] (by decide +kernel) (by decide +kernel)
set_option maxRecDepth 20000 in
theorem gX4_isEndOfRun_X4_letterAt : GoodIn wsX4_isEndOfRun (wsV RX4 29 RX4 yX4_letterAt wsX4_letterAt) := goodIn_app (goodIn_of _ (by decide +kernel)) ggX4_isEndOfRun_X4_letterAt
theorem dX4_isEndOfRun_0 : decode cX4_isEndOfRun 0 = .ok (.aload_n 0, 1) := by decide +kernel
theorem dX4_isEndOfRun_1 : decode cX4_isEndOfRun 1 = .ok (.iload_n 1, 1) := by decide +kernel
theorem dX4_isEndOfRun_2 : decode cX4_isEndOfRun 2 = .ok (.invokevirtual 29, 3) := by decide +kernel
theorem dX4_isEndOfRun_5 : decode cX4_isEndOfRun 5 = .ok (.aload_n 0, 1) := by decide +kernel
theorem dX4_isEndOfRun_6 : decode cX4_isEndOfRun 6 = .ok (.iload_n 1, 1) := by decide +kernel
theorem dX4_isEndOfRun_7 : decode cX4_isEndOfRun 7 = .ok (.iconst 1, 1) := by decide +kernel
theorem dX4_isEndOfRun_8 : decode cX4_isEndOfRun 8 = .ok (.iadd, 1) := by decide +kernel
theorem dX4_isEndOfRun_9 : decode cX4_isEndOfRun 9 = .ok (.invokevirtual 29, 3) := by decide +kernel
theorem dX4_isEndOfRun_12 : decode cX4_isEndOfRun 12 = .ok (.if_icmp .eq 7, 3) := by decide +kernel
theorem dX4_isEndOfRun_15 : decode cX4_isEndOfRun 15 = .ok (.iconst 1, 1) := by decide +kernel
theorem dX4_isEndOfRun_16 : decode cX4_isEndOfRun 16 = .ok (.goto 4, 3) := by decide +kernel
theorem dX4_isEndOfRun_19 : decode cX4_isEndOfRun 19 = .ok (.iconst 0, 1) := by decide +kernel
theorem dX4_isEndOfRun_20 : decode cX4_isEndOfRun 20 = .ok (.ireturn, 1) := by decide +kernel
set_option maxRecDepth 20000 in
theorem ggX4_becomeShorter_X4_isEndOfRun : GoodIn wsX4_becomeShorter wsX4_isEndOfRun := goodIn_r _ [6, 7, 8, 9, 5, 10, 1, 11, 16, 17] (by decide +kernel) (by decide +kernel)
set_option maxRecDepth 20000 in
theorem gX4_becomeShorter_X4_isEndOfRun : GoodIn wsX4_becomeShorter (wsV RX4 39 RX4 yX4_isEndOfRun wsX4_isEndOfRun) := goodIn_app (goodIn_of _ (by decide +kernel)) ggX4_becomeShorter_X4_isEndOfRun
set_option maxRecDepth 20000 in
theorem ggX4_becomeShorter_X4_change : GoodIn wsX4_becomeShorter wsX4_change := goodIn_r _ [15, 11, 16, 17] (by decide +kernel) (by decide +kernel)
set_option maxRecDepth 20000 in
theorem gX4_becomeShorter_X4_change : GoodIn wsX4_becomeShorter (wsV RX4 42 RX4 yX4_change wsX4_change) := goodIn_app (goodIn_of _ (by decide +kernel)) ggX4_becomeShorter_X4_change
theorem dX4_becomeShorter_0 : decode cX4_becomeShorter 0 = .ok (.aload_n 0, 1) := by decide +kernel
theorem dX4_becomeShorter_1 : decode cX4_becomeShorter 1 = .ok (.getfield 15, 3) := by decide +kernel
theorem dX4_becomeShorter_4 : decode cX4_becomeShorter 4 = .ok (.istore_n 2, 1) := by decide +kernel
theorem dX4_becomeShorter_5 : decode cX4_becomeShorter 5 = .ok (.iconst 0, 1) := by decide +kernel
theorem dX4_becomeShorter_6 : decode cX4_becomeShorter 6 = .ok (.istore_n 3, 1) := by decide +kernel
theorem dX4_becomeShorter_7 : decode cX4_becomeShorter 7 = .ok (.iconst 0, 1) := by decide +kernel
theorem dX4_becomeShorter_8 : decode cX4_becomeShorter 8 = .ok (.istore 4, 2) := by decide +kernel
theorem dX4_becomeShorter_10 : decode cX4_becomeShorter 10 = .ok (.iconst 0, 1) := by decide +kernel
theorem dX4_becomeShorter_11 : decode cX4_becomeShorter 11 = .ok (.istore 5, 2) := by decide +kernel
theorem dX4_becomeShorter_13 : decode cX4_becomeShorter 13 = .ok (.iload 5, 2) := by decide +kernel
theorem dX4_becomeShorter_15 : decode cX4_becomeShorter 15 = .ok (.iload_n 2, 1) := by decide +kernel
theorem dX4_becomeShorter_16 : decode cX4_becomeShorter 16 = .ok (.if_icmp .ge 72, 3) := by decide +kernel
theorem dX4_becomeShorter_19 : decode cX4_becomeShorter 19 = .ok (.iinc 4 1, 3) := by decide +kernel
theorem dX4_becomeShorter_22 : decode cX4_becomeShorter 22 = .ok (.aload_n 0, 1) := by decide +kernel
theorem dX4_becomeShorter_23 : decode cX4_becomeShorter 23 = .ok (.iload 5, 2) := by decide +kernel
theorem dX4_becomeShorter_25 : decode cX4_becomeShorter 25 = .ok (.invokevirtual 39, 3) := by decide +kernel
theorem dX4_becomeShorter_28 : decode cX4_becomeShorter 28 = .ok (.ifCond .ne 6, 3) := by decide +kernel
theorem dX4_becomeShorter_31 : decode cX4_becomeShorter 31 = .ok (.goto 51, 3) := by decide +kernel
theorem dX4_becomeShorter_34 : decode cX4_becomeShorter 34 = .ok (.iload 4, 2) := by decide +kernel
theorem dX4_becomeShorter_36 : decode cX4_becomeShorter 36 = .ok (.iload 5, 2) := by decide +kernel
theorem dX4_becomeShorter_38 : decode cX4_becomeShorter 38 = .ok (.iconst 1, 1) := by decide +kernel
theorem dX4_becomeShorter_39 : decode cX4_becomeShorter 39 = .ok (.iadd, 1) := by decide +kernel
theorem dX4_becomeShorter_40 : decode cX4_becomeShorter 40 = .ok (.if_icmp .eq 11, 3) := by decide +kernel
theorem dX4_becomeShorter_43 : decode cX4_becomeShorter 43 = .ok (.iload 5, 2) := by decide +kernel
theorem dX4_becomeShorter_45 : decode cX4_becomeShorter 45 = .ok (.iconst 1, 1) := by decide +kernel
theorem dX4_becomeShorter_46 : decode cX4_becomeShorter 46 = .ok (.iadd, 1) := by decide +kernel
theorem dX4_becomeShorter_47 : decode cX4_becomeShorter 47 = .ok (.iload_n 2, 1) := by decide +kernel
theorem dX4_becomeShorter_48 : decode cX4_becomeShorter 48 = .ok (.if_icmp .ne 7, 3) := by decide +kernel
theorem dX4_becomeShorter_51 : decode cX4_becomeShorter 51 = .ok (.iconst 1, 1) := by decide +kernel
theorem dX4_becomeShorter_52 : decode cX4_becomeShorter 52 = .ok (.goto 4, 3) := by decide +kernel
theorem dX4_becomeShorter_55 : decode cX4_becomeShorter 55 = .ok (.iconst 0, 1) := by decide +kernel
theorem dX4_becomeShorter_56 : decode cX4_becomeShorter 56 = .ok (.istore 6, 2) := by decide +kernel
theorem dX4_becomeShorter_58 : decode cX4_becomeShorter 58 = .ok (.iload 4, 2) := by decide +kernel
theorem dX4_becomeShorter_60 : decode cX4_becomeShorter 60 = .ok (.iload_n 1, 1) := by decide +kernel
theorem dX4_becomeShorter_61 : decode cX4_becomeShorter 61 = .ok (.if_icmp .ge 8, 3) := by decide +kernel
theorem dX4_becomeShorter_64 : decode cX4_becomeShorter 64 = .ok (.iload 6, 2) := by decide +kernel
theorem dX4_becomeShorter_66 : decode cX4_becomeShorter 66 = .ok (.ifCond .ne 13, 3) := by decide +kernel
theorem dX4_becomeShorter_69 : decode cX4_becomeShorter 69 = .ok (.aload_n 0, 1) := by decide +kernel
theorem dX4_becomeShorter_70 : decode cX4_becomeShorter 70 = .ok (.iload_n 3, 1) := by decide +kernel
theorem dX4_becomeShorter_71 : decode cX4_becomeShorter 71 = .ok (.iload 4, 2) := by decide +kernel
theorem dX4_becomeShorter_73 : decode cX4_becomeShorter 73 = .ok (.invokevirtual 42, 3) := by decide +kernel
theorem dX4_becomeShorter_76 : decode cX4_becomeShorter 76 = .ok (.iinc 3 1, 3) := by decide +kernel
theorem dX4_becomeShorter_79 : decode cX4_becomeShorter 79 = .ok (.iconst 0, 1) := by decide +kernel
theorem dX4_becomeShorter_80 : decode cX4_becomeShorter 80 = .ok (.istore 4, 2) := by decide +kernel
theorem dX4_becomeShorter_82 : decode cX4_becomeShorter 82 = .ok (.iinc 5 1, 3) := by decide +kernel
theorem dX4_becomeShorter_85 : decode cX4_becomeShorter 85 = .ok (.goto (-72), 3) := by decide +kernel
theorem dX4_becomeShorter_88 : decode cX4_becomeShorter 88 = .ok (.aload_n 0, 1) := by decide +kernel
theorem dX4_becomeShorter_89 : decode cX4_becomeShorter 89 = .ok (.iload_n 3, 1) := by decide +kernel
theorem dX4_becomeShorter_90 : decode cX4_becomeShorter 90 = .ok (.putfield 15, 3) := by decide +kernel
theorem dX4_becomeShorter_93 : decode cX4_becomeShorter 93 = .ok (.return_, 1) := by decide +kernel
