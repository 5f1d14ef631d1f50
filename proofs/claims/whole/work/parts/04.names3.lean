theorem dX4_change_0 : decode cX4_change 0 = .ok (.iload_n 1, 1) := by decide +kernel
theorem dX4_change_1 : decode cX4_change 1 = .ok (.ifCond .lt 19, 3) := by decide +kernel
theorem dX4_change_4 : decode cX4_change 4 = .ok (.iload_n 1, 1) := by decide +kernel
theorem dX4_change_5 : decode cX4_change 5 = .ok (.aload_n 0, 1) := by decide +kernel
theorem dX4_change_6 : decode cX4_change 6 = .ok (.getfield 9, 3) := by decide +kernel
theorem dX4_change_9 : decode cX4_change 9 = .ok (.arraylength, 1) := by decide +kernel
theorem dX4_change_10 : decode cX4_change 10 = .ok (.if_icmp .ge 10, 3) := by decide +kernel
theorem dX4_change_13 : decode cX4_change 13 = .ok (.aload_n 0, 1) := by decide +kernel
theorem dX4_change_14 : decode cX4_change 14 = .ok (.getfield 9, 3) := by decide +kernel
theorem dX4_change_17 : decode cX4_change 17 = .ok (.iload_n 1, 1) := by decide +kernel
theorem dX4_change_18 : decode cX4_change 18 = .ok (.iload_n 2, 1) := by decide +kernel
theorem dX4_change_19 : decode cX4_change 19 = .ok (.iastore, 1) := by decide +kernel
theorem dX4_change_20 : decode cX4_change 20 = .ok (.return_, 1) := by decide +kernel
set_option maxRecDepth 20000 in
theorem ggX4_turnRound_X4_letterAt : GoodIn wsX4_turnRound wsX4_letterAt := goodIn_r _ [6, 1, 7, 12, 13] (by decide +kernel) (by decide +kernel)
set_option maxRecDepth 20000 in
theorem gX4_turnRound_X4_letterAt : GoodIn wsX4_turnRound (wsV RX4 29 RX4 yX4_letterAt wsX4_letterAt) := goodIn_app (goodIn_of _ (by decide +kernel)) ggX4_turnRound_X4_letterAt
set_option maxRecDepth 20000 in
theorem ggX4_turnRound_X4_change : GoodIn wsX4_turnRound wsX4_change := goodIn_r _ [11, 7, 12, 13] (by decide +kernel) (by decide +kernel)
set_option maxRecDepth 20000 in
theorem gX4_turnRound_X4_change : GoodIn wsX4_turnRound (wsV RX4 42 RX4 yX4_change wsX4_change) := goodIn_app (goodIn_of _ (by decide +kernel)) ggX4_turnRound_X4_change
theorem dX4_turnRound_0 : decode cX4_turnRound 0 = .ok (.iconst 0, 1) := by decide +kernel
theorem dX4_turnRound_1 : decode cX4_turnRound 1 = .ok (.istore_n 1, 1) := by decide +kernel
theorem dX4_turnRound_2 : decode cX4_turnRound 2 = .ok (.aload_n 0, 1) := by decide +kernel
theorem dX4_turnRound_3 : decode cX4_turnRound 3 = .ok (.getfield 15, 3) := by decide +kernel
theorem dX4_turnRound_6 : decode cX4_turnRound 6 = .ok (.iconst 1, 1) := by decide +kernel
theorem dX4_turnRound_7 : decode cX4_turnRound 7 = .ok (.isub, 1) := by decide +kernel
theorem dX4_turnRound_8 : decode cX4_turnRound 8 = .ok (.istore_n 2, 1) := by decide +kernel
theorem dX4_turnRound_9 : decode cX4_turnRound 9 = .ok (.iload_n 1, 1) := by decide +kernel
theorem dX4_turnRound_10 : decode cX4_turnRound 10 = .ok (.iload_n 2, 1) := by decide +kernel
theorem dX4_turnRound_11 : decode cX4_turnRound 11 = .ok (.if_icmp .ge 34, 3) := by decide +kernel
theorem dX4_turnRound_14 : decode cX4_turnRound 14 = .ok (.aload_n 0, 1) := by decide +kernel
theorem dX4_turnRound_15 : decode cX4_turnRound 15 = .ok (.iload_n 1, 1) := by decide +kernel
theorem dX4_turnRound_16 : decode cX4_turnRound 16 = .ok (.invokevirtual 29, 3) := by decide +kernel
theorem dX4_turnRound_19 : decode cX4_turnRound 19 = .ok (.istore_n 3, 1) := by decide +kernel
theorem dX4_turnRound_20 : decode cX4_turnRound 20 = .ok (.aload_n 0, 1) := by decide +kernel
theorem dX4_turnRound_21 : decode cX4_turnRound 21 = .ok (.iload_n 1, 1) := by decide +kernel
theorem dX4_turnRound_22 : decode cX4_turnRound 22 = .ok (.aload_n 0, 1) := by decide +kernel
theorem dX4_turnRound_23 : decode cX4_turnRound 23 = .ok (.iload_n 2, 1) := by decide +kernel
theorem dX4_turnRound_24 : decode cX4_turnRound 24 = .ok (.invokevirtual 29, 3) := by decide +kernel
theorem dX4_turnRound_27 : decode cX4_turnRound 27 = .ok (.invokevirtual 42, 3) := by decide +kernel
theorem dX4_turnRound_30 : decode cX4_turnRound 30 = .ok (.aload_n 0, 1) := by decide +kernel
theorem dX4_turnRound_31 : decode cX4_turnRound 31 = .ok (.iload_n 2, 1) := by decide +kernel
theorem dX4_turnRound_32 : decode cX4_turnRound 32 = .ok (.iload_n 3, 1) := by decide +kernel
theorem dX4_turnRound_33 : decode cX4_turnRound 33 = .ok (.invokevirtual 42, 3) := by decide +kernel
theorem dX4_turnRound_36 : decode cX4_turnRound 36 = .ok (.iinc 1 1, 3) := by decide +kernel
theorem dX4_turnRound_39 : decode cX4_turnRound 39 = .ok (.iinc 2 (-1), 3) := by decide +kernel
theorem dX4_turnRound_42 : decode cX4_turnRound 42 = .ok (.goto (-33), 3) := by decide +kernel
theorem dX4_turnRound_45 : decode cX4_turnRound 45 = .ok (.return_, 1) := by decide +kernel
set_option maxRecDepth 20000 in
theorem ggX4_replaceBy_X4_letterAt : GoodIn wsX4_replaceBy wsX4_letterAt := goodIn_r _ [6, 1, 7, 23, 24] (by decide +kernel) (by decide +kernel)
set_option maxRecDepth 20000 in
theorem gX4_replaceBy_X4_letterAt : GoodIn wsX4_replaceBy (wsV RX4 29 RX4 yX4_letterAt wsX4_letterAt) := goodIn_app (goodIn_of _ (by decide +kernel)) ggX4_replaceBy_X4_letterAt
set_option maxRecDepth 20000 in
theorem ggX4_replaceBy_X0_letterBehind : GoodIn wsX4_replaceBy wsX0_letterBehind := goodIn_r _ [12, 13, 14, 15, 16, 11, 17, 18, 25, 26] (by decide +kernel) (by decide +kernel)
set_option maxRecDepth 20000 in
theorem gX4_replaceBy_X0_letterBehind : GoodIn wsX4_replaceBy (wsV RX4 46 RX0 yX0_letterBehind wsX0_letterBehind) := goodIn_app (goodIn_of _ (by decide +kernel)) ggX4_replaceBy_X0_letterBehind
set_option maxRecDepth 20000 in
theorem ggX4_replaceBy_X4_change : GoodIn wsX4_replaceBy wsX4_change := goodIn_r _ [22, 7, 23, 24] (by decide +kernel) (by decide +kernel)
set_option maxRecDepth 20000 in
theorem gX4_replaceBy_X4_change : GoodIn wsX4_replaceBy (wsV RX4 42 RX4 yX4_change wsX4_change) := goodIn_app (goodIn_of _ (by decide +kernel)) ggX4_replaceBy_X4_change
theorem dX4_replaceBy_0 : decode cX4_replaceBy 0 = .ok (.iconst 0, 1) := by decide +kernel
theorem dX4_replaceBy_1 : decode cX4_replaceBy 1 = .ok (.istore_n 2, 1) := by decide +kernel
theorem dX4_replaceBy_2 : decode cX4_replaceBy 2 = .ok (.iconst 0, 1) := by decide +kernel
theorem dX4_replaceBy_3 : decode cX4_replaceBy 3 = .ok (.istore_n 3, 1) := by decide +kernel
theorem dX4_replaceBy_4 : decode cX4_replaceBy 4 = .ok (.iload_n 3, 1) := by decide +kernel
theorem dX4_replaceBy_5 : decode cX4_replaceBy 5 = .ok (.aload_n 0, 1) := by decide +kernel
theorem dX4_replaceBy_6 : decode cX4_replaceBy 6 = .ok (.getfield 15, 3) := by decide +kernel
theorem dX4_replaceBy_9 : decode cX4_replaceBy 9 = .ok (.if_icmp .ge 49, 3) := by decide +kernel
theorem dX4_replaceBy_12 : decode cX4_replaceBy 12 = .ok (.aload_n 1, 1) := by decide +kernel
theorem dX4_replaceBy_13 : decode cX4_replaceBy 13 = .ok (.aload_n 0, 1) := by decide +kernel
theorem dX4_replaceBy_14 : decode cX4_replaceBy 14 = .ok (.iload_n 3, 1) := by decide +kernel
theorem dX4_replaceBy_15 : decode cX4_replaceBy 15 = .ok (.invokevirtual 29, 3) := by decide +kernel
theorem dX4_replaceBy_18 : decode cX4_replaceBy 18 = .ok (.invokevirtual 46, 3) := by decide +kernel
theorem dX4_replaceBy_21 : decode cX4_replaceBy 21 = .ok (.istore 4, 2) := by decide +kernel
theorem dX4_replaceBy_23 : decode cX4_replaceBy 23 = .ok (.iload 4, 2) := by decide +kernel
theorem dX4_replaceBy_25 : decode cX4_replaceBy 25 = .ok (.iconst (-1), 1) := by decide +kernel
theorem dX4_replaceBy_26 : decode cX4_replaceBy 26 = .ok (.if_icmp .eq 26, 3) := by decide +kernel
theorem dX4_replaceBy_29 : decode cX4_replaceBy 29 = .ok (.iload 4, 2) := by decide +kernel
theorem dX4_replaceBy_31 : decode cX4_replaceBy 31 = .ok (.aload_n 0, 1) := by decide +kernel
theorem dX4_replaceBy_32 : decode cX4_replaceBy 32 = .ok (.iload_n 3, 1) := by decide +kernel
theorem dX4_replaceBy_33 : decode cX4_replaceBy 33 = .ok (.invokevirtual 29, 3) := by decide +kernel
theorem dX4_replaceBy_36 : decode cX4_replaceBy 36 = .ok (.if_icmp .ne 6, 3) := by decide +kernel
theorem dX4_replaceBy_39 : decode cX4_replaceBy 39 = .ok (.goto 13, 3) := by decide +kernel
theorem dX4_replaceBy_42 : decode cX4_replaceBy 42 = .ok (.aload_n 0, 1) := by decide +kernel
theorem dX4_replaceBy_43 : decode cX4_replaceBy 43 = .ok (.iload_n 3, 1) := by decide +kernel
theorem dX4_replaceBy_44 : decode cX4_replaceBy 44 = .ok (.iload 4, 2) := by decide +kernel
theorem dX4_replaceBy_46 : decode cX4_replaceBy 46 = .ok (.invokevirtual 42, 3) := by decide +kernel
theorem dX4_replaceBy_49 : decode cX4_replaceBy 49 = .ok (.iinc 2 1, 3) := by decide +kernel
theorem dX4_replaceBy_52 : decode cX4_replaceBy 52 = .ok (.iinc 3 1, 3) := by decide +kernel
theorem dX4_replaceBy_55 : decode cX4_replaceBy 55 = .ok (.goto (-51), 3) := by decide +kernel
theorem dX4_replaceBy_58 : decode cX4_replaceBy 58 = .ok (.iload_n 2, 1) := by decide +kernel
theorem dX4_replaceBy_59 : decode cX4_replaceBy 59 = .ok (.ireturn, 1) := by decide +kernel
set_option maxRecDepth 20000 in
theorem ggX4_isSameMirrored_X4_letterAt : GoodIn wsX4_isSameMirrored wsX4_letterAt := goodIn_r _ [6, 1, 7, 8, 9] (by decide +kernel) (by decide +kernel)
set_option maxRecDepth 20000 in
theorem gX4_isSameMirrored_X4_letterAt : GoodIn wsX4_isSameMirrored (wsV RX4 29 RX4 yX4_letterAt wsX4_letterAt) := goodIn_app (goodIn_of _ (by decide +kernel)) ggX4_isSameMirrored_X4_letterAt
theorem dX4_isSameMirrored_0 : decode cX4_isSameMirrored 0 = .ok (.iconst 0, 1) := by decide +kernel
theorem dX4_isSameMirrored_1 : decode cX4_isSameMirrored 1 = .ok (.istore_n 1, 1) := by decide +kernel
theorem dX4_isSameMirrored_2 : decode cX4_isSameMirrored 2 = .ok (.aload_n 0, 1) := by decide +kernel
theorem dX4_isSameMirrored_3 : decode cX4_isSameMirrored 3 = .ok (.getfield 15, 3) := by decide +kernel
theorem dX4_isSameMirrored_6 : decode cX4_isSameMirrored 6 = .ok (.iconst 1, 1) := by decide +kernel
theorem dX4_isSameMirrored_7 : decode cX4_isSameMirrored 7 = .ok (.isub, 1) := by decide +kernel
theorem dX4_isSameMirrored_8 : decode cX4_isSameMirrored 8 = .ok (.istore_n 2, 1) := by decide +kernel
theorem dX4_isSameMirrored_9 : decode cX4_isSameMirrored 9 = .ok (.iload_n 1, 1) := by decide +kernel
theorem dX4_isSameMirrored_10 : decode cX4_isSameMirrored 10 = .ok (.iload_n 2, 1) := by decide +kernel
theorem dX4_isSameMirrored_11 : decode cX4_isSameMirrored 11 = .ok (.if_icmp .ge 27, 3) := by decide +kernel
theorem dX4_isSameMirrored_14 : decode cX4_isSameMirrored 14 = .ok (.aload_n 0, 1) := by decide +kernel
theorem dX4_isSameMirrored_15 : decode cX4_isSameMirrored 15 = .ok (.iload_n 1, 1) := by decide +kernel
theorem dX4_isSameMirrored_16 : decode cX4_isSameMirrored 16 = .ok (.invokevirtual 29, 3) := by decide +kernel
theorem dX4_isSameMirrored_19 : decode cX4_isSameMirrored 19 = .ok (.aload_n 0, 1) := by decide +kernel
theorem dX4_isSameMirrored_20 : decode cX4_isSameMirrored 20 = .ok (.iload_n 2, 1) := by decide +kernel
theorem dX4_isSameMirrored_21 : decode cX4_isSameMirrored 21 = .ok (.invokevirtual 29, 3) := by decide +kernel
theorem dX4_isSameMirrored_24 : decode cX4_isSameMirrored 24 = .ok (.if_icmp .eq 5, 3) := by decide +kernel
theorem dX4_isSameMirrored_27 : decode cX4_isSameMirrored 27 = .ok (.iconst 0, 1) := by decide +kernel
theorem dX4_isSameMirrored_28 : decode cX4_isSameMirrored 28 = .ok (.ireturn, 1) := by decide +kernel
theorem dX4_isSameMirrored_29 : decode cX4_isSameMirrored 29 = .ok (.iinc 1 1, 3) := by decide +kernel
theorem dX4_isSameMirrored_32 : decode cX4_isSameMirrored 32 = .ok (.iinc 2 (-1), 3) := by decide +kernel
theorem dX4_isSameMirrored_35 : decode cX4_isSameMirrored 35 = .ok (.goto (-26), 3) := by decide +kernel
theorem dX4_isSameMirrored_38 : decode cX4_isSameMirrored 38 = .ok (.iconst 1, 1) := by decide +kernel
theorem dX4_isSameMirrored_39 : decode cX4_isSameMirrored 39 = .ok (.ireturn, 1) := by decide +kernel
set_option maxRecDepth 20000 in
theorem ggX4_leastTwice_X4_hasTwice : GoodIn wsX4_leastTwice wsX4_hasTwice := goodIn_r _ [6, 1, 7, 8, 9, 5, 10, 11, 12, 13] (by decide +kernel) (by decide +kernel)
set_option maxRecDepth 20000 in
theorem gX4_leastTwice_X4_hasTwice : GoodIn wsX4_leastTwice (wsV RX4 51 RX4 yX4_hasTwice wsX4_hasTwice) := goodIn_app (goodIn_of _ (by decide +kernel)) ggX4_leastTwice_X4_hasTwice
theorem dX4_leastTwice_0 : decode cX4_leastTwice 0 = .ok (.iconst 1, 1) := by decide +kernel
theorem dX4_leastTwice_1 : decode cX4_leastTwice 1 = .ok (.istore_n 1, 1) := by decide +kernel
theorem dX4_leastTwice_2 : decode cX4_leastTwice 2 = .ok (.iload_n 1, 1) := by decide +kernel
theorem dX4_leastTwice_3 : decode cX4_leastTwice 3 = .ok (.aload_n 0, 1) := by decide +kernel
theorem dX4_leastTwice_4 : decode cX4_leastTwice 4 = .ok (.getfield 15, 3) := by decide +kernel
theorem dX4_leastTwice_7 : decode cX4_leastTwice 7 = .ok (.iconst 2, 1) := by decide +kernel
theorem dX4_leastTwice_8 : decode cX4_leastTwice 8 = .ok (.idiv, 1) := by decide +kernel
theorem dX4_leastTwice_9 : decode cX4_leastTwice 9 = .ok (.if_icmp .gt 19, 3) := by decide +kernel
theorem dX4_leastTwice_12 : decode cX4_leastTwice 12 = .ok (.aload_n 0, 1) := by decide +kernel
theorem dX4_leastTwice_13 : decode cX4_leastTwice 13 = .ok (.iload_n 1, 1) := by decide +kernel
theorem dX4_leastTwice_14 : decode cX4_leastTwice 14 = .ok (.invokevirtual 51, 3) := by decide +kernel
theorem dX4_leastTwice_17 : decode cX4_leastTwice 17 = .ok (.ifCond .eq 5, 3) := by decide +kernel
theorem dX4_leastTwice_20 : decode cX4_leastTwice 20 = .ok (.iload_n 1, 1) := by decide +kernel
theorem dX4_leastTwice_21 : decode cX4_leastTwice 21 = .ok (.ireturn, 1) := by decide +kernel
theorem dX4_leastTwice_22 : decode cX4_leastTwice 22 = .ok (.iinc 1 1, 3) := by decide +kernel
theorem dX4_leastTwice_25 : decode cX4_leastTwice 25 = .ok (.goto (-23), 3) := by decide +kernel
theorem dX4_leastTwice_28 : decode cX4_leastTwice 28 = .ok (.iconst 0, 1) := by decide +kernel
theorem dX4_leastTwice_29 : decode cX4_leastTwice 29 = .ok (.ireturn, 1) := by decide +kernel
set_option maxRecDepth 20000 in
theorem ggX4_hasTwice_X4_letterAt : GoodIn wsX4_hasTwice wsX4_letterAt := goodIn_r _ [6, 1, 7, 8, 9] (by decide +kernel) (by decide +kernel)
set_option maxRecDepth 20000 in
theorem gX4_hasTwice_X4_letterAt : GoodIn wsX4_hasTwice (wsV RX4 29 RX4 yX4_letterAt wsX4_letterAt) := goodIn_app (goodIn_of _ (by decide +kernel)) ggX4_hasTwice_X4_letterAt
theorem dX4_hasTwice_0 : decode cX4_hasTwice 0 = .ok (.iconst 0, 1) := by decide +kernel
theorem dX4_hasTwice_1 : decode cX4_hasTwice 1 = .ok (.istore_n 2, 1) := by decide +kernel
theorem dX4_hasTwice_2 : decode cX4_hasTwice 2 = .ok (.iconst 0, 1) := by decide +kernel
theorem dX4_hasTwice_3 : decode cX4_hasTwice 3 = .ok (.istore_n 3, 1) := by decide +kernel
theorem dX4_hasTwice_4 : decode cX4_hasTwice 4 = .ok (.iload_n 3, 1) := by decide +kernel
theorem dX4_hasTwice_5 : decode cX4_hasTwice 5 = .ok (.iload_n 1, 1) := by decide +kernel
theorem dX4_hasTwice_6 : decode cX4_hasTwice 6 = .ok (.iadd, 1) := by decide +kernel
theorem dX4_hasTwice_7 : decode cX4_hasTwice 7 = .ok (.aload_n 0, 1) := by decide +kernel
theorem dX4_hasTwice_8 : decode cX4_hasTwice 8 = .ok (.getfield 15, 3) := by decide +kernel
theorem dX4_hasTwice_11 : decode cX4_hasTwice 11 = .ok (.if_icmp .ge 39, 3) := by decide +kernel
theorem dX4_hasTwice_14 : decode cX4_hasTwice 14 = .ok (.aload_n 0, 1) := by decide +kernel
theorem dX4_hasTwice_15 : decode cX4_hasTwice 15 = .ok (.iload_n 3, 1) := by decide +kernel
theorem dX4_hasTwice_16 : decode cX4_hasTwice 16 = .ok (.invokevirtual 29, 3) := by decide +kernel
theorem dX4_hasTwice_19 : decode cX4_hasTwice 19 = .ok (.aload_n 0, 1) := by decide +kernel
theorem dX4_hasTwice_20 : decode cX4_hasTwice 20 = .ok (.iload_n 3, 1) := by decide +kernel
theorem dX4_hasTwice_21 : decode cX4_hasTwice 21 = .ok (.iload_n 1, 1) := by decide +kernel
theorem dX4_hasTwice_22 : decode cX4_hasTwice 22 = .ok (.iadd, 1) := by decide +kernel
theorem dX4_hasTwice_23 : decode cX4_hasTwice 23 = .ok (.invokevirtual 29, 3) := by decide +kernel
theorem dX4_hasTwice_26 : decode cX4_hasTwice 26 = .ok (.if_icmp .ne 9, 3) := by decide +kernel
theorem dX4_hasTwice_29 : decode cX4_hasTwice 29 = .ok (.iload_n 2, 1) := by decide +kernel
theorem dX4_hasTwice_30 : decode cX4_hasTwice 30 = .ok (.iconst 1, 1) := by decide +kernel
theorem dX4_hasTwice_31 : decode cX4_hasTwice 31 = .ok (.iadd, 1) := by decide +kernel
theorem dX4_hasTwice_32 : decode cX4_hasTwice 32 = .ok (.goto 4, 3) := by decide +kernel
theorem dX4_hasTwice_35 : decode cX4_hasTwice 35 = .ok (.iconst 0, 1) := by decide +kernel
theorem dX4_hasTwice_36 : decode cX4_hasTwice 36 = .ok (.istore_n 2, 1) := by decide +kernel
theorem dX4_hasTwice_37 : decode cX4_hasTwice 37 = .ok (.iload_n 2, 1) := by decide +kernel
theorem dX4_hasTwice_38 : decode cX4_hasTwice 38 = .ok (.iload_n 1, 1) := by decide +kernel
theorem dX4_hasTwice_39 : decode cX4_hasTwice 39 = .ok (.if_icmp .ne 5, 3) := by decide +kernel
theorem dX4_hasTwice_42 : decode cX4_hasTwice 42 = .ok (.iconst 1, 1) := by decide +kernel
theorem dX4_hasTwice_43 : decode cX4_hasTwice 43 = .ok (.ireturn, 1) := by decide +kernel
theorem dX4_hasTwice_44 : decode cX4_hasTwice 44 = .ok (.iinc 3 1, 3) := by decide +kernel
theorem dX4_hasTwice_47 : decode cX4_hasTwice 47 = .ok (.goto (-43), 3) := by decide +kernel
theorem dX4_hasTwice_50 : decode cX4_hasTwice 50 = .ok (.iconst 0, 1) := by decide +kernel
theorem dX4_hasTwice_51 : decode cX4_hasTwice 51 = .ok (.ireturn, 1) := by decide +kernel
set_option maxRecDepth 20000 in
theorem ggX4_mixInto_X4_letterAt : GoodIn wsX4_mixInto wsX4_letterAt := goodIn_r _ [7, 1, 8, 9, 10] (by decide +kernel) (by decide +kernel)
set_option maxRecDepth 20000 in
theorem gX4_mixInto_X4_letterAt : GoodIn wsX4_mixInto (wsV RX4 29 RX4 yX4_letterAt wsX4_letterAt) := goodIn_app (goodIn_of _ (by decide +kernel)) ggX4_mixInto_X4_letterAt
theorem dX4_mixInto_0 : decode cX4_mixInto 0 = .ok (.lload_n 1, 1) := by decide +kernel
theorem dX4_mixInto_1 : decode cX4_mixInto 1 = .ok (.lstore_n 3, 1) := by decide +kernel
theorem dX4_mixInto_2 : decode cX4_mixInto 2 = .ok (.iconst 0, 1) := by decide +kernel
theorem dX4_mixInto_3 : decode cX4_mixInto 3 = .ok (.istore 5, 2) := by decide +kernel
theorem dX4_mixInto_5 : decode cX4_mixInto 5 = .ok (.iload 5, 2) := by decide +kernel
theorem dX4_mixInto_7 : decode cX4_mixInto 7 = .ok (.aload_n 0, 1) := by decide +kernel
theorem dX4_mixInto_8 : decode cX4_mixInto 8 = .ok (.getfield 15, 3) := by decide +kernel
theorem dX4_mixInto_11 : decode cX4_mixInto 11 = .ok (.if_icmp .ge 23, 3) := by decide +kernel
theorem dX4_mixInto_14 : decode cX4_mixInto 14 = .ok (.ldc2_w 54, 3) := by decide +kernel
theorem dX4_mixInto_17 : decode cX4_mixInto 17 = .ok (.lload_n 3, 1) := by decide +kernel
theorem dX4_mixInto_18 : decode cX4_mixInto 18 = .ok (.lmul, 1) := by decide +kernel
theorem dX4_mixInto_19 : decode cX4_mixInto 19 = .ok (.aload_n 0, 1) := by decide +kernel
theorem dX4_mixInto_20 : decode cX4_mixInto 20 = .ok (.iload 5, 2) := by decide +kernel
theorem dX4_mixInto_22 : decode cX4_mixInto 22 = .ok (.invokevirtual 29, 3) := by decide +kernel
theorem dX4_mixInto_25 : decode cX4_mixInto 25 = .ok (.i2l, 1) := by decide +kernel
theorem dX4_mixInto_26 : decode cX4_mixInto 26 = .ok (.ladd, 1) := by decide +kernel
theorem dX4_mixInto_27 : decode cX4_mixInto 27 = .ok (.lstore_n 3, 1) := by decide +kernel
theorem dX4_mixInto_28 : decode cX4_mixInto 28 = .ok (.iinc 5 1, 3) := by decide +kernel
theorem dX4_mixInto_31 : decode cX4_mixInto 31 = .ok (.goto (-26), 3) := by decide +kernel
theorem dX4_mixInto_34 : decode cX4_mixInto 34 = .ok (.lload_n 3, 1) := by decide +kernel
theorem dX4_mixInto_35 : decode cX4_mixInto 35 = .ok (.lreturn, 1) := by decide +kernel
set_option maxRecDepth 20000 in
theorem ggX5_init_X1_init : GoodIn wsX5_init wsX1_init := goodIn_r _ [22, 23, 2, 3, 24, 25, 26, 27, 28, 29, 30, 31, 32, 33, 34, 35, 36, 37, 38, 39, 40, 41, 42, 43, 44, 45, 46, 47, 48, 49, 60, 61, 62, 63, 74, 75, 76, 77, 78, 79] (by decide +kernel) (by decide +kernel)
set_option maxRecDepth 20000 in
theorem gX5_init_X1_init : GoodIn wsX5_init (wsX1_init) := ggX5_init_X1_init
set_option maxRecDepth 20000 in
theorem ggX5_init_X4_init : GoodIn wsX5_init wsX4_init := goodIn_r _ [51, 52, 2, 3, 28, 53, 54, 71, 72] (by decide +kernel) (by decide +kernel)
set_option maxRecDepth 20000 in
theorem gX5_init_X4_init_n18 : GoodIn wsX5_init (wsX4_init) := ggX5_init_X4_init
set_option maxRecDepth 20000 in
theorem ggX5_init_X3_init : GoodIn wsX5_init wsX3_init := goodIn_r _ [56, 57, 2, 3, 58, 59, 73] (by decide +kernel) (by decide +kernel)
set_option maxRecDepth 20000 in
theorem gX5_init_X3_init_n31 : GoodIn wsX5_init (wsX3_init) := ggX5_init_X3_init
theorem dX5_init_0 : decode cX5_init 0 = .ok (.aload_n 0, 1) := by decide +kernel
theorem dX5_init_1 : decode cX5_init 1 = .ok (.invokespecial 1, 3) := by decide +kernel
theorem dX5_init_4 : decode cX5_init 4 = .ok (.aload_n 0, 1) := by decide +kernel
theorem dX5_init_5 : decode cX5_init 5 = .ok (.new 7, 3) := by decide +kernel
theorem dX5_init_8 : decode cX5_init 8 = .ok (.dup, 1) := by decide +kernel
theorem dX5_init_9 : decode cX5_init 9 = .ok (.invokespecial 9, 3) := by decide +kernel
theorem dX5_init_12 : decode cX5_init 12 = .ok (.putfield 10, 3) := by decide +kernel
theorem dX5_init_15 : decode cX5_init 15 = .ok (.aload_n 0, 1) := by decide +kernel
theorem dX5_init_16 : decode cX5_init 16 = .ok (.new 16, 3) := by decide +kernel
theorem dX5_init_19 : decode cX5_init 19 = .ok (.dup, 1) := by decide +kernel
theorem dX5_init_20 : decode cX5_init 20 = .ok (.invokespecial 18, 3) := by decide +kernel
theorem dX5_init_23 : decode cX5_init 23 = .ok (.putfield 19, 3) := by decide +kernel
theorem dX5_init_26 : decode cX5_init 26 = .ok (.aload_n 0, 1) := by decide +kernel
theorem dX5_init_27 : decode cX5_init 27 = .ok (.new 16, 3) := by decide +kernel
theorem dX5_init_30 : decode cX5_init 30 = .ok (.dup, 1) := by decide +kernel
theorem dX5_init_31 : decode cX5_init 31 = .ok (.invokespecial 18, 3) := by decide +kernel
theorem dX5_init_34 : decode cX5_init 34 = .ok (.putfield 23, 3) := by decide +kernel
theorem dX5_init_37 : decode cX5_init 37 = .ok (.aload_n 0, 1) := by decide +kernel
theorem dX5_init_38 : decode cX5_init 38 = .ok (.new 16, 3) := by decide +kernel
theorem dX5_init_41 : decode cX5_init 41 = .ok (.dup, 1) := by decide +kernel
theorem dX5_init_42 : decode cX5_init 42 = .ok (.invokespecial 18, 3) := by decide +kernel
theorem dX5_init_45 : decode cX5_init 45 = .ok (.putfield 26, 3) := by decide +kernel
theorem dX5_init_48 : decode cX5_init 48 = .ok (.aload_n 0, 1) := by decide +kernel
theorem dX5_init_49 : decode cX5_init 49 = .ok (.new 29, 3) := by decide +kernel
theorem dX5_init_52 : decode cX5_init 52 = .ok (.dup, 1) := by decide +kernel
theorem dX5_init_53 : decode cX5_init 53 = .ok (.invokespecial 31, 3) := by decide +kernel
theorem dX5_init_56 : decode cX5_init 56 = .ok (.putfield 32, 3) := by decide +kernel
theorem dX5_init_59 : decode cX5_init 59 = .ok (.aload_n 0, 1) := by decide +kernel
theorem dX5_init_60 : decode cX5_init 60 = .ok (.iconst 0, 1) := by decide +kernel
theorem dX5_init_61 : decode cX5_init 61 = .ok (.putfield 36, 3) := by decide +kernel
theorem dX5_init_64 : decode cX5_init 64 = .ok (.aload_n 0, 1) := by decide +kernel
theorem dX5_init_65 : decode cX5_init 65 = .ok (.iconst 0, 1) := by decide +kernel
theorem dX5_init_66 : decode cX5_init 66 = .ok (.putfield 40, 3) := by decide +kernel
theorem dX5_init_69 : decode cX5_init 69 = .ok (.return_, 1) := by decide +kernel
set_option maxRecDepth 20000 in
theorem ggX5_alphabet_X1_alphabetNamed : GoodIn wsX5_alphabet wsX1_alphabetNamed := goodIn_r _ [6, 7, 37, 38, 39, 40] (by decide +kernel) (by decide +kernel)
set_option maxRecDepth 20000 in
theorem gX5_alphabet_X1_alphabetNamed : GoodIn wsX5_alphabet (wsV RX5 43 RX1 yX1_alphabetNamed wsX1_alphabetNamed) := goodIn_app (goodIn_of _ (by decide +kernel)) ggX5_alphabet_X1_alphabetNamed
set_option maxRecDepth 20000 in
theorem ggX5_alphabet_X0_change : GoodIn wsX5_alphabet wsX0_change := goodIn_r _ [12, 13, 14, 15, 16, 17, 41, 42] (by decide +kernel) (by decide +kernel)
set_option maxRecDepth 20000 in
theorem gX5_alphabet_X0_change : GoodIn wsX5_alphabet (wsV RX5 47 RX0 yX0_change wsX0_change) := goodIn_app (goodIn_of _ (by decide +kernel)) ggX5_alphabet_X0_change
set_option maxRecDepth 20000 in
theorem ggX5_alphabet_X1_forgetNumbers : GoodIn wsX5_alphabet wsX1_forgetNumbers := goodIn_r _ [21, 22, 23, 24, 25, 26, 27, 28, 29, 37, 38, 39, 40, 43, 44, 45, 46] (by decide +kernel) (by decide +kernel)
set_option maxRecDepth 20000 in
theorem gX5_alphabet_X1_forgetNumbers : GoodIn wsX5_alphabet (wsV RX5 53 RX1 yX1_forgetNumbers wsX1_forgetNumbers) := goodIn_app (goodIn_of _ (by decide +kernel)) ggX5_alphabet_X1_forgetNumbers
theorem dX5_alphabet_0 : decode cX5_alphabet 0 = .ok (.aload_n 0, 1) := by decide +kernel
theorem dX5_alphabet_1 : decode cX5_alphabet 1 = .ok (.getfield 10, 3) := by decide +kernel
theorem dX5_alphabet_4 : decode cX5_alphabet 4 = .ok (.iload_n 1, 1) := by decide +kernel
theorem dX5_alphabet_5 : decode cX5_alphabet 5 = .ok (.i2l, 1) := by decide +kernel
theorem dX5_alphabet_6 : decode cX5_alphabet 6 = .ok (.invokevirtual 43, 3) := by decide +kernel
theorem dX5_alphabet_9 : decode cX5_alphabet 9 = .ok (.astore 7, 2) := by decide +kernel
theorem dX5_alphabet_11 : decode cX5_alphabet 11 = .ok (.aload 7, 2) := by decide +kernel
theorem dX5_alphabet_13 : decode cX5_alphabet 13 = .ok (.ifnonnull 6, 3) := by decide +kernel
theorem dX5_alphabet_16 : decode cX5_alphabet 16 = .ok (.bipush (-101), 2) := by decide +kernel
theorem dX5_alphabet_18 : decode cX5_alphabet 18 = .ok (.ireturn, 1) := by decide +kernel
theorem dX5_alphabet_19 : decode cX5_alphabet 19 = .ok (.aload 7, 2) := by decide +kernel
theorem dX5_alphabet_21 : decode cX5_alphabet 21 = .ok (.iload_n 2, 1) := by decide +kernel
theorem dX5_alphabet_22 : decode cX5_alphabet 22 = .ok (.iload_n 3, 1) := by decide +kernel
theorem dX5_alphabet_23 : decode cX5_alphabet 23 = .ok (.iload 4, 2) := by decide +kernel
theorem dX5_alphabet_25 : decode cX5_alphabet 25 = .ok (.iload 5, 2) := by decide +kernel
theorem dX5_alphabet_27 : decode cX5_alphabet 27 = .ok (.iload 6, 2) := by decide +kernel
theorem dX5_alphabet_29 : decode cX5_alphabet 29 = .ok (.invokevirtual 47, 3) := by decide +kernel
theorem dX5_alphabet_32 : decode cX5_alphabet 32 = .ok (.ifCond .ne 6, 3) := by decide +kernel
theorem dX5_alphabet_35 : decode cX5_alphabet 35 = .ok (.bipush (-102), 2) := by decide +kernel
theorem dX5_alphabet_37 : decode cX5_alphabet 37 = .ok (.ireturn, 1) := by decide +kernel
theorem dX5_alphabet_38 : decode cX5_alphabet 38 = .ok (.aload_n 0, 1) := by decide +kernel
theorem dX5_alphabet_39 : decode cX5_alphabet 39 = .ok (.getfield 10, 3) := by decide +kernel
theorem dX5_alphabet_42 : decode cX5_alphabet 42 = .ok (.invokevirtual 53, 3) := by decide +kernel
theorem dX5_alphabet_45 : decode cX5_alphabet 45 = .ok (.iload_n 2, 1) := by decide +kernel
theorem dX5_alphabet_46 : decode cX5_alphabet 46 = .ok (.ireturn, 1) := by decide +kernel
set_option maxRecDepth 20000 in
theorem ggX5_ring_X1_hasAlphabet : GoodIn wsX5_ring wsX1_hasAlphabet := goodIn_r _ [6, 7, 33, 34, 35, 36] (by decide +kernel) (by decide +kernel)
set_option maxRecDepth 20000 in
theorem gX5_ring_X1_hasAlphabet : GoodIn wsX5_ring (wsV RX5 56 RX1 yX1_hasAlphabet wsX1_hasAlphabet) := goodIn_app (goodIn_of _ (by decide +kernel)) ggX5_ring_X1_hasAlphabet
set_option maxRecDepth 20000 in
theorem ggX5_ring_X1_join : GoodIn wsX5_ring wsX1_join := goodIn_r _ [11, 12, 13, 14, 15, 16, 5, 17, 18, 19, 20, 21, 22, 23, 24, 25, 33, 34, 35, 36, 37, 38, 39, 40] (by decide +kernel) (by decide +kernel)
set_option maxRecDepth 20000 in
theorem gX5_ring_X1_join : GoodIn wsX5_ring (wsV RX5 60 RX1 yX1_join wsX1_join) := goodIn_app (goodIn_of _ (by decide +kernel)) ggX5_ring_X1_join
theorem dX5_ring_0 : decode cX5_ring 0 = .ok (.iload_n 1, 1) := by decide +kernel
theorem dX5_ring_1 : decode cX5_ring 1 = .ok (.iconst 1, 1) := by decide +kernel
theorem dX5_ring_2 : decode cX5_ring 2 = .ok (.if_icmp .lt 8, 3) := by decide +kernel
theorem dX5_ring_5 : decode cX5_ring 5 = .ok (.iload_n 1, 1) := by decide +kernel
theorem dX5_ring_6 : decode cX5_ring 6 = .ok (.iconst 3, 1) := by decide +kernel
theorem dX5_ring_7 : decode cX5_ring 7 = .ok (.if_icmp .le 6, 3) := by decide +kernel
theorem dX5_ring_10 : decode cX5_ring 10 = .ok (.bipush (-102), 2) := by decide +kernel
theorem dX5_ring_12 : decode cX5_ring 12 = .ok (.ireturn, 1) := by decide +kernel
theorem dX5_ring_13 : decode cX5_ring 13 = .ok (.aload_n 0, 1) := by decide +kernel
theorem dX5_ring_14 : decode cX5_ring 14 = .ok (.getfield 10, 3) := by decide +kernel
theorem dX5_ring_17 : decode cX5_ring 17 = .ok (.iload_n 2, 1) := by decide +kernel
theorem dX5_ring_18 : decode cX5_ring 18 = .ok (.invokevirtual 56, 3) := by decide +kernel
theorem dX5_ring_21 : decode cX5_ring 21 = .ok (.ifCond .eq 40, 3) := by decide +kernel
theorem dX5_ring_24 : decode cX5_ring 24 = .ok (.iload_n 1, 1) := by decide +kernel
theorem dX5_ring_25 : decode cX5_ring 25 = .ok (.iconst 2, 1) := by decide +kernel
theorem dX5_ring_26 : decode cX5_ring 26 = .ok (.if_icmp .lt 14, 3) := by decide +kernel
theorem dX5_ring_29 : decode cX5_ring 29 = .ok (.aload_n 0, 1) := by decide +kernel
theorem dX5_ring_30 : decode cX5_ring 30 = .ok (.getfield 10, 3) := by decide +kernel
theorem dX5_ring_33 : decode cX5_ring 33 = .ok (.iload_n 3, 1) := by decide +kernel
theorem dX5_ring_34 : decode cX5_ring 34 = .ok (.invokevirtual 56, 3) := by decide +kernel
theorem dX5_ring_37 : decode cX5_ring 37 = .ok (.ifCond .eq 24, 3) := by decide +kernel
theorem dX5_ring_40 : decode cX5_ring 40 = .ok (.iload_n 1, 1) := by decide +kernel
theorem dX5_ring_41 : decode cX5_ring 41 = .ok (.iconst 3, 1) := by decide +kernel
theorem dX5_ring_42 : decode cX5_ring 42 = .ok (.if_icmp .lt 15, 3) := by decide +kernel
theorem dX5_ring_45 : decode cX5_ring 45 = .ok (.aload_n 0, 1) := by decide +kernel
theorem dX5_ring_46 : decode cX5_ring 46 = .ok (.getfield 10, 3) := by decide +kernel
theorem dX5_ring_49 : decode cX5_ring 49 = .ok (.iload 4, 2) := by decide +kernel
theorem dX5_ring_51 : decode cX5_ring 51 = .ok (.invokevirtual 56, 3) := by decide +kernel
theorem dX5_ring_54 : decode cX5_ring 54 = .ok (.ifCond .eq 7, 3) := by decide +kernel
theorem dX5_ring_57 : decode cX5_ring 57 = .ok (.iconst 1, 1) := by decide +kernel
theorem dX5_ring_58 : decode cX5_ring 58 = .ok (.goto 4, 3) := by decide +kernel
theorem dX5_ring_61 : decode cX5_ring 61 = .ok (.iconst 0, 1) := by decide +kernel
theorem dX5_ring_62 : decode cX5_ring 62 = .ok (.istore 5, 2) := by decide +kernel
theorem dX5_ring_64 : decode cX5_ring 64 = .ok (.iload 5, 2) := by decide +kernel
theorem dX5_ring_66 : decode cX5_ring 66 = .ok (.ifCond .ne 6, 3) := by decide +kernel
theorem dX5_ring_69 : decode cX5_ring 69 = .ok (.bipush (-101), 2) := by decide +kernel
theorem dX5_ring_71 : decode cX5_ring 71 = .ok (.ireturn, 1) := by decide +kernel
theorem dX5_ring_72 : decode cX5_ring 72 = .ok (.aload_n 0, 1) := by decide +kernel
theorem dX5_ring_73 : decode cX5_ring 73 = .ok (.getfield 10, 3) := by decide +kernel
theorem dX5_ring_76 : decode cX5_ring 76 = .ok (.iload_n 1, 1) := by decide +kernel
theorem dX5_ring_77 : decode cX5_ring 77 = .ok (.iload_n 2, 1) := by decide +kernel
theorem dX5_ring_78 : decode cX5_ring 78 = .ok (.iload_n 3, 1) := by decide +kernel
theorem dX5_ring_79 : decode cX5_ring 79 = .ok (.iload 4, 2) := by decide +kernel
theorem dX5_ring_81 : decode cX5_ring 81 = .ok (.invokevirtual 60, 3) := by decide +kernel
theorem dX5_ring_84 : decode cX5_ring 84 = .ok (.iload_n 1, 1) := by decide +kernel
theorem dX5_ring_85 : decode cX5_ring 85 = .ok (.ireturn, 1) := by decide +kernel
set_option maxRecDepth 20000 in
theorem ggX5_at_X1_hasRow : GoodIn wsX5_at wsX1_hasRow := goodIn_r _ [7, 8, 9, 101, 102, 103, 104] (by decide +kernel) (by decide +kernel)
set_option maxRecDepth 20000 in
theorem gX5_at_X1_hasRow : GoodIn wsX5_at (wsV RX5 64 RX1 yX1_hasRow wsX1_hasRow) := goodIn_app (goodIn_of _ (by decide +kernel)) ggX5_at_X1_hasRow
set_option maxRecDepth 20000 in
theorem ggX5_at_X5_isOutside : GoodIn wsX5_at wsX5_isOutside := goodIn_r _ [13] (by decide +kernel) (by decide +kernel)
set_option maxRecDepth 20000 in
theorem gX5_at_X5_isOutside : GoodIn wsX5_at (va_wsS RX5 68 yX5_isOutside wsX5_isOutside) := goodIn_app (goodIn_of _ (by decide +kernel)) ggX5_at_X5_isOutside
set_option maxRecDepth 20000 in
theorem ggX5_at_X1_rowOf : GoodIn wsX5_at wsX1_rowOf := goodIn_r _ [17, 9, 18, 19, 4, 5, 6, 7, 8, 20, 21, 22, 23, 24, 25, 26, 27, 28, 29, 30, 31, 32, 33, 34, 35, 36, 37, 38, 39, 40, 41, 42, 43, 44, 45, 46, 47, 48, 49, 50, 51, 52, 53, 54, 55, 56, 57, 58, 59, 60, 61, 62, 63, 64, 65, 66, 67, 68, 69, 70, 71, 72, 73, 74, 75, 76, 77, 12, 78, 79, 80, 81, 82, 83, 84, 85, 86, 87, 88, 89, 90, 91, 92, 101, 102, 103, 104, 105, 106, 107, 108, 109, 110] (by decide +kernel) (by decide +kernel)
set_option maxRecDepth 20000 in
theorem gX5_at_X1_rowOf : GoodIn wsX5_at (wsV RX5 72 RX1 yX1_rowOf wsX1_rowOf) := goodIn_app (goodIn_of _ (by decide +kernel)) ggX5_at_X1_rowOf
set_option maxRecDepth 20000 in
theorem ggX5_at_X2_number : GoodIn wsX5_at wsX2_number := goodIn_r _ [71, 25, 72, 105, 106, 107, 108] (by decide +kernel) (by decide +kernel)
set_option maxRecDepth 20000 in
theorem gX5_at_X2_number : GoodIn wsX5_at (wsV RX5 76 RX2 yX2_number wsX2_number) := goodIn_app (goodIn_of _ (by decide +kernel)) ggX5_at_X2_number
theorem dX5_at_0 : decode cX5_at 0 = .ok (.aload_n 0, 1) := by decide +kernel
theorem dX5_at_1 : decode cX5_at 1 = .ok (.getfield 10, 3) := by decide +kernel
theorem dX5_at_4 : decode cX5_at 4 = .ok (.iload_n 1, 1) := by decide +kernel
theorem dX5_at_5 : decode cX5_at 5 = .ok (.invokevirtual 64, 3) := by decide +kernel
theorem dX5_at_8 : decode cX5_at 8 = .ok (.ifCond .ne 6, 3) := by decide +kernel
theorem dX5_at_11 : decode cX5_at 11 = .ok (.bipush (-101), 2) := by decide +kernel
theorem dX5_at_13 : decode cX5_at 13 = .ok (.ireturn, 1) := by decide +kernel
theorem dX5_at_14 : decode cX5_at 14 = .ok (.iload_n 2, 1) := by decide +kernel
theorem dX5_at_15 : decode cX5_at 15 = .ok (.ldc 67, 2) := by decide +kernel
theorem dX5_at_17 : decode cX5_at 17 = .ok (.invokestatic 68, 3) := by decide +kernel
theorem dX5_at_20 : decode cX5_at 20 = .ok (.ifCond .eq 6, 3) := by decide +kernel
theorem dX5_at_23 : decode cX5_at 23 = .ok (.bipush (-102), 2) := by decide +kernel
theorem dX5_at_25 : decode cX5_at 25 = .ok (.ireturn, 1) := by decide +kernel
theorem dX5_at_26 : decode cX5_at 26 = .ok (.aload_n 0, 1) := by decide +kernel
theorem dX5_at_27 : decode cX5_at 27 = .ok (.getfield 10, 3) := by decide +kernel
theorem dX5_at_30 : decode cX5_at 30 = .ok (.iload_n 1, 1) := by decide +kernel
theorem dX5_at_31 : decode cX5_at 31 = .ok (.iload_n 2, 1) := by decide +kernel
theorem dX5_at_32 : decode cX5_at 32 = .ok (.iconst 1, 1) := by decide +kernel
theorem dX5_at_33 : decode cX5_at 33 = .ok (.iadd, 1) := by decide +kernel
theorem dX5_at_34 : decode cX5_at 34 = .ok (.invokevirtual 72, 3) := by decide +kernel
theorem dX5_at_37 : decode cX5_at 37 = .ok (.iload_n 2, 1) := by decide +kernel
theorem dX5_at_38 : decode cX5_at 38 = .ok (.invokevirtual 76, 3) := by decide +kernel
theorem dX5_at_41 : decode cX5_at 41 = .ok (.ireturn, 1) := by decide +kernel
set_option maxRecDepth 20000 in
theorem ggX5_count_X1_hasRow : GoodIn wsX5_count wsX1_hasRow := goodIn_r _ [7, 8, 9, 108, 109, 110, 111] (by decide +kernel) (by decide +kernel)
set_option maxRecDepth 20000 in
theorem gX5_count_X1_hasRow : GoodIn wsX5_count (wsV RX5 64 RX1 yX1_hasRow wsX1_hasRow) := goodIn_app (goodIn_of _ (by decide +kernel)) ggX5_count_X1_hasRow
set_option maxRecDepth 20000 in
theorem ggX5_count_X5_isOutside : GoodIn wsX5_count wsX5_isOutside := goodIn_r _ [13] (by decide +kernel) (by decide +kernel)
set_option maxRecDepth 20000 in
theorem gX5_count_X5_isOutside : GoodIn wsX5_count (va_wsS RX5 68 yX5_isOutside wsX5_isOutside) := goodIn_app (goodIn_of _ (by decide +kernel)) ggX5_count_X5_isOutside
set_option maxRecDepth 20000 in
theorem ggX5_count_X1_rowOf : GoodIn wsX5_count wsX1_rowOf := goodIn_r _ [17, 9, 18, 19, 4, 5, 6, 7, 8, 20, 21, 22, 23, 24, 25, 26, 27, 28, 29, 30, 31, 32, 33, 34, 35, 36, 37, 38, 39, 40, 41, 42, 43, 44, 45, 46, 47, 48, 49, 50, 51, 52, 53, 54, 55, 56, 57, 58, 59, 60, 61, 62, 63, 64, 65, 66, 67, 68, 69, 70, 71, 72, 73, 74, 75, 76, 77, 12, 78, 79, 80, 81, 82, 83, 84, 85, 86, 87, 88, 89, 90, 91, 92, 108, 109, 110, 111, 112, 113, 114, 115, 116, 117] (by decide +kernel) (by decide +kernel)
set_option maxRecDepth 20000 in
theorem gX5_count_X1_rowOf : GoodIn wsX5_count (wsV RX5 72 RX1 yX1_rowOf wsX1_rowOf) := goodIn_app (goodIn_of _ (by decide +kernel)) ggX5_count_X1_rowOf
set_option maxRecDepth 20000 in
theorem ggX5_count_X2_lettersWithin : GoodIn wsX5_count wsX2_lettersWithin := goodIn_r _ [96, 77, 12, 78, 97, 98, 99, 23, 100, 83, 91, 69, 70, 71, 25, 72, 112, 113, 114, 115] (by decide +kernel) (by decide +kernel)
set_option maxRecDepth 20000 in
theorem gX5_count_X2_lettersWithin : GoodIn wsX5_count (wsV RX5 82 RX2 yX2_lettersWithin wsX2_lettersWithin) := goodIn_app (goodIn_of _ (by decide +kernel)) ggX5_count_X2_lettersWithin
theorem dX5_count_0 : decode cX5_count 0 = .ok (.aload_n 0, 1) := by decide +kernel
theorem dX5_count_1 : decode cX5_count 1 = .ok (.getfield 10, 3) := by decide +kernel
theorem dX5_count_4 : decode cX5_count 4 = .ok (.iload_n 1, 1) := by decide +kernel
theorem dX5_count_5 : decode cX5_count 5 = .ok (.invokevirtual 64, 3) := by decide +kernel
theorem dX5_count_8 : decode cX5_count 8 = .ok (.ifCond .ne 6, 3) := by decide +kernel
theorem dX5_count_11 : decode cX5_count 11 = .ok (.bipush (-101), 2) := by decide +kernel
theorem dX5_count_13 : decode cX5_count 13 = .ok (.ireturn, 1) := by decide +kernel
theorem dX5_count_14 : decode cX5_count 14 = .ok (.iload_n 3, 1) := by decide +kernel
theorem dX5_count_15 : decode cX5_count 15 = .ok (.ldc 67, 2) := by decide +kernel
theorem dX5_count_17 : decode cX5_count 17 = .ok (.invokestatic 68, 3) := by decide +kernel
theorem dX5_count_20 : decode cX5_count 20 = .ok (.ifCond .eq 6, 3) := by decide +kernel
theorem dX5_count_23 : decode cX5_count 23 = .ok (.bipush (-102), 2) := by decide +kernel
theorem dX5_count_25 : decode cX5_count 25 = .ok (.ireturn, 1) := by decide +kernel
theorem dX5_count_26 : decode cX5_count 26 = .ok (.aload_n 0, 1) := by decide +kernel
theorem dX5_count_27 : decode cX5_count 27 = .ok (.getfield 10, 3) := by decide +kernel
theorem dX5_count_30 : decode cX5_count 30 = .ok (.iload_n 1, 1) := by decide +kernel
theorem dX5_count_31 : decode cX5_count 31 = .ok (.iload_n 3, 1) := by decide +kernel
theorem dX5_count_32 : decode cX5_count 32 = .ok (.invokevirtual 72, 3) := by decide +kernel
theorem dX5_count_35 : decode cX5_count 35 = .ok (.iload_n 2, 1) := by decide +kernel
theorem dX5_count_36 : decode cX5_count 36 = .ok (.iload_n 3, 1) := by decide +kernel
theorem dX5_count_37 : decode cX5_count 37 = .ok (.invokevirtual 82, 3) := by decide +kernel
theorem dX5_count_40 : decode cX5_count 40 = .ok (.ireturn, 1) := by decide +kernel
set_option maxRecDepth 20000 in
theorem ggX5_sum_X1_hasRow : GoodIn wsX5_sum wsX1_hasRow := goodIn_r _ [7, 8, 9, 112, 113, 114, 115] (by decide +kernel) (by decide +kernel)
set_option maxRecDepth 20000 in
theorem gX5_sum_X1_hasRow : GoodIn wsX5_sum (wsV RX5 64 RX1 yX1_hasRow wsX1_hasRow) := goodIn_app (goodIn_of _ (by decide +kernel)) ggX5_sum_X1_hasRow
set_option maxRecDepth 20000 in
theorem ggX5_sum_X5_isOutside : GoodIn wsX5_sum wsX5_isOutside := goodIn_r _ [13] (by decide +kernel) (by decide +kernel)
set_option maxRecDepth 20000 in
theorem gX5_sum_X5_isOutside : GoodIn wsX5_sum (va_wsS RX5 68 yX5_isOutside wsX5_isOutside) := goodIn_app (goodIn_of _ (by decide +kernel)) ggX5_sum_X5_isOutside
set_option maxRecDepth 20000 in
theorem ggX5_sum_X1_rowOf : GoodIn wsX5_sum wsX1_rowOf := goodIn_r _ [17, 9, 18, 19, 4, 5, 6, 7, 8, 20, 21, 22, 23, 24, 25, 26, 27, 28, 29, 30, 31, 32, 33, 34, 35, 36, 37, 38, 39, 40, 41, 42, 43, 44, 45, 46, 47, 48, 49, 50, 51, 52, 53, 54, 55, 56, 57, 58, 59, 60, 61, 62, 63, 64, 65, 66, 67, 68, 69, 70, 71, 72, 73, 74, 75, 76, 77, 12, 78, 79, 80, 81, 82, 83, 84, 85, 86, 87, 88, 89, 90, 91, 92, 112, 113, 114, 115, 116, 117, 118, 119, 120, 121] (by decide +kernel) (by decide +kernel)
set_option maxRecDepth 20000 in
theorem gX5_sum_X1_rowOf : GoodIn wsX5_sum (wsV RX5 72 RX1 yX1_rowOf wsX1_rowOf) := goodIn_app (goodIn_of _ (by decide +kernel)) ggX5_sum_X1_rowOf
set_option maxRecDepth 20000 in
theorem ggX5_sum_X2_sumWithin : GoodIn wsX5_sum wsX2_sumWithin := goodIn_r _ [96, 97, 98, 99, 23, 100, 77, 12, 78, 101, 102, 103, 104, 83, 91, 69, 70, 71, 25, 72, 116, 117, 118, 119] (by decide +kernel) (by decide +kernel)
set_option maxRecDepth 20000 in
theorem gX5_sum_X2_sumWithin : GoodIn wsX5_sum (wsV RX5 86 RX2 yX2_sumWithin wsX2_sumWithin) := goodIn_app (goodIn_of _ (by decide +kernel)) ggX5_sum_X2_sumWithin
theorem dX5_sum_0 : decode cX5_sum 0 = .ok (.aload_n 0, 1) := by decide +kernel
theorem dX5_sum_1 : decode cX5_sum 1 = .ok (.getfield 10, 3) := by decide +kernel
theorem dX5_sum_4 : decode cX5_sum 4 = .ok (.iload_n 1, 1) := by decide +kernel
theorem dX5_sum_5 : decode cX5_sum 5 = .ok (.invokevirtual 64, 3) := by decide +kernel
theorem dX5_sum_8 : decode cX5_sum 8 = .ok (.ifCond .ne 6, 3) := by decide +kernel
theorem dX5_sum_11 : decode cX5_sum 11 = .ok (.bipush (-101), 2) := by decide +kernel
theorem dX5_sum_13 : decode cX5_sum 13 = .ok (.ireturn, 1) := by decide +kernel
theorem dX5_sum_14 : decode cX5_sum 14 = .ok (.iload_n 2, 1) := by decide +kernel
theorem dX5_sum_15 : decode cX5_sum 15 = .ok (.ldc 67, 2) := by decide +kernel
theorem dX5_sum_17 : decode cX5_sum 17 = .ok (.invokestatic 68, 3) := by decide +kernel
theorem dX5_sum_20 : decode cX5_sum 20 = .ok (.ifCond .eq 6, 3) := by decide +kernel
theorem dX5_sum_23 : decode cX5_sum 23 = .ok (.bipush (-102), 2) := by decide +kernel
theorem dX5_sum_25 : decode cX5_sum 25 = .ok (.ireturn, 1) := by decide +kernel
theorem dX5_sum_26 : decode cX5_sum 26 = .ok (.aload_n 0, 1) := by decide +kernel
theorem dX5_sum_27 : decode cX5_sum 27 = .ok (.getfield 10, 3) := by decide +kernel
theorem dX5_sum_30 : decode cX5_sum 30 = .ok (.iload_n 1, 1) := by decide +kernel
theorem dX5_sum_31 : decode cX5_sum 31 = .ok (.iload_n 2, 1) := by decide +kernel
theorem dX5_sum_32 : decode cX5_sum 32 = .ok (.invokevirtual 72, 3) := by decide +kernel
theorem dX5_sum_35 : decode cX5_sum 35 = .ok (.iload_n 2, 1) := by decide +kernel
theorem dX5_sum_36 : decode cX5_sum 36 = .ok (.invokevirtual 86, 3) := by decide +kernel
theorem dX5_sum_39 : decode cX5_sum 39 = .ok (.ireturn, 1) := by decide +kernel
set_option maxRecDepth 20000 in
theorem ggX5_run_X1_hasRow : GoodIn wsX5_run wsX1_hasRow := goodIn_r _ [7, 8, 9, 108, 109, 110, 111] (by decide +kernel) (by decide +kernel)
set_option maxRecDepth 20000 in
theorem gX5_run_X1_hasRow : GoodIn wsX5_run (wsV RX5 64 RX1 yX1_hasRow wsX1_hasRow) := goodIn_app (goodIn_of _ (by decide +kernel)) ggX5_run_X1_hasRow
set_option maxRecDepth 20000 in
theorem ggX5_run_X5_isOutside : GoodIn wsX5_run wsX5_isOutside := goodIn_r _ [13] (by decide +kernel) (by decide +kernel)
set_option maxRecDepth 20000 in
theorem gX5_run_X5_isOutside : GoodIn wsX5_run (va_wsS RX5 68 yX5_isOutside wsX5_isOutside) := goodIn_app (goodIn_of _ (by decide +kernel)) ggX5_run_X5_isOutside
set_option maxRecDepth 20000 in
theorem ggX5_run_X1_rowOf : GoodIn wsX5_run wsX1_rowOf := goodIn_r _ [17, 9, 18, 19, 4, 5, 6, 7, 8, 20, 21, 22, 23, 24, 25, 26, 27, 28, 29, 30, 31, 32, 33, 34, 35, 36, 37, 38, 39, 40, 41, 42, 43, 44, 45, 46, 47, 48, 49, 50, 51, 52, 53, 54, 55, 56, 57, 58, 59, 60, 61, 62, 63, 64, 65, 66, 67, 68, 69, 70, 71, 72, 73, 74, 75, 76, 77, 12, 78, 79, 80, 81, 82, 83, 84, 85, 86, 87, 88, 89, 90, 91, 92, 108, 109, 110, 111, 112, 113, 114, 115, 116, 117] (by decide +kernel) (by decide +kernel)
set_option maxRecDepth 20000 in
theorem gX5_run_X1_rowOf : GoodIn wsX5_run (wsV RX5 72 RX1 yX1_rowOf wsX1_rowOf) := goodIn_app (goodIn_of _ (by decide +kernel)) ggX5_run_X1_rowOf
set_option maxRecDepth 20000 in
theorem ggX5_run_X2_runsWithin : GoodIn wsX5_run wsX2_runsWithin := goodIn_r _ [96, 97, 98, 99, 23, 100, 83, 91, 69, 70, 71, 25, 72, 112, 113, 114, 115] (by decide +kernel) (by decide +kernel)
set_option maxRecDepth 20000 in
theorem gX5_run_X2_runsWithin : GoodIn wsX5_run (wsV RX5 89 RX2 yX2_runsWithin wsX2_runsWithin) := goodIn_app (goodIn_of _ (by decide +kernel)) ggX5_run_X2_runsWithin
theorem dX5_run_0 : decode cX5_run 0 = .ok (.aload_n 0, 1) := by decide +kernel
theorem dX5_run_1 : decode cX5_run 1 = .ok (.getfield 10, 3) := by decide +kernel
theorem dX5_run_4 : decode cX5_run 4 = .ok (.iload_n 1, 1) := by decide +kernel
theorem dX5_run_5 : decode cX5_run 5 = .ok (.invokevirtual 64, 3) := by decide +kernel
theorem dX5_run_8 : decode cX5_run 8 = .ok (.ifCond .ne 6, 3) := by decide +kernel
theorem dX5_run_11 : decode cX5_run 11 = .ok (.bipush (-101), 2) := by decide +kernel
theorem dX5_run_13 : decode cX5_run 13 = .ok (.ireturn, 1) := by decide +kernel
theorem dX5_run_14 : decode cX5_run 14 = .ok (.iload_n 2, 1) := by decide +kernel
theorem dX5_run_15 : decode cX5_run 15 = .ok (.ldc 67, 2) := by decide +kernel
theorem dX5_run_17 : decode cX5_run 17 = .ok (.invokestatic 68, 3) := by decide +kernel
theorem dX5_run_20 : decode cX5_run 20 = .ok (.ifCond .eq 6, 3) := by decide +kernel
theorem dX5_run_23 : decode cX5_run 23 = .ok (.bipush (-102), 2) := by decide +kernel
theorem dX5_run_25 : decode cX5_run 25 = .ok (.ireturn, 1) := by decide +kernel
theorem dX5_run_26 : decode cX5_run 26 = .ok (.aload_n 0, 1) := by decide +kernel
theorem dX5_run_27 : decode cX5_run 27 = .ok (.getfield 10, 3) := by decide +kernel
theorem dX5_run_30 : decode cX5_run 30 = .ok (.iload_n 1, 1) := by decide +kernel
theorem dX5_run_31 : decode cX5_run 31 = .ok (.iload_n 2, 1) := by decide +kernel
theorem dX5_run_32 : decode cX5_run 32 = .ok (.iconst 1, 1) := by decide +kernel
theorem dX5_run_33 : decode cX5_run 33 = .ok (.iadd, 1) := by decide +kernel
theorem dX5_run_34 : decode cX5_run 34 = .ok (.invokevirtual 72, 3) := by decide +kernel
theorem dX5_run_37 : decode cX5_run 37 = .ok (.iload_n 2, 1) := by decide +kernel
theorem dX5_run_38 : decode cX5_run 38 = .ok (.iconst 1, 1) := by decide +kernel
theorem dX5_run_39 : decode cX5_run 39 = .ok (.iadd, 1) := by decide +kernel
theorem dX5_run_40 : decode cX5_run 40 = .ok (.invokevirtual 89, 3) := by decide +kernel
theorem dX5_run_43 : decode cX5_run 43 = .ok (.iconst 1, 1) := by decide +kernel
theorem dX5_run_44 : decode cX5_run 44 = .ok (.isub, 1) := by decide +kernel
theorem dX5_run_45 : decode cX5_run 45 = .ok (.ireturn, 1) := by decide +kernel
set_option maxRecDepth 20000 in
theorem ggX5_begins_X1_hasRow : GoodIn wsX5_begins wsX1_hasRow := goodIn_r _ [7, 8, 9, 113, 114, 115, 116] (by decide +kernel) (by decide +kernel)
set_option maxRecDepth 20000 in
theorem gX5_begins_X1_hasRow : GoodIn wsX5_begins (wsV RX5 64 RX1 yX1_hasRow wsX1_hasRow) := goodIn_app (goodIn_of _ (by decide +kernel)) ggX5_begins_X1_hasRow
set_option maxRecDepth 20000 in
theorem ggX5_begins_X5_isOutside : GoodIn wsX5_begins wsX5_isOutside := goodIn_r _ [13] (by decide +kernel) (by decide +kernel)
set_option maxRecDepth 20000 in
theorem gX5_begins_X5_isOutside : GoodIn wsX5_begins (va_wsS RX5 68 yX5_isOutside wsX5_isOutside) := goodIn_app (goodIn_of _ (by decide +kernel)) ggX5_begins_X5_isOutside
set_option maxRecDepth 20000 in
theorem ggX5_begins_X1_nextOf : GoodIn wsX5_begins wsX1_nextOf := goodIn_r _ [17, 8, 113, 114, 115, 116] (by decide +kernel) (by decide +kernel)
set_option maxRecDepth 20000 in
theorem gX5_begins_X1_nextOf : GoodIn wsX5_begins (wsV RX5 92 RX1 yX1_nextOf wsX1_nextOf) := goodIn_app (goodIn_of _ (by decide +kernel)) ggX5_begins_X1_nextOf
set_option maxRecDepth 20000 in
theorem ggX5_begins_X1_rowOf : GoodIn wsX5_begins wsX1_rowOf := goodIn_r _ [21, 9, 22, 23, 4, 5, 6, 7, 8, 24, 25, 26, 27, 28, 29, 30, 31, 32, 33, 34, 35, 36, 37, 38, 15, 16, 17, 39, 40, 41, 42, 43, 44, 45, 46, 47, 48, 49, 50, 51, 52, 53, 54, 55, 56, 57, 58, 59, 60, 61, 62, 63, 64, 65, 66, 67, 68, 69, 70, 71, 72, 73, 74, 75, 76, 77, 78, 12, 79, 80, 81, 82, 83, 84, 85, 86, 87, 88, 89, 90, 91, 92, 93, 113, 114, 115, 116, 117, 118, 119, 120, 121, 122] (by decide +kernel) (by decide +kernel)
set_option maxRecDepth 20000 in
theorem gX5_begins_X1_rowOf : GoodIn wsX5_begins (wsV RX5 72 RX1 yX1_rowOf wsX1_rowOf) := goodIn_app (goodIn_of _ (by decide +kernel)) ggX5_begins_X1_rowOf
set_option maxRecDepth 20000 in
theorem ggX5_begins_X2_sumWithin : GoodIn wsX5_begins wsX2_sumWithin := goodIn_r _ [97, 98, 99, 100, 27, 101, 78, 12, 79, 102, 103, 104, 105, 84, 92, 70, 71, 72, 29, 73, 117, 118, 119, 120] (by decide +kernel) (by decide +kernel)
set_option maxRecDepth 20000 in
theorem gX5_begins_X2_sumWithin : GoodIn wsX5_begins (wsV RX5 86 RX2 yX2_sumWithin wsX2_sumWithin) := goodIn_app (goodIn_of _ (by decide +kernel)) ggX5_begins_X2_sumWithin
theorem dX5_begins_0 : decode cX5_begins 0 = .ok (.aload_n 0, 1) := by decide +kernel
theorem dX5_begins_1 : decode cX5_begins 1 = .ok (.getfield 10, 3) := by decide +kernel
theorem dX5_begins_4 : decode cX5_begins 4 = .ok (.iload_n 1, 1) := by decide +kernel
theorem dX5_begins_5 : decode cX5_begins 5 = .ok (.invokevirtual 64, 3) := by decide +kernel
theorem dX5_begins_8 : decode cX5_begins 8 = .ok (.ifCond .ne 6, 3) := by decide +kernel
theorem dX5_begins_11 : decode cX5_begins 11 = .ok (.bipush (-101), 2) := by decide +kernel
theorem dX5_begins_13 : decode cX5_begins 13 = .ok (.ireturn, 1) := by decide +kernel
theorem dX5_begins_14 : decode cX5_begins 14 = .ok (.iload_n 2, 1) := by decide +kernel
theorem dX5_begins_15 : decode cX5_begins 15 = .ok (.ldc 67, 2) := by decide +kernel
theorem dX5_begins_17 : decode cX5_begins 17 = .ok (.invokestatic 68, 3) := by decide +kernel
theorem dX5_begins_20 : decode cX5_begins 20 = .ok (.ifCond .eq 6, 3) := by decide +kernel
theorem dX5_begins_23 : decode cX5_begins 23 = .ok (.bipush (-102), 2) := by decide +kernel
theorem dX5_begins_25 : decode cX5_begins 25 = .ok (.ireturn, 1) := by decide +kernel
theorem dX5_begins_26 : decode cX5_begins 26 = .ok (.aload_n 0, 1) := by decide +kernel
theorem dX5_begins_27 : decode cX5_begins 27 = .ok (.getfield 10, 3) := by decide +kernel
theorem dX5_begins_30 : decode cX5_begins 30 = .ok (.aload_n 0, 1) := by decide +kernel
theorem dX5_begins_31 : decode cX5_begins 31 = .ok (.getfield 10, 3) := by decide +kernel
theorem dX5_begins_34 : decode cX5_begins 34 = .ok (.iload_n 1, 1) := by decide +kernel
theorem dX5_begins_35 : decode cX5_begins 35 = .ok (.invokevirtual 92, 3) := by decide +kernel
theorem dX5_begins_38 : decode cX5_begins 38 = .ok (.iload_n 2, 1) := by decide +kernel
theorem dX5_begins_39 : decode cX5_begins 39 = .ok (.invokevirtual 72, 3) := by decide +kernel
theorem dX5_begins_42 : decode cX5_begins 42 = .ok (.iload_n 2, 1) := by decide +kernel
theorem dX5_begins_43 : decode cX5_begins 43 = .ok (.invokevirtual 86, 3) := by decide +kernel
theorem dX5_begins_46 : decode cX5_begins 46 = .ok (.istore_n 3, 1) := by decide +kernel
theorem dX5_begins_47 : decode cX5_begins 47 = .ok (.iload_n 3, 1) := by decide +kernel
theorem dX5_begins_48 : decode cX5_begins 48 = .ok (.ldc 67, 2) := by decide +kernel
theorem dX5_begins_50 : decode cX5_begins 50 = .ok (.if_icmp .le 7, 3) := by decide +kernel
theorem dX5_begins_53 : decode cX5_begins 53 = .ok (.iconst (-1), 1) := by decide +kernel
theorem dX5_begins_54 : decode cX5_begins 54 = .ok (.goto 4, 3) := by decide +kernel
theorem dX5_begins_57 : decode cX5_begins 57 = .ok (.iload_n 3, 1) := by decide +kernel
theorem dX5_begins_58 : decode cX5_begins 58 = .ok (.ireturn, 1) := by decide +kernel
set_option maxRecDepth 20000 in
theorem ggX5_off_X1_hasRow : GoodIn wsX5_off wsX1_hasRow := goodIn_r _ [7, 8, 9, 111, 112, 113, 114] (by decide +kernel) (by decide +kernel)
set_option maxRecDepth 20000 in
theorem gX5_off_X1_hasRow : GoodIn wsX5_off (wsV RX5 64 RX1 yX1_hasRow wsX1_hasRow) := goodIn_app (goodIn_of _ (by decide +kernel)) ggX5_off_X1_hasRow
set_option maxRecDepth 20000 in
theorem ggX5_off_X5_isOutside : GoodIn wsX5_off wsX5_isOutside := goodIn_r _ [13] (by decide +kernel) (by decide +kernel)
set_option maxRecDepth 20000 in
theorem gX5_off_X5_isOutside : GoodIn wsX5_off (va_wsS RX5 68 yX5_isOutside wsX5_isOutside) := goodIn_app (goodIn_of _ (by decide +kernel)) ggX5_off_X5_isOutside
set_option maxRecDepth 20000 in
theorem ggX5_off_X1_rowOf : GoodIn wsX5_off wsX1_rowOf := goodIn_r _ [17, 9, 18, 19, 4, 5, 6, 7, 8, 20, 21, 22, 23, 24, 25, 26, 27, 28, 29, 30, 31, 32, 33, 34, 35, 36, 37, 38, 39, 40, 41, 42, 43, 44, 45, 46, 47, 48, 49, 50, 51, 52, 53, 54, 55, 56, 57, 58, 59, 60, 61, 62, 63, 64, 65, 66, 67, 68, 69, 70, 71, 72, 73, 74, 75, 76, 77, 12, 78, 79, 80, 81, 82, 83, 84, 85, 86, 87, 88, 89, 90, 91, 92, 111, 112, 113, 114, 115, 116, 117, 118, 119, 120] (by decide +kernel) (by decide +kernel)
set_option maxRecDepth 20000 in
theorem gX5_off_X1_rowOf : GoodIn wsX5_off (wsV RX5 72 RX1 yX1_rowOf wsX1_rowOf) := goodIn_app (goodIn_of _ (by decide +kernel)) ggX5_off_X1_rowOf
set_option maxRecDepth 20000 in
theorem ggX5_off_X2_greatestOff : GoodIn wsX5_off wsX2_greatestOff := goodIn_r _ [96, 97, 98, 99, 100, 101, 102, 103, 91, 69, 70, 23, 71, 25, 72, 115, 116, 117, 118] (by decide +kernel) (by decide +kernel)
set_option maxRecDepth 20000 in
theorem gX5_off_X2_greatestOff : GoodIn wsX5_off (wsV RX5 95 RX2 yX2_greatestOff wsX2_greatestOff) := goodIn_app (goodIn_of _ (by decide +kernel)) ggX5_off_X2_greatestOff
theorem dX5_off_0 : decode cX5_off 0 = .ok (.aload_n 0, 1) := by decide +kernel
theorem dX5_off_1 : decode cX5_off 1 = .ok (.getfield 10, 3) := by decide +kernel
theorem dX5_off_4 : decode cX5_off 4 = .ok (.iload_n 1, 1) := by decide +kernel
theorem dX5_off_5 : decode cX5_off 5 = .ok (.invokevirtual 64, 3) := by decide +kernel
theorem dX5_off_8 : decode cX5_off 8 = .ok (.ifCond .ne 6, 3) := by decide +kernel
theorem dX5_off_11 : decode cX5_off 11 = .ok (.bipush (-101), 2) := by decide +kernel
theorem dX5_off_13 : decode cX5_off 13 = .ok (.ireturn, 1) := by decide +kernel
theorem dX5_off_14 : decode cX5_off 14 = .ok (.iload 4, 2) := by decide +kernel
theorem dX5_off_16 : decode cX5_off 16 = .ok (.ldc 67, 2) := by decide +kernel
theorem dX5_off_18 : decode cX5_off 18 = .ok (.invokestatic 68, 3) := by decide +kernel
theorem dX5_off_21 : decode cX5_off 21 = .ok (.ifCond .ne 14, 3) := by decide +kernel
theorem dX5_off_24 : decode cX5_off 24 = .ok (.iload_n 3, 1) := by decide +kernel
theorem dX5_off_25 : decode cX5_off 25 = .ok (.iconst 2, 1) := by decide +kernel
theorem dX5_off_26 : decode cX5_off 26 = .ok (.if_icmp .lt 9, 3) := by decide +kernel
theorem dX5_off_29 : decode cX5_off 29 = .ok (.iload_n 3, 1) := by decide +kernel
theorem dX5_off_30 : decode cX5_off 30 = .ok (.bipush 6, 2) := by decide +kernel
theorem dX5_off_32 : decode cX5_off 32 = .ok (.if_icmp .le 6, 3) := by decide +kernel
theorem dX5_off_35 : decode cX5_off 35 = .ok (.bipush (-102), 2) := by decide +kernel
theorem dX5_off_37 : decode cX5_off 37 = .ok (.ireturn, 1) := by decide +kernel
theorem dX5_off_38 : decode cX5_off 38 = .ok (.aload_n 0, 1) := by decide +kernel
theorem dX5_off_39 : decode cX5_off 39 = .ok (.getfield 10, 3) := by decide +kernel
theorem dX5_off_42 : decode cX5_off 42 = .ok (.iload_n 1, 1) := by decide +kernel
theorem dX5_off_43 : decode cX5_off 43 = .ok (.iload 4, 2) := by decide +kernel
theorem dX5_off_45 : decode cX5_off 45 = .ok (.invokevirtual 72, 3) := by decide +kernel
theorem dX5_off_48 : decode cX5_off 48 = .ok (.iload_n 2, 1) := by decide +kernel
theorem dX5_off_49 : decode cX5_off 49 = .ok (.iload_n 3, 1) := by decide +kernel
theorem dX5_off_50 : decode cX5_off 50 = .ok (.iload 4, 2) := by decide +kernel
theorem dX5_off_52 : decode cX5_off 52 = .ok (.invokevirtual 95, 3) := by decide +kernel
theorem dX5_off_55 : decode cX5_off 55 = .ok (.ireturn, 1) := by decide +kernel
set_option maxRecDepth 20000 in
theorem ggX5_add_X5_isLetter : GoodIn wsX5_add wsX5_isLetter := goodIn_r _ [5] (by decide +kernel) (by decide +kernel)
set_option maxRecDepth 20000 in
theorem gX5_add_X5_isLetter : GoodIn wsX5_add (va_wsS RX5 99 yX5_isLetter wsX5_isLetter) := goodIn_app (goodIn_of _ (by decide +kernel)) ggX5_add_X5_isLetter
set_option maxRecDepth 20000 in
theorem ggX5_add_X4_put : GoodIn wsX5_add wsX4_put := goodIn_r _ [10, 11, 12, 24, 25] (by decide +kernel) (by decide +kernel)
set_option maxRecDepth 20000 in
theorem gX5_add_X4_put : GoodIn wsX5_add (wsV RX5 102 RX4 yX4_put wsX4_put) := goodIn_app (goodIn_of _ (by decide +kernel)) ggX5_add_X4_put
set_option maxRecDepth 20000 in
theorem ggX5_add_X4_size : GoodIn wsX5_add wsX4_size := goodIn_r _ [16, 11, 24, 25] (by decide +kernel) (by decide +kernel)
set_option maxRecDepth 20000 in
theorem gX5_add_X4_size : GoodIn wsX5_add (wsV RX5 105 RX4 yX4_size wsX4_size) := goodIn_app (goodIn_of _ (by decide +kernel)) ggX5_add_X4_size
theorem dX5_add_0 : decode cX5_add 0 = .ok (.iload_n 1, 1) := by decide +kernel
theorem dX5_add_1 : decode cX5_add 1 = .ok (.invokestatic 99, 3) := by decide +kernel
theorem dX5_add_4 : decode cX5_add 4 = .ok (.ifCond .ne 6, 3) := by decide +kernel
theorem dX5_add_7 : decode cX5_add 7 = .ok (.bipush (-102), 2) := by decide +kernel
theorem dX5_add_9 : decode cX5_add 9 = .ok (.ireturn, 1) := by decide +kernel
theorem dX5_add_10 : decode cX5_add 10 = .ok (.aload_n 0, 1) := by decide +kernel
theorem dX5_add_11 : decode cX5_add 11 = .ok (.getfield 19, 3) := by decide +kernel
theorem dX5_add_14 : decode cX5_add 14 = .ok (.iload_n 1, 1) := by decide +kernel
theorem dX5_add_15 : decode cX5_add 15 = .ok (.invokevirtual 102, 3) := by decide +kernel
theorem dX5_add_18 : decode cX5_add 18 = .ok (.ifCond .ne 6, 3) := by decide +kernel
theorem dX5_add_21 : decode cX5_add 21 = .ok (.bipush (-104), 2) := by decide +kernel
theorem dX5_add_23 : decode cX5_add 23 = .ok (.ireturn, 1) := by decide +kernel
theorem dX5_add_24 : decode cX5_add 24 = .ok (.aload_n 0, 1) := by decide +kernel
theorem dX5_add_25 : decode cX5_add 25 = .ok (.getfield 19, 3) := by decide +kernel
theorem dX5_add_28 : decode cX5_add 28 = .ok (.invokevirtual 105, 3) := by decide +kernel
theorem dX5_add_31 : decode cX5_add 31 = .ok (.ireturn, 1) := by decide +kernel
set_option maxRecDepth 20000 in
theorem ggX5_take_X1_hasRow : GoodIn wsX5_take wsX1_hasRow := goodIn_r _ [8, 9, 10, 113, 114, 115, 116] (by decide +kernel) (by decide +kernel)
set_option maxRecDepth 20000 in
theorem gX5_take_X1_hasRow : GoodIn wsX5_take (wsV RX5 64 RX1 yX1_hasRow wsX1_hasRow) := goodIn_app (goodIn_of _ (by decide +kernel)) ggX5_take_X1_hasRow
set_option maxRecDepth 20000 in
theorem ggX5_take_X5_isOutside : GoodIn wsX5_take wsX5_isOutside := goodIn_r _ [14] (by decide +kernel) (by decide +kernel)
set_option maxRecDepth 20000 in
theorem gX5_take_X5_isOutside : GoodIn wsX5_take (va_wsS RX5 68 yX5_isOutside wsX5_isOutside) := goodIn_app (goodIn_of _ (by decide +kernel)) ggX5_take_X5_isOutside
set_option maxRecDepth 20000 in
theorem ggX5_take_X1_rowOf : GoodIn wsX5_take wsX1_rowOf := goodIn_r _ [18, 10, 19, 20, 5, 6, 7, 8, 9, 21, 22, 23, 24, 25, 26, 27, 28, 29, 30, 31, 32, 33, 34, 35, 36, 37, 38, 39, 40, 41, 42, 43, 44, 45, 46, 47, 48, 49, 50, 51, 52, 53, 54, 55, 56, 57, 58, 59, 60, 61, 62, 63, 64, 65, 66, 67, 68, 69, 70, 71, 72, 73, 74, 75, 76, 77, 78, 13, 79, 80, 81, 82, 83, 84, 85, 86, 87, 88, 89, 90, 91, 92, 93, 113, 114, 115, 116, 117, 118, 119, 120, 121, 122] (by decide +kernel) (by decide +kernel)
set_option maxRecDepth 20000 in
theorem gX5_take_X1_rowOf : GoodIn wsX5_take (wsV RX5 72 RX1 yX1_rowOf wsX1_rowOf) := goodIn_app (goodIn_of _ (by decide +kernel)) ggX5_take_X1_rowOf
set_option maxRecDepth 20000 in
theorem ggX5_take_X4_empty : GoodIn wsX5_take wsX4_empty := goodIn_r _ [98, 99, 123, 124] (by decide +kernel) (by decide +kernel)
set_option maxRecDepth 20000 in
theorem gX5_take_X4_empty : GoodIn wsX5_take (wsV RX5 109 RX4 yX4_empty wsX4_empty) := goodIn_app (goodIn_of _ (by decide +kernel)) ggX5_take_X4_empty
set_option maxRecDepth 20000 in
theorem ggX5_take_X2_number : GoodIn wsX5_take wsX2_number := goodIn_r _ [72, 26, 73, 117, 118, 119, 120] (by decide +kernel) (by decide +kernel)
set_option maxRecDepth 20000 in
theorem gX5_take_X2_number : GoodIn wsX5_take (wsV RX5 76 RX2 yX2_number wsX2_number) := goodIn_app (goodIn_of _ (by decide +kernel)) ggX5_take_X2_number
set_option maxRecDepth 20000 in
theorem ggX5_take_X4_put : GoodIn wsX5_take wsX4_put := goodIn_r _ [104, 99, 105, 123, 124] (by decide +kernel) (by decide +kernel)
set_option maxRecDepth 20000 in
theorem gX5_take_X4_put : GoodIn wsX5_take (wsV RX5 102 RX4 yX4_put wsX4_put) := goodIn_app (goodIn_of _ (by decide +kernel)) ggX5_take_X4_put
theorem dX5_take_0 : decode cX5_take 0 = .ok (.aload_n 0, 1) := by decide +kernel
theorem dX5_take_1 : decode cX5_take 1 = .ok (.getfield 10, 3) := by decide +kernel
theorem dX5_take_4 : decode cX5_take 4 = .ok (.iload_n 1, 1) := by decide +kernel
theorem dX5_take_5 : decode cX5_take 5 = .ok (.invokevirtual 64, 3) := by decide +kernel
theorem dX5_take_8 : decode cX5_take 8 = .ok (.ifCond .ne 6, 3) := by decide +kernel
theorem dX5_take_11 : decode cX5_take 11 = .ok (.bipush (-101), 2) := by decide +kernel
theorem dX5_take_13 : decode cX5_take 13 = .ok (.ireturn, 1) := by decide +kernel
theorem dX5_take_14 : decode cX5_take 14 = .ok (.iload_n 2, 1) := by decide +kernel
theorem dX5_take_15 : decode cX5_take 15 = .ok (.ldc 67, 2) := by decide +kernel
theorem dX5_take_17 : decode cX5_take 17 = .ok (.invokestatic 68, 3) := by decide +kernel
theorem dX5_take_20 : decode cX5_take 20 = .ok (.ifCond .ne 12, 3) := by decide +kernel
theorem dX5_take_23 : decode cX5_take 23 = .ok (.iload_n 3, 1) := by decide +kernel
theorem dX5_take_24 : decode cX5_take 24 = .ok (.bipush 60, 2) := by decide +kernel
theorem dX5_take_26 : decode cX5_take 26 = .ok (.invokestatic 68, 3) := by decide +kernel
theorem dX5_take_29 : decode cX5_take 29 = .ok (.ifCond .eq 6, 3) := by decide +kernel
theorem dX5_take_32 : decode cX5_take 32 = .ok (.bipush (-102), 2) := by decide +kernel
theorem dX5_take_34 : decode cX5_take 34 = .ok (.ireturn, 1) := by decide +kernel
theorem dX5_take_35 : decode cX5_take 35 = .ok (.iload_n 2, 1) := by decide +kernel
theorem dX5_take_36 : decode cX5_take 36 = .ok (.iload_n 3, 1) := by decide +kernel
theorem dX5_take_37 : decode cX5_take 37 = .ok (.iadd, 1) := by decide +kernel
theorem dX5_take_38 : decode cX5_take 38 = .ok (.iconst 1, 1) := by decide +kernel
theorem dX5_take_39 : decode cX5_take 39 = .ok (.isub, 1) := by decide +kernel
theorem dX5_take_40 : decode cX5_take 40 = .ok (.ldc 67, 2) := by decide +kernel
theorem dX5_take_42 : decode cX5_take 42 = .ok (.if_icmp .le 6, 3) := by decide +kernel
theorem dX5_take_45 : decode cX5_take 45 = .ok (.bipush (-102), 2) := by decide +kernel
theorem dX5_take_47 : decode cX5_take 47 = .ok (.ireturn, 1) := by decide +kernel
theorem dX5_take_48 : decode cX5_take 48 = .ok (.aload_n 0, 1) := by decide +kernel
theorem dX5_take_49 : decode cX5_take 49 = .ok (.getfield 10, 3) := by decide +kernel
theorem dX5_take_52 : decode cX5_take 52 = .ok (.iload_n 1, 1) := by decide +kernel
theorem dX5_take_53 : decode cX5_take 53 = .ok (.iload_n 2, 1) := by decide +kernel
theorem dX5_take_54 : decode cX5_take 54 = .ok (.iload_n 3, 1) := by decide +kernel
theorem dX5_take_55 : decode cX5_take 55 = .ok (.iadd, 1) := by decide +kernel
theorem dX5_take_56 : decode cX5_take 56 = .ok (.invokevirtual 72, 3) := by decide +kernel
theorem dX5_take_59 : decode cX5_take 59 = .ok (.astore 4, 2) := by decide +kernel
theorem dX5_take_61 : decode cX5_take 61 = .ok (.aload_n 0, 1) := by decide +kernel
theorem dX5_take_62 : decode cX5_take 62 = .ok (.getfield 19, 3) := by decide +kernel
theorem dX5_take_65 : decode cX5_take 65 = .ok (.invokevirtual 109, 3) := by decide +kernel
theorem dX5_take_68 : decode cX5_take 68 = .ok (.iconst 0, 1) := by decide +kernel
theorem dX5_take_69 : decode cX5_take 69 = .ok (.istore 5, 2) := by decide +kernel
theorem dX5_take_71 : decode cX5_take 71 = .ok (.iload 5, 2) := by decide +kernel
theorem dX5_take_73 : decode cX5_take 73 = .ok (.iload_n 3, 1) := by decide +kernel
theorem dX5_take_74 : decode cX5_take 74 = .ok (.if_icmp .ge 26, 3) := by decide +kernel
theorem dX5_take_77 : decode cX5_take 77 = .ok (.aload_n 0, 1) := by decide +kernel
theorem dX5_take_78 : decode cX5_take 78 = .ok (.getfield 19, 3) := by decide +kernel
theorem dX5_take_81 : decode cX5_take 81 = .ok (.aload 4, 2) := by decide +kernel
theorem dX5_take_83 : decode cX5_take 83 = .ok (.iload_n 2, 1) := by decide +kernel
theorem dX5_take_84 : decode cX5_take 84 = .ok (.iload 5, 2) := by decide +kernel
theorem dX5_take_86 : decode cX5_take 86 = .ok (.iadd, 1) := by decide +kernel
theorem dX5_take_87 : decode cX5_take 87 = .ok (.invokevirtual 76, 3) := by decide +kernel
theorem dX5_take_90 : decode cX5_take 90 = .ok (.invokevirtual 102, 3) := by decide +kernel
theorem dX5_take_93 : decode cX5_take 93 = .ok (.pop, 1) := by decide +kernel
theorem dX5_take_94 : decode cX5_take 94 = .ok (.iinc 5 1, 3) := by decide +kernel
theorem dX5_take_97 : decode cX5_take 97 = .ok (.goto (-26), 3) := by decide +kernel
theorem dX5_take_100 : decode cX5_take 100 = .ok (.iload_n 3, 1) := by decide +kernel
theorem dX5_take_101 : decode cX5_take 101 = .ok (.ireturn, 1) := by decide +kernel
set_option maxRecDepth 20000 in
theorem ggX5_clear_X4_size : GoodIn wsX5_clear wsX4_size := goodIn_r _ [6, 7, 19, 20] (by decide +kernel) (by decide +kernel)
set_option maxRecDepth 20000 in
theorem gX5_clear_X4_size : GoodIn wsX5_clear (wsV RX5 105 RX4 yX4_size wsX4_size) := goodIn_app (goodIn_of _ (by decide +kernel)) ggX5_clear_X4_size
set_option maxRecDepth 20000 in
theorem ggX5_clear_X4_empty : GoodIn wsX5_clear wsX4_empty := goodIn_r _ [11, 7, 19, 20] (by decide +kernel) (by decide +kernel)
set_option maxRecDepth 20000 in
theorem gX5_clear_X4_empty : GoodIn wsX5_clear (wsV RX5 109 RX4 yX4_empty wsX4_empty) := goodIn_app (goodIn_of _ (by decide +kernel)) ggX5_clear_X4_empty
theorem dX5_clear_0 : decode cX5_clear 0 = .ok (.aload_n 0, 1) := by decide +kernel
theorem dX5_clear_1 : decode cX5_clear 1 = .ok (.getfield 19, 3) := by decide +kernel
theorem dX5_clear_4 : decode cX5_clear 4 = .ok (.invokevirtual 105, 3) := by decide +kernel
theorem dX5_clear_7 : decode cX5_clear 7 = .ok (.istore_n 1, 1) := by decide +kernel
theorem dX5_clear_8 : decode cX5_clear 8 = .ok (.aload_n 0, 1) := by decide +kernel
theorem dX5_clear_9 : decode cX5_clear 9 = .ok (.getfield 19, 3) := by decide +kernel
theorem dX5_clear_12 : decode cX5_clear 12 = .ok (.invokevirtual 109, 3) := by decide +kernel
theorem dX5_clear_15 : decode cX5_clear 15 = .ok (.iload_n 1, 1) := by decide +kernel
theorem dX5_clear_16 : decode cX5_clear 16 = .ok (.ireturn, 1) := by decide +kernel
set_option maxRecDepth 20000 in
theorem ggX5_letter_X4_letterAt : GoodIn wsX5_letter wsX4_letterAt := goodIn_r _ [6, 7, 8, 16, 17] (by decide +kernel) (by decide +kernel)
set_option maxRecDepth 20000 in
theorem gX5_letter_X4_letterAt : GoodIn wsX5_letter (wsV RX5 112 RX4 yX4_letterAt wsX4_letterAt) := goodIn_app (goodIn_of _ (by decide +kernel)) ggX5_letter_X4_letterAt
theorem dX5_letter_0 : decode cX5_letter 0 = .ok (.aload_n 0, 1) := by decide +kernel
theorem dX5_letter_1 : decode cX5_letter 1 = .ok (.getfield 19, 3) := by decide +kernel
theorem dX5_letter_4 : decode cX5_letter 4 = .ok (.iload_n 1, 1) := by decide +kernel
theorem dX5_letter_5 : decode cX5_letter 5 = .ok (.invokevirtual 112, 3) := by decide +kernel
theorem dX5_letter_8 : decode cX5_letter 8 = .ok (.ireturn, 1) := by decide +kernel
set_option maxRecDepth 20000 in
theorem ggX5_runs_X4_runsInIt : GoodIn wsX5_runs wsX4_runsInIt := goodIn_r _ [6, 7, 8, 9, 10, 5, 11, 12, 13, 14, 15, 16, 24, 25] (by decide +kernel) (by decide +kernel)
set_option maxRecDepth 20000 in
theorem gX5_runs_X4_runsInIt : GoodIn wsX5_runs (wsV RX5 115 RX4 yX4_runsInIt wsX4_runsInIt) := goodIn_app (goodIn_of _ (by decide +kernel)) ggX5_runs_X4_runsInIt
theorem dX5_runs_0 : decode cX5_runs 0 = .ok (.aload_n 0, 1) := by decide +kernel
theorem dX5_runs_1 : decode cX5_runs 1 = .ok (.getfield 19, 3) := by decide +kernel
theorem dX5_runs_4 : decode cX5_runs 4 = .ok (.invokevirtual 115, 3) := by decide +kernel
theorem dX5_runs_7 : decode cX5_runs 7 = .ok (.ireturn, 1) := by decide +kernel
set_option maxRecDepth 20000 in
theorem ggX5_shorten_X5_isLetter : GoodIn wsX5_shorten wsX5_isLetter := goodIn_r _ [5] (by decide +kernel) (by decide +kernel)
set_option maxRecDepth 20000 in
theorem gX5_shorten_X5_isLetter : GoodIn wsX5_shorten (va_wsS RX5 99 yX5_isLetter wsX5_isLetter) := goodIn_app (goodIn_of _ (by decide +kernel)) ggX5_shorten_X5_isLetter
set_option maxRecDepth 20000 in
theorem ggX5_shorten_X4_longestRun : GoodIn wsX5_shorten wsX4_longestRun := goodIn_r _ [10, 11, 12, 13, 14, 15, 16, 17, 18, 9, 19, 20, 21, 22, 23, 24, 44, 45] (by decide +kernel) (by decide +kernel)
set_option maxRecDepth 20000 in
theorem gX5_shorten_X4_longestRun : GoodIn wsX5_shorten (wsV RX5 118 RX4 yX4_longestRun wsX4_longestRun) := goodIn_app (goodIn_of _ (by decide +kernel)) ggX5_shorten_X4_longestRun
set_option maxRecDepth 20000 in
theorem ggX5_shorten_X4_becomeShorter : GoodIn wsX5_shorten wsX4_becomeShorter := goodIn_r _ [28, 11, 16, 17, 18, 9, 19, 20, 21, 22, 23, 24, 29, 30, 31, 32, 44, 45] (by decide +kernel) (by decide +kernel)
set_option maxRecDepth 20000 in
theorem gX5_shorten_X4_becomeShorter : GoodIn wsX5_shorten (wsV RX5 121 RX4 yX4_becomeShorter wsX4_becomeShorter) := goodIn_app (goodIn_of _ (by decide +kernel)) ggX5_shorten_X4_becomeShorter
set_option maxRecDepth 20000 in
theorem ggX5_shorten_X4_size : GoodIn wsX5_shorten wsX4_size := goodIn_r _ [36, 11, 44, 45] (by decide +kernel) (by decide +kernel)
set_option maxRecDepth 20000 in
theorem gX5_shorten_X4_size : GoodIn wsX5_shorten (wsV RX5 105 RX4 yX4_size wsX4_size) := goodIn_app (goodIn_of _ (by decide +kernel)) ggX5_shorten_X4_size
theorem dX5_shorten_0 : decode cX5_shorten 0 = .ok (.iload_n 1, 1) := by decide +kernel
theorem dX5_shorten_1 : decode cX5_shorten 1 = .ok (.invokestatic 99, 3) := by decide +kernel
theorem dX5_shorten_4 : decode cX5_shorten 4 = .ok (.ifCond .ne 6, 3) := by decide +kernel
theorem dX5_shorten_7 : decode cX5_shorten 7 = .ok (.bipush (-102), 2) := by decide +kernel
theorem dX5_shorten_9 : decode cX5_shorten 9 = .ok (.ireturn, 1) := by decide +kernel
theorem dX5_shorten_10 : decode cX5_shorten 10 = .ok (.aload_n 0, 1) := by decide +kernel
theorem dX5_shorten_11 : decode cX5_shorten 11 = .ok (.getfield 19, 3) := by decide +kernel
theorem dX5_shorten_14 : decode cX5_shorten 14 = .ok (.invokevirtual 118, 3) := by decide +kernel
theorem dX5_shorten_17 : decode cX5_shorten 17 = .ok (.bipush 6, 2) := by decide +kernel
theorem dX5_shorten_19 : decode cX5_shorten 19 = .ok (.if_icmp .le 6, 3) := by decide +kernel
theorem dX5_shorten_22 : decode cX5_shorten 22 = .ok (.bipush (-103), 2) := by decide +kernel
theorem dX5_shorten_24 : decode cX5_shorten 24 = .ok (.ireturn, 1) := by decide +kernel
theorem dX5_shorten_25 : decode cX5_shorten 25 = .ok (.aload_n 0, 1) := by decide +kernel
theorem dX5_shorten_26 : decode cX5_shorten 26 = .ok (.getfield 19, 3) := by decide +kernel
theorem dX5_shorten_29 : decode cX5_shorten 29 = .ok (.iload_n 1, 1) := by decide +kernel
theorem dX5_shorten_30 : decode cX5_shorten 30 = .ok (.invokevirtual 121, 3) := by decide +kernel
theorem dX5_shorten_33 : decode cX5_shorten 33 = .ok (.aload_n 0, 1) := by decide +kernel
theorem dX5_shorten_34 : decode cX5_shorten 34 = .ok (.getfield 19, 3) := by decide +kernel
theorem dX5_shorten_37 : decode cX5_shorten 37 = .ok (.invokevirtual 105, 3) := by decide +kernel
theorem dX5_shorten_40 : decode cX5_shorten 40 = .ok (.ireturn, 1) := by decide +kernel
set_option maxRecDepth 20000 in
theorem ggX5_lengthen_X1_alphabetNamed : GoodIn wsX5_lengthen wsX1_alphabetNamed := goodIn_r _ [8, 9, 62, 63, 64, 65] (by decide +kernel) (by decide +kernel)
set_option maxRecDepth 20000 in
theorem gX5_lengthen_X1_alphabetNamed : GoodIn wsX5_lengthen (wsV RX5 43 RX1 yX1_alphabetNamed wsX1_alphabetNamed) := goodIn_app (goodIn_of _ (by decide +kernel)) ggX5_lengthen_X1_alphabetNamed
set_option maxRecDepth 20000 in
theorem ggX5_lengthen_X0_size : GoodIn wsX5_lengthen wsX0_size := goodIn_r _ [14, 15, 66, 67] (by decide +kernel) (by decide +kernel)
set_option maxRecDepth 20000 in
theorem gX5_lengthen_X0_size : GoodIn wsX5_lengthen (wsV RX5 125 RX0 yX0_size wsX0_size) := goodIn_app (goodIn_of _ (by decide +kernel)) ggX5_lengthen_X0_size
set_option maxRecDepth 20000 in
theorem ggX5_lengthen_X4_total : GoodIn wsX5_lengthen wsX4_total := goodIn_r _ [20, 21, 22, 23, 24, 19, 25, 26, 68, 69] (by decide +kernel) (by decide +kernel)
set_option maxRecDepth 20000 in
theorem gX5_lengthen_X4_total : GoodIn wsX5_lengthen (wsV RX5 126 RX4 yX4_total wsX4_total) := goodIn_app (goodIn_of _ (by decide +kernel)) ggX5_lengthen_X4_total
set_option maxRecDepth 20000 in
theorem ggX5_lengthen_X4_become : GoodIn wsX5_lengthen wsX4_become := goodIn_r _ [30, 31, 32, 33, 19, 34, 21, 35, 36, 37, 38, 22, 23, 24, 25, 26, 39, 40, 41, 42, 68, 69] (by decide +kernel) (by decide +kernel)
set_option maxRecDepth 20000 in
theorem gX5_lengthen_X4_become : GoodIn wsX5_lengthen (wsV RX5 129 RX4 yX4_become wsX4_become) := goodIn_app (goodIn_of _ (by decide +kernel)) ggX5_lengthen_X4_become
set_option maxRecDepth 20000 in
theorem ggX5_lengthen_X4_empty : GoodIn wsX5_lengthen wsX4_empty := goodIn_r _ [34, 21, 68, 69] (by decide +kernel) (by decide +kernel)
set_option maxRecDepth 20000 in
theorem gX5_lengthen_X4_empty : GoodIn wsX5_lengthen (wsV RX5 109 RX4 yX4_empty wsX4_empty) := goodIn_app (goodIn_of _ (by decide +kernel)) ggX5_lengthen_X4_empty
set_option maxRecDepth 20000 in
theorem ggX5_lengthen_X4_size : GoodIn wsX5_lengthen wsX4_size := goodIn_r _ [38, 21, 68, 69] (by decide +kernel) (by decide +kernel)
set_option maxRecDepth 20000 in
theorem gX5_lengthen_X4_size : GoodIn wsX5_lengthen (wsV RX5 105 RX4 yX4_size wsX4_size) := goodIn_app (goodIn_of _ (by decide +kernel)) ggX5_lengthen_X4_size
set_option maxRecDepth 20000 in
theorem ggX5_lengthen_X0_letterOfRun : GoodIn wsX5_lengthen wsX0_letterOfRun := goodIn_r _ [48, 15, 49, 66, 67] (by decide +kernel) (by decide +kernel)
set_option maxRecDepth 20000 in
theorem gX5_lengthen_X0_letterOfRun : GoodIn wsX5_lengthen (wsV RX5 133 RX0 yX0_letterOfRun wsX0_letterOfRun) := goodIn_app (goodIn_of _ (by decide +kernel)) ggX5_lengthen_X0_letterOfRun
set_option maxRecDepth 20000 in
theorem ggX5_lengthen_X4_letterAt : GoodIn wsX5_lengthen wsX4_letterAt := goodIn_r _ [25, 21, 26, 68, 69] (by decide +kernel) (by decide +kernel)
set_option maxRecDepth 20000 in
theorem gX5_lengthen_X4_letterAt : GoodIn wsX5_lengthen (wsV RX5 112 RX4 yX4_letterAt wsX4_letterAt) := goodIn_app (goodIn_of _ (by decide +kernel)) ggX5_lengthen_X4_letterAt
set_option maxRecDepth 20000 in
theorem ggX5_lengthen_X4_putTimes : GoodIn wsX5_lengthen wsX4_putTimes := goodIn_r _ [54, 39, 40, 41, 19, 42, 21, 26, 68, 69] (by decide +kernel) (by decide +kernel)
set_option maxRecDepth 20000 in
theorem gX5_lengthen_X4_putTimes : GoodIn wsX5_lengthen (wsV RX5 136 RX4 yX4_putTimes wsX4_putTimes) := goodIn_app (goodIn_of _ (by decide +kernel)) ggX5_lengthen_X4_putTimes
theorem dX5_lengthen_0 : decode cX5_lengthen 0 = .ok (.aload_n 0, 1) := by decide +kernel
theorem dX5_lengthen_1 : decode cX5_lengthen 1 = .ok (.getfield 10, 3) := by decide +kernel
theorem dX5_lengthen_4 : decode cX5_lengthen 4 = .ok (.iload_n 1, 1) := by decide +kernel
theorem dX5_lengthen_5 : decode cX5_lengthen 5 = .ok (.i2l, 1) := by decide +kernel
theorem dX5_lengthen_6 : decode cX5_lengthen 6 = .ok (.invokevirtual 43, 3) := by decide +kernel
theorem dX5_lengthen_9 : decode cX5_lengthen 9 = .ok (.astore_n 3, 1) := by decide +kernel
theorem dX5_lengthen_10 : decode cX5_lengthen 10 = .ok (.aload_n 3, 1) := by decide +kernel
theorem dX5_lengthen_11 : decode cX5_lengthen 11 = .ok (.ifnonnull 6, 3) := by decide +kernel
theorem dX5_lengthen_14 : decode cX5_lengthen 14 = .ok (.bipush (-101), 2) := by decide +kernel
theorem dX5_lengthen_16 : decode cX5_lengthen 16 = .ok (.ireturn, 1) := by decide +kernel
theorem dX5_lengthen_17 : decode cX5_lengthen 17 = .ok (.iload_n 2, 1) := by decide +kernel
theorem dX5_lengthen_18 : decode cX5_lengthen 18 = .ok (.ifCond .lt 11, 3) := by decide +kernel
theorem dX5_lengthen_21 : decode cX5_lengthen 21 = .ok (.iload_n 2, 1) := by decide +kernel
theorem dX5_lengthen_22 : decode cX5_lengthen 22 = .ok (.aload_n 3, 1) := by decide +kernel
theorem dX5_lengthen_23 : decode cX5_lengthen 23 = .ok (.invokevirtual 125, 3) := by decide +kernel
theorem dX5_lengthen_26 : decode cX5_lengthen 26 = .ok (.if_icmp .lt 6, 3) := by decide +kernel
theorem dX5_lengthen_29 : decode cX5_lengthen 29 = .ok (.bipush (-102), 2) := by decide +kernel
theorem dX5_lengthen_31 : decode cX5_lengthen 31 = .ok (.ireturn, 1) := by decide +kernel
theorem dX5_lengthen_32 : decode cX5_lengthen 32 = .ok (.aload_n 0, 1) := by decide +kernel
theorem dX5_lengthen_33 : decode cX5_lengthen 33 = .ok (.getfield 19, 3) := by decide +kernel
theorem dX5_lengthen_36 : decode cX5_lengthen 36 = .ok (.invokevirtual 126, 3) := by decide +kernel
theorem dX5_lengthen_39 : decode cX5_lengthen 39 = .ok (.bipush 60, 2) := by decide +kernel
theorem dX5_lengthen_41 : decode cX5_lengthen 41 = .ok (.if_icmp .le 6, 3) := by decide +kernel
theorem dX5_lengthen_44 : decode cX5_lengthen 44 = .ok (.bipush (-104), 2) := by decide +kernel
theorem dX5_lengthen_46 : decode cX5_lengthen 46 = .ok (.ireturn, 1) := by decide +kernel
theorem dX5_lengthen_47 : decode cX5_lengthen 47 = .ok (.aload_n 0, 1) := by decide +kernel
theorem dX5_lengthen_48 : decode cX5_lengthen 48 = .ok (.getfield 23, 3) := by decide +kernel
theorem dX5_lengthen_51 : decode cX5_lengthen 51 = .ok (.aload_n 0, 1) := by decide +kernel
theorem dX5_lengthen_52 : decode cX5_lengthen 52 = .ok (.getfield 19, 3) := by decide +kernel
theorem dX5_lengthen_55 : decode cX5_lengthen 55 = .ok (.invokevirtual 129, 3) := by decide +kernel
theorem dX5_lengthen_58 : decode cX5_lengthen 58 = .ok (.aload_n 0, 1) := by decide +kernel
theorem dX5_lengthen_59 : decode cX5_lengthen 59 = .ok (.getfield 19, 3) := by decide +kernel
theorem dX5_lengthen_62 : decode cX5_lengthen 62 = .ok (.invokevirtual 109, 3) := by decide +kernel
theorem dX5_lengthen_65 : decode cX5_lengthen 65 = .ok (.iconst 0, 1) := by decide +kernel
theorem dX5_lengthen_66 : decode cX5_lengthen 66 = .ok (.istore 4, 2) := by decide +kernel
theorem dX5_lengthen_68 : decode cX5_lengthen 68 = .ok (.iload 4, 2) := by decide +kernel
theorem dX5_lengthen_70 : decode cX5_lengthen 70 = .ok (.aload_n 0, 1) := by decide +kernel
theorem dX5_lengthen_71 : decode cX5_lengthen 71 = .ok (.getfield 23, 3) := by decide +kernel
theorem dX5_lengthen_74 : decode cX5_lengthen 74 = .ok (.invokevirtual 105, 3) := by decide +kernel
theorem dX5_lengthen_77 : decode cX5_lengthen 77 = .ok (.if_icmp .ge 33, 3) := by decide +kernel
theorem dX5_lengthen_80 : decode cX5_lengthen 80 = .ok (.aload_n 0, 1) := by decide +kernel
theorem dX5_lengthen_81 : decode cX5_lengthen 81 = .ok (.getfield 19, 3) := by decide +kernel
theorem dX5_lengthen_84 : decode cX5_lengthen 84 = .ok (.aload_n 3, 1) := by decide +kernel
theorem dX5_lengthen_85 : decode cX5_lengthen 85 = .ok (.iload_n 2, 1) := by decide +kernel
theorem dX5_lengthen_86 : decode cX5_lengthen 86 = .ok (.iload 4, 2) := by decide +kernel
theorem dX5_lengthen_88 : decode cX5_lengthen 88 = .ok (.iadd, 1) := by decide +kernel
theorem dX5_lengthen_89 : decode cX5_lengthen 89 = .ok (.invokevirtual 133, 3) := by decide +kernel
theorem dX5_lengthen_92 : decode cX5_lengthen 92 = .ok (.aload_n 0, 1) := by decide +kernel
theorem dX5_lengthen_93 : decode cX5_lengthen 93 = .ok (.getfield 23, 3) := by decide +kernel
theorem dX5_lengthen_96 : decode cX5_lengthen 96 = .ok (.iload 4, 2) := by decide +kernel
theorem dX5_lengthen_98 : decode cX5_lengthen 98 = .ok (.invokevirtual 112, 3) := by decide +kernel
theorem dX5_lengthen_101 : decode cX5_lengthen 101 = .ok (.invokevirtual 136, 3) := by decide +kernel
theorem dX5_lengthen_104 : decode cX5_lengthen 104 = .ok (.iinc 4 1, 3) := by decide +kernel
theorem dX5_lengthen_107 : decode cX5_lengthen 107 = .ok (.goto (-39), 3) := by decide +kernel
theorem dX5_lengthen_110 : decode cX5_lengthen 110 = .ok (.aload_n 0, 1) := by decide +kernel
theorem dX5_lengthen_111 : decode cX5_lengthen 111 = .ok (.getfield 19, 3) := by decide +kernel
theorem dX5_lengthen_114 : decode cX5_lengthen 114 = .ok (.invokevirtual 105, 3) := by decide +kernel
theorem dX5_lengthen_117 : decode cX5_lengthen 117 = .ok (.ireturn, 1) := by decide +kernel
set_option maxRecDepth 20000 in
theorem ggX5_mirror_X4_turnRound : GoodIn wsX5_mirror wsX4_turnRound := goodIn_r _ [6, 7, 8, 9, 10, 5, 11, 12, 13, 14, 15, 16, 28, 29] (by decide +kernel) (by decide +kernel)
set_option maxRecDepth 20000 in
theorem gX5_mirror_X4_turnRound : GoodIn wsX5_mirror (wsV RX5 140 RX4 yX4_turnRound wsX4_turnRound) := goodIn_app (goodIn_of _ (by decide +kernel)) ggX5_mirror_X4_turnRound
set_option maxRecDepth 20000 in
theorem ggX5_mirror_X4_size : GoodIn wsX5_mirror wsX4_size := goodIn_r _ [20, 7, 28, 29] (by decide +kernel) (by decide +kernel)
set_option maxRecDepth 20000 in
theorem gX5_mirror_X4_size : GoodIn wsX5_mirror (wsV RX5 105 RX4 yX4_size wsX4_size) := goodIn_app (goodIn_of _ (by decide +kernel)) ggX5_mirror_X4_size
theorem dX5_mirror_0 : decode cX5_mirror 0 = .ok (.aload_n 0, 1) := by decide +kernel
theorem dX5_mirror_1 : decode cX5_mirror 1 = .ok (.getfield 19, 3) := by decide +kernel
theorem dX5_mirror_4 : decode cX5_mirror 4 = .ok (.invokevirtual 140, 3) := by decide +kernel
theorem dX5_mirror_7 : decode cX5_mirror 7 = .ok (.aload_n 0, 1) := by decide +kernel
theorem dX5_mirror_8 : decode cX5_mirror 8 = .ok (.getfield 19, 3) := by decide +kernel
theorem dX5_mirror_11 : decode cX5_mirror 11 = .ok (.invokevirtual 105, 3) := by decide +kernel
theorem dX5_mirror_14 : decode cX5_mirror 14 = .ok (.ireturn, 1) := by decide +kernel
set_option maxRecDepth 20000 in
theorem ggX5_turn_X1_alphabetNamed : GoodIn wsX5_turn wsX1_alphabetNamed := goodIn_r _ [7, 8, 42, 43, 44, 45] (by decide +kernel) (by decide +kernel)
set_option maxRecDepth 20000 in
theorem gX5_turn_X1_alphabetNamed : GoodIn wsX5_turn (wsV RX5 43 RX1 yX1_alphabetNamed wsX1_alphabetNamed) := goodIn_app (goodIn_of _ (by decide +kernel)) ggX5_turn_X1_alphabetNamed
set_option maxRecDepth 20000 in
theorem ggX5_turn_X4_replaceBy : GoodIn wsX5_turn wsX4_replaceBy := goodIn_r _ [13, 14, 15, 16, 17, 12, 18, 19, 20, 21, 22, 23, 24, 25, 26, 27, 28, 29, 30, 31, 32, 33, 34, 46, 47, 48, 49] (by decide +kernel) (by decide +kernel)
set_option maxRecDepth 20000 in
theorem gX5_turn_X4_replaceBy : GoodIn wsX5_turn (wsV RX5 143 RX4 yX4_replaceBy wsX4_replaceBy) := goodIn_app (goodIn_of _ (by decide +kernel)) ggX5_turn_X4_replaceBy
theorem dX5_turn_0 : decode cX5_turn 0 = .ok (.aload_n 0, 1) := by decide +kernel
theorem dX5_turn_1 : decode cX5_turn 1 = .ok (.getfield 10, 3) := by decide +kernel
theorem dX5_turn_4 : decode cX5_turn 4 = .ok (.iload_n 1, 1) := by decide +kernel
theorem dX5_turn_5 : decode cX5_turn 5 = .ok (.i2l, 1) := by decide +kernel
theorem dX5_turn_6 : decode cX5_turn 6 = .ok (.invokevirtual 43, 3) := by decide +kernel
theorem dX5_turn_9 : decode cX5_turn 9 = .ok (.astore_n 2, 1) := by decide +kernel
theorem dX5_turn_10 : decode cX5_turn 10 = .ok (.aload_n 2, 1) := by decide +kernel
theorem dX5_turn_11 : decode cX5_turn 11 = .ok (.ifnonnull 6, 3) := by decide +kernel
theorem dX5_turn_14 : decode cX5_turn 14 = .ok (.bipush (-101), 2) := by decide +kernel
theorem dX5_turn_16 : decode cX5_turn 16 = .ok (.ireturn, 1) := by decide +kernel
theorem dX5_turn_17 : decode cX5_turn 17 = .ok (.aload_n 0, 1) := by decide +kernel
theorem dX5_turn_18 : decode cX5_turn 18 = .ok (.getfield 19, 3) := by decide +kernel
theorem dX5_turn_21 : decode cX5_turn 21 = .ok (.aload_n 2, 1) := by decide +kernel
theorem dX5_turn_22 : decode cX5_turn 22 = .ok (.invokevirtual 143, 3) := by decide +kernel
theorem dX5_turn_25 : decode cX5_turn 25 = .ok (.ireturn, 1) := by decide +kernel
set_option maxRecDepth 20000 in
theorem ggX5_depth_X4_become : GoodIn wsX5_depth wsX4_become := goodIn_r _ [7, 8, 9, 10, 6, 11, 12, 13, 14, 15, 16, 17, 18, 19, 20, 21, 22, 23, 24, 25, 62, 63] (by decide +kernel) (by decide +kernel)
set_option maxRecDepth 20000 in
theorem gX5_depth_X4_become : GoodIn wsX5_depth (wsV RX5 129 RX4 yX4_become wsX4_become) := goodIn_app (goodIn_of _ (by decide +kernel)) ggX5_depth_X4_become
set_option maxRecDepth 20000 in
theorem ggX5_depth_X5_depthSpent : GoodIn wsX5_depth wsX5_depthSpent := goodIn_r _ [29, 30, 14, 15, 6, 16, 12, 31, 32, 33, 34, 35, 36, 37, 38, 17, 18, 19, 20, 21, 39, 40, 41, 42, 43, 44, 45, 46, 47, 48, 49, 50, 51, 52, 53, 54, 62, 63] (by decide +kernel) (by decide +kernel)
set_option maxRecDepth 20000 in
theorem gX5_depth_X5_depthSpent : GoodIn wsX5_depth (va_wsS RX5 147 yX5_depthSpent wsX5_depthSpent) := goodIn_app (goodIn_of _ (by decide +kernel)) ggX5_depth_X5_depthSpent
theorem dX5_depth_0 : decode cX5_depth 0 = .ok (.iload_n 1, 1) := by decide +kernel
theorem dX5_depth_1 : decode cX5_depth 1 = .ok (.iconst 2, 1) := by decide +kernel
theorem dX5_depth_2 : decode cX5_depth 2 = .ok (.if_icmp .lt 9, 3) := by decide +kernel
theorem dX5_depth_5 : decode cX5_depth 5 = .ok (.iload_n 1, 1) := by decide +kernel
theorem dX5_depth_6 : decode cX5_depth 6 = .ok (.bipush 6, 2) := by decide +kernel
theorem dX5_depth_8 : decode cX5_depth 8 = .ok (.if_icmp .le 6, 3) := by decide +kernel
theorem dX5_depth_11 : decode cX5_depth 11 = .ok (.bipush (-102), 2) := by decide +kernel
theorem dX5_depth_13 : decode cX5_depth 13 = .ok (.ireturn, 1) := by decide +kernel
theorem dX5_depth_14 : decode cX5_depth 14 = .ok (.aload_n 0, 1) := by decide +kernel
theorem dX5_depth_15 : decode cX5_depth 15 = .ok (.getfield 23, 3) := by decide +kernel
theorem dX5_depth_18 : decode cX5_depth 18 = .ok (.aload_n 0, 1) := by decide +kernel
theorem dX5_depth_19 : decode cX5_depth 19 = .ok (.getfield 19, 3) := by decide +kernel
theorem dX5_depth_22 : decode cX5_depth 22 = .ok (.invokevirtual 129, 3) := by decide +kernel
theorem dX5_depth_25 : decode cX5_depth 25 = .ok (.aload_n 0, 1) := by decide +kernel
theorem dX5_depth_26 : decode cX5_depth 26 = .ok (.getfield 23, 3) := by decide +kernel
theorem dX5_depth_29 : decode cX5_depth 29 = .ok (.iload_n 1, 1) := by decide +kernel
theorem dX5_depth_30 : decode cX5_depth 30 = .ok (.invokestatic 147, 3) := by decide +kernel
theorem dX5_depth_33 : decode cX5_depth 33 = .ok (.ireturn, 1) := by decide +kernel
set_option maxRecDepth 20000 in
theorem ggX5_many_X5_manyMost : GoodIn wsX5_many wsX5_manyMost := goodIn_r _ [7] (by decide +kernel) (by decide +kernel)
set_option maxRecDepth 20000 in
theorem gX5_many_X5_manyMost : GoodIn wsX5_many (va_wsS RX5 151 yX5_manyMost wsX5_manyMost) := goodIn_app (goodIn_of _ (by decide +kernel)) ggX5_many_X5_manyMost
set_option maxRecDepth 20000 in
theorem ggX5_many_X5_isOutside : GoodIn wsX5_many wsX5_isOutside := goodIn_r _ [10] (by decide +kernel) (by decide +kernel)
set_option maxRecDepth 20000 in
theorem gX5_many_X5_isOutside : GoodIn wsX5_many (va_wsS RX5 68 yX5_isOutside wsX5_isOutside) := goodIn_app (goodIn_of _ (by decide +kernel)) ggX5_many_X5_isOutside
set_option maxRecDepth 20000 in
theorem ggX5_many_X4_empty : GoodIn wsX5_many wsX4_empty := goodIn_r _ [15, 16, 79, 80] (by decide +kernel) (by decide +kernel)
set_option maxRecDepth 20000 in
theorem gX5_many_X4_empty : GoodIn wsX5_many (wsV RX5 109 RX4 yX4_empty wsX4_empty) := goodIn_app (goodIn_of _ (by decide +kernel)) ggX5_many_X4_empty
set_option maxRecDepth 20000 in
theorem ggX5_many_X5_standing : GoodIn wsX5_many wsX5_standing := goodIn_r _ [19, 20, 21, 22, 14, 23, 24, 12, 13, 15, 16, 25, 26, 27, 28, 29, 30, 31, 32, 33, 34, 35, 36, 37, 38, 39, 6, 40, 41, 42, 43, 44, 45, 46, 47, 48, 49, 50, 51, 52, 53, 54, 55, 56, 57, 58, 59, 60, 61, 62, 63, 64, 65, 66, 67, 17, 18, 68, 69, 70, 71, 79, 80] (by decide +kernel) (by decide +kernel)
set_option maxRecDepth 20000 in
theorem gX5_many_X5_standing : GoodIn wsX5_many (va_wsS RX5 154 yX5_standing wsX5_standing) := goodIn_app (goodIn_of _ (by decide +kernel)) ggX5_many_X5_standing
theorem dX5_many_0 : decode cX5_many 0 = .ok (.iload_n 1, 1) := by decide +kernel
theorem dX5_many_1 : decode cX5_many 1 = .ok (.iload_n 2, 1) := by decide +kernel
theorem dX5_many_2 : decode cX5_many 2 = .ok (.invokestatic 151, 3) := by decide +kernel
theorem dX5_many_5 : decode cX5_many 5 = .ok (.invokestatic 68, 3) := by decide +kernel
theorem dX5_many_8 : decode cX5_many 8 = .ok (.ifCond .eq 6, 3) := by decide +kernel
theorem dX5_many_11 : decode cX5_many 11 = .ok (.bipush (-102), 2) := by decide +kernel
theorem dX5_many_13 : decode cX5_many 13 = .ok (.ireturn, 1) := by decide +kernel
theorem dX5_many_14 : decode cX5_many 14 = .ok (.aload_n 0, 1) := by decide +kernel
theorem dX5_many_15 : decode cX5_many 15 = .ok (.getfield 36, 3) := by decide +kernel
theorem dX5_many_18 : decode cX5_many 18 = .ok (.bipush 10, 2) := by decide +kernel
theorem dX5_many_20 : decode cX5_many 20 = .ok (.if_icmp .lt 6, 3) := by decide +kernel
theorem dX5_many_23 : decode cX5_many 23 = .ok (.bipush (-103), 2) := by decide +kernel
theorem dX5_many_25 : decode cX5_many 25 = .ok (.ireturn, 1) := by decide +kernel
theorem dX5_many_26 : decode cX5_many 26 = .ok (.aload_n 0, 1) := by decide +kernel
theorem dX5_many_27 : decode cX5_many 27 = .ok (.dup, 1) := by decide +kernel
theorem dX5_many_28 : decode cX5_many 28 = .ok (.getfield 36, 3) := by decide +kernel
theorem dX5_many_31 : decode cX5_many 31 = .ok (.iconst 1, 1) := by decide +kernel
theorem dX5_many_32 : decode cX5_many 32 = .ok (.iadd, 1) := by decide +kernel
theorem dX5_many_33 : decode cX5_many 33 = .ok (.putfield 36, 3) := by decide +kernel
theorem dX5_many_36 : decode cX5_many 36 = .ok (.aload_n 0, 1) := by decide +kernel
theorem dX5_many_37 : decode cX5_many 37 = .ok (.getfield 26, 3) := by decide +kernel
theorem dX5_many_40 : decode cX5_many 40 = .ok (.invokevirtual 109, 3) := by decide +kernel
theorem dX5_many_43 : decode cX5_many 43 = .ok (.aload_n 0, 1) := by decide +kernel
theorem dX5_many_44 : decode cX5_many 44 = .ok (.getfield 26, 3) := by decide +kernel
theorem dX5_many_47 : decode cX5_many 47 = .ok (.aload_n 0, 1) := by decide +kernel
theorem dX5_many_48 : decode cX5_many 48 = .ok (.getfield 23, 3) := by decide +kernel
theorem dX5_many_51 : decode cX5_many 51 = .ok (.iload_n 1, 1) := by decide +kernel
theorem dX5_many_52 : decode cX5_many 52 = .ok (.iconst 0, 1) := by decide +kernel
theorem dX5_many_53 : decode cX5_many 53 = .ok (.iconst 1, 1) := by decide +kernel
theorem dX5_many_54 : decode cX5_many 54 = .ok (.iload_n 2, 1) := by decide +kernel
theorem dX5_many_55 : decode cX5_many 55 = .ok (.invokestatic 154, 3) := by decide +kernel
theorem dX5_many_58 : decode cX5_many 58 = .ok (.ireturn, 1) := by decide +kernel
set_option maxRecDepth 20000 in
theorem ggX5_isMirror_X4_isSameMirrored : GoodIn wsX5_isMirror wsX4_isSameMirrored := goodIn_r _ [6, 7, 8, 9, 10, 5, 11, 12, 20, 21] (by decide +kernel) (by decide +kernel)
set_option maxRecDepth 20000 in
theorem gX5_isMirror_X4_isSameMirrored : GoodIn wsX5_isMirror (wsV RX5 158 RX4 yX4_isSameMirrored wsX4_isSameMirrored) := goodIn_app (goodIn_of _ (by decide +kernel)) ggX5_isMirror_X4_isSameMirrored
theorem dX5_isMirror_0 : decode cX5_isMirror 0 = .ok (.aload_n 0, 1) := by decide +kernel
theorem dX5_isMirror_1 : decode cX5_isMirror 1 = .ok (.getfield 19, 3) := by decide +kernel
theorem dX5_isMirror_4 : decode cX5_isMirror 4 = .ok (.invokevirtual 158, 3) := by decide +kernel
theorem dX5_isMirror_7 : decode cX5_isMirror 7 = .ok (.ifCond .eq 7, 3) := by decide +kernel
theorem dX5_isMirror_10 : decode cX5_isMirror 10 = .ok (.iconst 1, 1) := by decide +kernel
theorem dX5_isMirror_11 : decode cX5_isMirror 11 = .ok (.goto 4, 3) := by decide +kernel
theorem dX5_isMirror_14 : decode cX5_isMirror 14 = .ok (.iconst 0, 1) := by decide +kernel
theorem dX5_isMirror_15 : decode cX5_isMirror 15 = .ok (.ireturn, 1) := by decide +kernel
set_option maxRecDepth 20000 in
theorem ggX5_twice_X4_leastTwice : GoodIn wsX5_twice wsX4_leastTwice := goodIn_r _ [6, 7, 8, 9, 10, 5, 11, 12, 13, 14, 15, 16, 24, 25] (by decide +kernel) (by decide +kernel)
set_option maxRecDepth 20000 in
theorem gX5_twice_X4_leastTwice : GoodIn wsX5_twice (wsV RX5 162 RX4 yX4_leastTwice wsX4_leastTwice) := goodIn_app (goodIn_of _ (by decide +kernel)) ggX5_twice_X4_leastTwice
theorem dX5_twice_0 : decode cX5_twice 0 = .ok (.aload_n 0, 1) := by decide +kernel
theorem dX5_twice_1 : decode cX5_twice 1 = .ok (.getfield 19, 3) := by decide +kernel
theorem dX5_twice_4 : decode cX5_twice 4 = .ok (.invokevirtual 162, 3) := by decide +kernel
theorem dX5_twice_7 : decode cX5_twice 7 = .ok (.ireturn, 1) := by decide +kernel
set_option maxRecDepth 20000 in
theorem ggX5_find_X1_hasRow : GoodIn wsX5_find wsX1_hasRow := goodIn_r _ [8, 9, 10, 117, 118, 119, 120] (by decide +kernel) (by decide +kernel)
set_option maxRecDepth 20000 in
theorem gX5_find_X1_hasRow : GoodIn wsX5_find (wsV RX5 64 RX1 yX1_hasRow wsX1_hasRow) := goodIn_app (goodIn_of _ (by decide +kernel)) ggX5_find_X1_hasRow
set_option maxRecDepth 20000 in
theorem ggX5_find_X5_isOutside : GoodIn wsX5_find wsX5_isOutside := goodIn_r _ [14] (by decide +kernel) (by decide +kernel)
set_option maxRecDepth 20000 in
theorem gX5_find_X5_isOutside : GoodIn wsX5_find (va_wsS RX5 68 yX5_isOutside wsX5_isOutside) := goodIn_app (goodIn_of _ (by decide +kernel)) ggX5_find_X5_isOutside
set_option maxRecDepth 20000 in
theorem ggX5_find_X1_rowOf : GoodIn wsX5_find wsX1_rowOf := goodIn_r _ [18, 10, 19, 20, 5, 6, 7, 8, 9, 21, 22, 23, 24, 25, 26, 27, 28, 29, 30, 31, 32, 33, 34, 35, 36, 37, 38, 39, 40, 41, 42, 43, 44, 45, 46, 47, 48, 49, 50, 51, 52, 53, 54, 55, 56, 57, 58, 59, 60, 61, 62, 63, 64, 65, 66, 67, 68, 69, 70, 71, 72, 73, 74, 75, 76, 77, 78, 13, 79, 80, 81, 82, 83, 84, 85, 86, 87, 88, 89, 90, 91, 92, 93, 117, 118, 119, 120, 121, 122, 123, 124, 125, 126] (by decide +kernel) (by decide +kernel)
set_option maxRecDepth 20000 in
theorem gX5_find_X1_rowOf : GoodIn wsX5_find (wsV RX5 72 RX1 yX1_rowOf wsX1_rowOf) := goodIn_app (goodIn_of _ (by decide +kernel)) ggX5_find_X1_rowOf
set_option maxRecDepth 20000 in
theorem ggX5_find_X4_size : GoodIn wsX5_find wsX4_size := goodIn_r _ [98, 99, 127, 128] (by decide +kernel) (by decide +kernel)
set_option maxRecDepth 20000 in
theorem gX5_find_X4_size : GoodIn wsX5_find (wsV RX5 105 RX4 yX4_size wsX4_size) := goodIn_app (goodIn_of _ (by decide +kernel)) ggX5_find_X4_size
set_option maxRecDepth 20000 in
theorem ggX5_find_X2_holds : GoodIn wsX5_find wsX2_holds := goodIn_r _ [103, 104, 95, 96, 97, 98, 99, 92, 70, 71, 24, 72, 26, 73, 105, 106, 107, 108, 109, 127, 128, 121, 122, 123, 124] (by decide +kernel) (by decide +kernel)
set_option maxRecDepth 20000 in
theorem gX5_find_X2_holds : GoodIn wsX5_find (wsV RX5 165 RX2 yX2_holds wsX2_holds) := goodIn_app (goodIn_of _ (by decide +kernel)) ggX5_find_X2_holds
theorem dX5_find_0 : decode cX5_find 0 = .ok (.aload_n 0, 1) := by decide +kernel
theorem dX5_find_1 : decode cX5_find 1 = .ok (.getfield 10, 3) := by decide +kernel
theorem dX5_find_4 : decode cX5_find 4 = .ok (.iload_n 1, 1) := by decide +kernel
theorem dX5_find_5 : decode cX5_find 5 = .ok (.invokevirtual 64, 3) := by decide +kernel
theorem dX5_find_8 : decode cX5_find 8 = .ok (.ifCond .ne 6, 3) := by decide +kernel
theorem dX5_find_11 : decode cX5_find 11 = .ok (.bipush (-101), 2) := by decide +kernel
theorem dX5_find_13 : decode cX5_find 13 = .ok (.ireturn, 1) := by decide +kernel
theorem dX5_find_14 : decode cX5_find 14 = .ok (.iload_n 2, 1) := by decide +kernel
theorem dX5_find_15 : decode cX5_find 15 = .ok (.ldc 67, 2) := by decide +kernel
theorem dX5_find_17 : decode cX5_find 17 = .ok (.invokestatic 68, 3) := by decide +kernel
theorem dX5_find_20 : decode cX5_find 20 = .ok (.ifCond .ne 12, 3) := by decide +kernel
theorem dX5_find_23 : decode cX5_find 23 = .ok (.iload_n 3, 1) := by decide +kernel
theorem dX5_find_24 : decode cX5_find 24 = .ok (.ldc 67, 2) := by decide +kernel
theorem dX5_find_26 : decode cX5_find 26 = .ok (.invokestatic 68, 3) := by decide +kernel
theorem dX5_find_29 : decode cX5_find 29 = .ok (.ifCond .eq 6, 3) := by decide +kernel
theorem dX5_find_32 : decode cX5_find 32 = .ok (.bipush (-102), 2) := by decide +kernel
theorem dX5_find_34 : decode cX5_find 34 = .ok (.ireturn, 1) := by decide +kernel
theorem dX5_find_35 : decode cX5_find 35 = .ok (.aload_n 0, 1) := by decide +kernel
theorem dX5_find_36 : decode cX5_find 36 = .ok (.getfield 10, 3) := by decide +kernel
theorem dX5_find_39 : decode cX5_find 39 = .ok (.iload_n 1, 1) := by decide +kernel
theorem dX5_find_40 : decode cX5_find 40 = .ok (.iload_n 3, 1) := by decide +kernel
theorem dX5_find_41 : decode cX5_find 41 = .ok (.invokevirtual 72, 3) := by decide +kernel
theorem dX5_find_44 : decode cX5_find 44 = .ok (.astore 4, 2) := by decide +kernel
theorem dX5_find_46 : decode cX5_find 46 = .ok (.iload_n 2, 1) := by decide +kernel
theorem dX5_find_47 : decode cX5_find 47 = .ok (.istore 5, 2) := by decide +kernel
theorem dX5_find_49 : decode cX5_find 49 = .ok (.iload 5, 2) := by decide +kernel
theorem dX5_find_51 : decode cX5_find 51 = .ok (.aload_n 0, 1) := by decide +kernel
theorem dX5_find_52 : decode cX5_find 52 = .ok (.getfield 19, 3) := by decide +kernel
theorem dX5_find_55 : decode cX5_find 55 = .ok (.invokevirtual 105, 3) := by decide +kernel
theorem dX5_find_58 : decode cX5_find 58 = .ok (.iadd, 1) := by decide +kernel
theorem dX5_find_59 : decode cX5_find 59 = .ok (.iload_n 3, 1) := by decide +kernel
theorem dX5_find_60 : decode cX5_find 60 = .ok (.if_icmp .gt 26, 3) := by decide +kernel
theorem dX5_find_63 : decode cX5_find 63 = .ok (.aload 4, 2) := by decide +kernel
theorem dX5_find_65 : decode cX5_find 65 = .ok (.aload_n 0, 1) := by decide +kernel
theorem dX5_find_66 : decode cX5_find 66 = .ok (.getfield 19, 3) := by decide +kernel
theorem dX5_find_69 : decode cX5_find 69 = .ok (.iload 5, 2) := by decide +kernel
theorem dX5_find_71 : decode cX5_find 71 = .ok (.invokevirtual 165, 3) := by decide +kernel
theorem dX5_find_74 : decode cX5_find 74 = .ok (.ifCond .eq 6, 3) := by decide +kernel
theorem dX5_find_77 : decode cX5_find 77 = .ok (.iload 5, 2) := by decide +kernel
theorem dX5_find_79 : decode cX5_find 79 = .ok (.ireturn, 1) := by decide +kernel
theorem dX5_find_80 : decode cX5_find 80 = .ok (.iinc 5 1, 3) := by decide +kernel
theorem dX5_find_83 : decode cX5_find 83 = .ok (.goto (-34), 3) := by decide +kernel
theorem dX5_find_86 : decode cX5_find 86 = .ok (.iconst (-1), 1) := by decide +kernel
theorem dX5_find_87 : decode cX5_find 87 = .ok (.ireturn, 1) := by decide +kernel
set_option maxRecDepth 20000 in
theorem ggX5_unlike_X1_hasRow : GoodIn wsX5_unlike wsX1_hasRow := goodIn_r _ [8, 9, 10, 113, 114, 115, 116] (by decide +kernel) (by decide +kernel)
set_option maxRecDepth 20000 in
theorem gX5_unlike_X1_hasRow : GoodIn wsX5_unlike (wsV RX5 64 RX1 yX1_hasRow wsX1_hasRow) := goodIn_app (goodIn_of _ (by decide +kernel)) ggX5_unlike_X1_hasRow
set_option maxRecDepth 20000 in
theorem ggX5_unlike_X5_isOutside : GoodIn wsX5_unlike wsX5_isOutside := goodIn_r _ [14] (by decide +kernel) (by decide +kernel)
set_option maxRecDepth 20000 in
theorem gX5_unlike_X5_isOutside : GoodIn wsX5_unlike (va_wsS RX5 68 yX5_isOutside wsX5_isOutside) := goodIn_app (goodIn_of _ (by decide +kernel)) ggX5_unlike_X5_isOutside
set_option maxRecDepth 20000 in
theorem ggX5_unlike_X1_rowOf : GoodIn wsX5_unlike wsX1_rowOf := goodIn_r _ [18, 10, 19, 20, 5, 6, 7, 8, 9, 21, 22, 23, 24, 25, 26, 27, 28, 29, 30, 31, 32, 33, 34, 35, 36, 37, 38, 39, 40, 41, 42, 43, 44, 45, 46, 47, 48, 49, 50, 51, 52, 53, 54, 55, 56, 57, 58, 59, 60, 61, 62, 63, 64, 65, 66, 67, 68, 69, 70, 71, 72, 73, 74, 75, 76, 77, 78, 13, 79, 80, 81, 82, 83, 84, 85, 86, 87, 88, 89, 90, 91, 92, 93, 113, 114, 115, 116, 117, 118, 119, 120, 121, 122] (by decide +kernel) (by decide +kernel)
set_option maxRecDepth 20000 in
theorem gX5_unlike_X1_rowOf : GoodIn wsX5_unlike (wsV RX5 72 RX1 yX1_rowOf wsX1_rowOf) := goodIn_app (goodIn_of _ (by decide +kernel)) ggX5_unlike_X1_rowOf
set_option maxRecDepth 20000 in
theorem ggX5_unlike_X3_unlikeWithin : GoodIn wsX5_unlike wsX3_unlikeWithin := goodIn_r _ [98, 99, 100, 70, 71, 24, 72, 26, 73, 101, 102, 103, 97, 104, 105, 123, 117, 118, 119, 120] (by decide +kernel) (by decide +kernel)
set_option maxRecDepth 20000 in
theorem gX5_unlike_X3_unlikeWithin : GoodIn wsX5_unlike (wsV RX5 169 RX3 yX3_unlikeWithin wsX3_unlikeWithin) := goodIn_app (goodIn_of _ (by decide +kernel)) ggX5_unlike_X3_unlikeWithin
theorem dX5_unlike_0 : decode cX5_unlike 0 = .ok (.aload_n 0, 1) := by decide +kernel
theorem dX5_unlike_1 : decode cX5_unlike 1 = .ok (.getfield 10, 3) := by decide +kernel
theorem dX5_unlike_4 : decode cX5_unlike 4 = .ok (.iload_n 1, 1) := by decide +kernel
theorem dX5_unlike_5 : decode cX5_unlike 5 = .ok (.invokevirtual 64, 3) := by decide +kernel
theorem dX5_unlike_8 : decode cX5_unlike 8 = .ok (.ifCond .ne 6, 3) := by decide +kernel
theorem dX5_unlike_11 : decode cX5_unlike 11 = .ok (.bipush (-101), 2) := by decide +kernel
theorem dX5_unlike_13 : decode cX5_unlike 13 = .ok (.ireturn, 1) := by decide +kernel
theorem dX5_unlike_14 : decode cX5_unlike 14 = .ok (.iload_n 2, 1) := by decide +kernel
theorem dX5_unlike_15 : decode cX5_unlike 15 = .ok (.iconst 1, 1) := by decide +kernel
theorem dX5_unlike_16 : decode cX5_unlike 16 = .ok (.if_icmp .lt 19, 3) := by decide +kernel
theorem dX5_unlike_19 : decode cX5_unlike 19 = .ok (.iload_n 2, 1) := by decide +kernel
theorem dX5_unlike_20 : decode cX5_unlike 20 = .ok (.bipush 20, 2) := by decide +kernel
theorem dX5_unlike_22 : decode cX5_unlike 22 = .ok (.if_icmp .gt 13, 3) := by decide +kernel
theorem dX5_unlike_25 : decode cX5_unlike 25 = .ok (.iload_n 3, 1) := by decide +kernel
theorem dX5_unlike_26 : decode cX5_unlike 26 = .ok (.sipush 2000, 3) := by decide +kernel
theorem dX5_unlike_29 : decode cX5_unlike 29 = .ok (.invokestatic 68, 3) := by decide +kernel
theorem dX5_unlike_32 : decode cX5_unlike 32 = .ok (.ifCond .eq 6, 3) := by decide +kernel
theorem dX5_unlike_35 : decode cX5_unlike 35 = .ok (.bipush (-102), 2) := by decide +kernel
theorem dX5_unlike_37 : decode cX5_unlike 37 = .ok (.ireturn, 1) := by decide +kernel
theorem dX5_unlike_38 : decode cX5_unlike 38 = .ok (.aload_n 0, 1) := by decide +kernel
theorem dX5_unlike_39 : decode cX5_unlike 39 = .ok (.getfield 40, 3) := by decide +kernel
theorem dX5_unlike_42 : decode cX5_unlike 42 = .ok (.bipush 40, 2) := by decide +kernel
theorem dX5_unlike_44 : decode cX5_unlike 44 = .ok (.if_icmp .lt 6, 3) := by decide +kernel
theorem dX5_unlike_47 : decode cX5_unlike 47 = .ok (.bipush (-103), 2) := by decide +kernel
theorem dX5_unlike_49 : decode cX5_unlike 49 = .ok (.ireturn, 1) := by decide +kernel
theorem dX5_unlike_50 : decode cX5_unlike 50 = .ok (.aload_n 0, 1) := by decide +kernel
theorem dX5_unlike_51 : decode cX5_unlike 51 = .ok (.dup, 1) := by decide +kernel
theorem dX5_unlike_52 : decode cX5_unlike 52 = .ok (.getfield 40, 3) := by decide +kernel
theorem dX5_unlike_55 : decode cX5_unlike 55 = .ok (.iconst 1, 1) := by decide +kernel
theorem dX5_unlike_56 : decode cX5_unlike 56 = .ok (.iadd, 1) := by decide +kernel
theorem dX5_unlike_57 : decode cX5_unlike 57 = .ok (.putfield 40, 3) := by decide +kernel
theorem dX5_unlike_60 : decode cX5_unlike 60 = .ok (.aload_n 0, 1) := by decide +kernel
theorem dX5_unlike_61 : decode cX5_unlike 61 = .ok (.getfield 32, 3) := by decide +kernel
theorem dX5_unlike_64 : decode cX5_unlike 64 = .ok (.aload_n 0, 1) := by decide +kernel
theorem dX5_unlike_65 : decode cX5_unlike 65 = .ok (.getfield 10, 3) := by decide +kernel
theorem dX5_unlike_68 : decode cX5_unlike 68 = .ok (.iload_n 1, 1) := by decide +kernel
theorem dX5_unlike_69 : decode cX5_unlike 69 = .ok (.iload_n 3, 1) := by decide +kernel
theorem dX5_unlike_70 : decode cX5_unlike 70 = .ok (.invokevirtual 72, 3) := by decide +kernel
theorem dX5_unlike_73 : decode cX5_unlike 73 = .ok (.iload_n 2, 1) := by decide +kernel
theorem dX5_unlike_74 : decode cX5_unlike 74 = .ok (.iload_n 3, 1) := by decide +kernel
theorem dX5_unlike_75 : decode cX5_unlike 75 = .ok (.invokevirtual 169, 3) := by decide +kernel
theorem dX5_unlike_78 : decode cX5_unlike 78 = .ok (.ireturn, 1) := by decide +kernel
set_option maxRecDepth 20000 in
theorem ggX5_told_X1_size : GoodIn wsX5_told wsX1_size := goodIn_r _ [10, 11, 36, 37, 38, 39] (by decide +kernel) (by decide +kernel)
set_option maxRecDepth 20000 in
theorem gX5_told_X1_size : GoodIn wsX5_told (wsV RX5 173 RX1 yX1_size wsX1_size) := goodIn_app (goodIn_of _ (by decide +kernel)) ggX5_told_X1_size
set_option maxRecDepth 20000 in
theorem ggX5_told_X4_size : GoodIn wsX5_told wsX4_size := goodIn_r _ [16, 17, 40, 41] (by decide +kernel) (by decide +kernel)
set_option maxRecDepth 20000 in
theorem gX5_told_X4_size : GoodIn wsX5_told (wsV RX5 105 RX4 yX4_size wsX4_size) := goodIn_app (goodIn_of _ (by decide +kernel)) ggX5_told_X4_size
set_option maxRecDepth 20000 in
theorem ggX5_told_X1_alphabetNamed : GoodIn wsX5_told wsX1_alphabetNamed := goodIn_r _ [21, 22, 36, 37, 38, 39] (by decide +kernel) (by decide +kernel)
set_option maxRecDepth 20000 in
theorem gX5_told_X1_alphabetNamed : GoodIn wsX5_told (wsV RX5 43 RX1 yX1_alphabetNamed wsX1_alphabetNamed) := goodIn_app (goodIn_of _ (by decide +kernel)) ggX5_told_X1_alphabetNamed
set_option maxRecDepth 20000 in
theorem ggX5_told_X0_size : GoodIn wsX5_told wsX0_size := goodIn_r _ [27, 28, 42, 43] (by decide +kernel) (by decide +kernel)
set_option maxRecDepth 20000 in
theorem gX5_told_X0_size : GoodIn wsX5_told (wsV RX5 125 RX0 yX0_size wsX0_size) := goodIn_app (goodIn_of _ (by decide +kernel)) ggX5_told_X0_size
theorem dX5_told_0 : decode cX5_told 0 = .ok (.iload_n 1, 1) := by decide +kernel
theorem dX5_told_1 : decode cX5_told 1 = .ok (.ifCond .ne 11, 3) := by decide +kernel
theorem dX5_told_4 : decode cX5_told 4 = .ok (.aload_n 0, 1) := by decide +kernel
theorem dX5_told_5 : decode cX5_told 5 = .ok (.getfield 10, 3) := by decide +kernel
theorem dX5_told_8 : decode cX5_told 8 = .ok (.invokevirtual 173, 3) := by decide +kernel
theorem dX5_told_11 : decode cX5_told 11 = .ok (.ireturn, 1) := by decide +kernel
theorem dX5_told_12 : decode cX5_told 12 = .ok (.iload_n 1, 1) := by decide +kernel
theorem dX5_told_13 : decode cX5_told 13 = .ok (.iconst 1, 1) := by decide +kernel
theorem dX5_told_14 : decode cX5_told 14 = .ok (.if_icmp .ne 11, 3) := by decide +kernel
theorem dX5_told_17 : decode cX5_told 17 = .ok (.aload_n 0, 1) := by decide +kernel
theorem dX5_told_18 : decode cX5_told 18 = .ok (.getfield 19, 3) := by decide +kernel
theorem dX5_told_21 : decode cX5_told 21 = .ok (.invokevirtual 105, 3) := by decide +kernel
theorem dX5_told_24 : decode cX5_told 24 = .ok (.ireturn, 1) := by decide +kernel
theorem dX5_told_25 : decode cX5_told 25 = .ok (.iload_n 1, 1) := by decide +kernel
theorem dX5_told_26 : decode cX5_told 26 = .ok (.iconst 2, 1) := by decide +kernel
theorem dX5_told_27 : decode cX5_told 27 = .ok (.if_icmp .ne 8, 3) := by decide +kernel
theorem dX5_told_30 : decode cX5_told 30 = .ok (.aload_n 0, 1) := by decide +kernel
theorem dX5_told_31 : decode cX5_told 31 = .ok (.getfield 36, 3) := by decide +kernel
theorem dX5_told_34 : decode cX5_told 34 = .ok (.ireturn, 1) := by decide +kernel
theorem dX5_told_35 : decode cX5_told 35 = .ok (.iload_n 1, 1) := by decide +kernel
theorem dX5_told_36 : decode cX5_told 36 = .ok (.iconst 3, 1) := by decide +kernel
theorem dX5_told_37 : decode cX5_told 37 = .ok (.if_icmp .ne 8, 3) := by decide +kernel
theorem dX5_told_40 : decode cX5_told 40 = .ok (.aload_n 0, 1) := by decide +kernel
theorem dX5_told_41 : decode cX5_told 41 = .ok (.getfield 40, 3) := by decide +kernel
theorem dX5_told_44 : decode cX5_told 44 = .ok (.ireturn, 1) := by decide +kernel
theorem dX5_told_45 : decode cX5_told 45 = .ok (.aload_n 0, 1) := by decide +kernel
theorem dX5_told_46 : decode cX5_told 46 = .ok (.getfield 10, 3) := by decide +kernel
theorem dX5_told_49 : decode cX5_told 49 = .ok (.iload_n 1, 1) := by decide +kernel
theorem dX5_told_50 : decode cX5_told 50 = .ok (.i2l, 1) := by decide +kernel
theorem dX5_told_51 : decode cX5_told 51 = .ok (.ldc2_w 174, 3) := by decide +kernel
theorem dX5_told_54 : decode cX5_told 54 = .ok (.lsub, 1) := by decide +kernel
theorem dX5_told_55 : decode cX5_told 55 = .ok (.invokevirtual 43, 3) := by decide +kernel
theorem dX5_told_58 : decode cX5_told 58 = .ok (.astore_n 2, 1) := by decide +kernel
theorem dX5_told_59 : decode cX5_told 59 = .ok (.aload_n 2, 1) := by decide +kernel
theorem dX5_told_60 : decode cX5_told 60 = .ok (.ifnonnull 8, 3) := by decide +kernel
theorem dX5_told_63 : decode cX5_told 63 = .ok (.bipush (-102), 2) := by decide +kernel
theorem dX5_told_65 : decode cX5_told 65 = .ok (.goto 7, 3) := by decide +kernel
theorem dX5_told_68 : decode cX5_told 68 = .ok (.aload_n 2, 1) := by decide +kernel
theorem dX5_told_69 : decode cX5_told 69 = .ok (.invokevirtual 125, 3) := by decide +kernel
theorem dX5_told_72 : decode cX5_told 72 = .ok (.ireturn, 1) := by decide +kernel
set_option maxRecDepth 20000 in
theorem ggX5_digest_X1_mixInto : GoodIn wsX5_digest wsX1_mixInto := goodIn_r _ [11, 12, 13, 14, 15, 16, 17, 18, 19, 20, 21, 22, 23, 24, 25, 26, 27, 47, 48, 49, 50, 51, 52] (by decide +kernel) (by decide +kernel)
set_option maxRecDepth 20000 in
theorem gX5_digest_X1_mixInto : GoodIn wsX5_digest (wsV RX5 178 RX1 yX1_mixInto wsX1_mixInto) := goodIn_app (goodIn_of _ (by decide +kernel)) ggX5_digest_X1_mixInto
set_option maxRecDepth 20000 in
theorem ggX5_digest_X4_mixInto : GoodIn wsX5_digest wsX4_mixInto := goodIn_r _ [32, 33, 34, 35, 36, 37, 31, 38, 39, 53, 54] (by decide +kernel) (by decide +kernel)
set_option maxRecDepth 20000 in
theorem gX5_digest_X4_mixInto : GoodIn wsX5_digest (wsV RX5 182 RX4 yX4_mixInto wsX4_mixInto) := goodIn_app (goodIn_of _ (by decide +kernel)) ggX5_digest_X4_mixInto
theorem dX5_digest_0 : decode cX5_digest 0 = .ok (.aload_n 0, 1) := by decide +kernel
theorem dX5_digest_1 : decode cX5_digest 1 = .ok (.getfield 10, 3) := by decide +kernel
theorem dX5_digest_4 : decode cX5_digest 4 = .ok (.ldc2_w 176, 3) := by decide +kernel
theorem dX5_digest_7 : decode cX5_digest 7 = .ok (.invokevirtual 178, 3) := by decide +kernel
theorem dX5_digest_10 : decode cX5_digest 10 = .ok (.lstore_n 1, 1) := by decide +kernel
theorem dX5_digest_11 : decode cX5_digest 11 = .ok (.aload_n 0, 1) := by decide +kernel
theorem dX5_digest_12 : decode cX5_digest 12 = .ok (.getfield 19, 3) := by decide +kernel
theorem dX5_digest_15 : decode cX5_digest 15 = .ok (.lload_n 1, 1) := by decide +kernel
theorem dX5_digest_16 : decode cX5_digest 16 = .ok (.invokevirtual 182, 3) := by decide +kernel
theorem dX5_digest_19 : decode cX5_digest 19 = .ok (.lstore_n 1, 1) := by decide +kernel
theorem dX5_digest_20 : decode cX5_digest 20 = .ok (.ldc2_w 183, 3) := by decide +kernel
theorem dX5_digest_23 : decode cX5_digest 23 = .ok (.lload_n 1, 1) := by decide +kernel
theorem dX5_digest_24 : decode cX5_digest 24 = .ok (.lmul, 1) := by decide +kernel
theorem dX5_digest_25 : decode cX5_digest 25 = .ok (.aload_n 0, 1) := by decide +kernel
theorem dX5_digest_26 : decode cX5_digest 26 = .ok (.getfield 36, 3) := by decide +kernel
theorem dX5_digest_29 : decode cX5_digest 29 = .ok (.i2l, 1) := by decide +kernel
theorem dX5_digest_30 : decode cX5_digest 30 = .ok (.ladd, 1) := by decide +kernel
theorem dX5_digest_31 : decode cX5_digest 31 = .ok (.lstore_n 1, 1) := by decide +kernel
theorem dX5_digest_32 : decode cX5_digest 32 = .ok (.ldc2_w 183, 3) := by decide +kernel
theorem dX5_digest_35 : decode cX5_digest 35 = .ok (.lload_n 1, 1) := by decide +kernel
theorem dX5_digest_36 : decode cX5_digest 36 = .ok (.lmul, 1) := by decide +kernel
theorem dX5_digest_37 : decode cX5_digest 37 = .ok (.aload_n 0, 1) := by decide +kernel
theorem dX5_digest_38 : decode cX5_digest 38 = .ok (.getfield 40, 3) := by decide +kernel
theorem dX5_digest_41 : decode cX5_digest 41 = .ok (.i2l, 1) := by decide +kernel
theorem dX5_digest_42 : decode cX5_digest 42 = .ok (.ladd, 1) := by decide +kernel
theorem dX5_digest_43 : decode cX5_digest 43 = .ok (.lreturn, 1) := by decide +kernel
theorem dX5_isOutside_0 : decode cX5_isOutside 0 = .ok (.iload_n 0, 1) := by decide +kernel
theorem dX5_isOutside_1 : decode cX5_isOutside 1 = .ok (.ifCond .lt 8, 3) := by decide +kernel
theorem dX5_isOutside_4 : decode cX5_isOutside 4 = .ok (.iload_n 0, 1) := by decide +kernel
theorem dX5_isOutside_5 : decode cX5_isOutside 5 = .ok (.iload_n 1, 1) := by decide +kernel
theorem dX5_isOutside_6 : decode cX5_isOutside 6 = .ok (.if_icmp .le 7, 3) := by decide +kernel
theorem dX5_isOutside_9 : decode cX5_isOutside 9 = .ok (.iconst 1, 1) := by decide +kernel
theorem dX5_isOutside_10 : decode cX5_isOutside 10 = .ok (.goto 4, 3) := by decide +kernel
theorem dX5_isOutside_13 : decode cX5_isOutside 13 = .ok (.iconst 0, 1) := by decide +kernel
theorem dX5_isOutside_14 : decode cX5_isOutside 14 = .ok (.ireturn, 1) := by decide +kernel
theorem dX5_isLetter_0 : decode cX5_isLetter 0 = .ok (.iload_n 0, 1) := by decide +kernel
theorem dX5_isLetter_1 : decode cX5_isLetter 1 = .ok (.iconst 1, 1) := by decide +kernel
theorem dX5_isLetter_2 : decode cX5_isLetter 2 = .ok (.if_icmp .lt 13, 3) := by decide +kernel
theorem dX5_isLetter_5 : decode cX5_isLetter 5 = .ok (.iload_n 0, 1) := by decide +kernel
theorem dX5_isLetter_6 : decode cX5_isLetter 6 = .ok (.bipush 6, 2) := by decide +kernel
theorem dX5_isLetter_8 : decode cX5_isLetter 8 = .ok (.if_icmp .gt 7, 3) := by decide +kernel
theorem dX5_isLetter_11 : decode cX5_isLetter 11 = .ok (.iconst 1, 1) := by decide +kernel
theorem dX5_isLetter_12 : decode cX5_isLetter 12 = .ok (.goto 4, 3) := by decide +kernel
theorem dX5_isLetter_15 : decode cX5_isLetter 15 = .ok (.iconst 0, 1) := by decide +kernel
theorem dX5_isLetter_16 : decode cX5_isLetter 16 = .ok (.ireturn, 1) := by decide +kernel
theorem dX5_manyMost_0 : decode cX5_manyMost 0 = .ok (.iload_n 0, 1) := by decide +kernel
theorem dX5_manyMost_1 : decode cX5_manyMost 1 = .ok (.iconst 2, 1) := by decide +kernel
theorem dX5_manyMost_2 : decode cX5_manyMost 2 = .ok (.if_icmp .ne 6, 3) := by decide +kernel
theorem dX5_manyMost_5 : decode cX5_manyMost 5 = .ok (.bipush 14, 2) := by decide +kernel
theorem dX5_manyMost_7 : decode cX5_manyMost 7 = .ok (.ireturn, 1) := by decide +kernel
theorem dX5_manyMost_8 : decode cX5_manyMost 8 = .ok (.iload_n 0, 1) := by decide +kernel
theorem dX5_manyMost_9 : decode cX5_manyMost 9 = .ok (.iconst 3, 1) := by decide +kernel
theorem dX5_manyMost_10 : decode cX5_manyMost 10 = .ok (.if_icmp .ne 6, 3) := by decide +kernel
theorem dX5_manyMost_13 : decode cX5_manyMost 13 = .ok (.bipush 9, 2) := by decide +kernel
theorem dX5_manyMost_15 : decode cX5_manyMost 15 = .ok (.ireturn, 1) := by decide +kernel
theorem dX5_manyMost_16 : decode cX5_manyMost 16 = .ok (.iconst (-1), 1) := by decide +kernel
theorem dX5_manyMost_17 : decode cX5_manyMost 17 = .ok (.ireturn, 1) := by decide +kernel
set_option maxRecDepth 20000 in
theorem ggX5_depthSpent_X4_size : GoodIn wsX5_depthSpent wsX4_size := goodIn_r _ [5, 6, 36, 37] (by decide +kernel) (by decide +kernel)
set_option maxRecDepth 20000 in
theorem gX5_depthSpent_X4_size : GoodIn wsX5_depthSpent (wsV RX5 105 RX4 yX4_size wsX4_size) := goodIn_app (goodIn_of _ (by decide +kernel)) ggX5_depthSpent_X4_size
set_option maxRecDepth 20000 in
theorem ggX5_depthSpent_X4_greatestLetter : GoodIn wsX5_depthSpent wsX4_greatestLetter := goodIn_r _ [10, 6, 11, 12, 13, 14, 15, 16, 17, 4, 18, 19, 36, 37] (by decide +kernel) (by decide +kernel)
set_option maxRecDepth 20000 in
theorem gX5_depthSpent_X4_greatestLetter : GoodIn wsX5_depthSpent (wsV RX5 185 RX4 yX4_greatestLetter wsX4_greatestLetter) := goodIn_app (goodIn_of _ (by decide +kernel)) ggX5_depthSpent_X4_greatestLetter
set_option maxRecDepth 20000 in
theorem ggX5_depthSpent_X4_longestRun : GoodIn wsX5_depthSpent wsX4_longestRun := goodIn_r _ [23, 6, 11, 12, 13, 14, 24, 25, 26, 4, 27, 15, 16, 17, 18, 19, 36, 37] (by decide +kernel) (by decide +kernel)
set_option maxRecDepth 20000 in
theorem gX5_depthSpent_X4_longestRun : GoodIn wsX5_depthSpent (wsV RX5 118 RX4 yX4_longestRun wsX4_longestRun) := goodIn_app (goodIn_of _ (by decide +kernel)) ggX5_depthSpent_X4_longestRun
set_option maxRecDepth 20000 in
theorem ggX5_depthSpent_X4_becomeShorter : GoodIn wsX5_depthSpent wsX4_becomeShorter := goodIn_r _ [31, 6, 24, 25, 26, 4, 27, 15, 16, 17, 18, 19, 32, 33, 34, 35, 36, 37] (by decide +kernel) (by decide +kernel)
set_option maxRecDepth 20000 in
theorem gX5_depthSpent_X4_becomeShorter : GoodIn wsX5_depthSpent (wsV RX5 121 RX4 yX4_becomeShorter wsX4_becomeShorter) := goodIn_app (goodIn_of _ (by decide +kernel)) ggX5_depthSpent_X4_becomeShorter
theorem dX5_depthSpent_0 : decode cX5_depthSpent 0 = .ok (.iconst 0, 1) := by decide +kernel
theorem dX5_depthSpent_1 : decode cX5_depthSpent 1 = .ok (.istore_n 2, 1) := by decide +kernel
theorem dX5_depthSpent_2 : decode cX5_depthSpent 2 = .ok (.iload_n 2, 1) := by decide +kernel
theorem dX5_depthSpent_3 : decode cX5_depthSpent 3 = .ok (.bipush 60, 2) := by decide +kernel
theorem dX5_depthSpent_5 : decode cX5_depthSpent 5 = .ok (.if_icmp .gt 41, 3) := by decide +kernel
theorem dX5_depthSpent_8 : decode cX5_depthSpent 8 = .ok (.aload_n 0, 1) := by decide +kernel
theorem dX5_depthSpent_9 : decode cX5_depthSpent 9 = .ok (.invokevirtual 105, 3) := by decide +kernel
theorem dX5_depthSpent_12 : decode cX5_depthSpent 12 = .ok (.ifCond .ne 5, 3) := by decide +kernel
theorem dX5_depthSpent_15 : decode cX5_depthSpent 15 = .ok (.iload_n 2, 1) := by decide +kernel
theorem dX5_depthSpent_16 : decode cX5_depthSpent 16 = .ok (.ireturn, 1) := by decide +kernel
theorem dX5_depthSpent_17 : decode cX5_depthSpent 17 = .ok (.aload_n 0, 1) := by decide +kernel
theorem dX5_depthSpent_18 : decode cX5_depthSpent 18 = .ok (.invokevirtual 185, 3) := by decide +kernel
theorem dX5_depthSpent_21 : decode cX5_depthSpent 21 = .ok (.iload_n 1, 1) := by decide +kernel
theorem dX5_depthSpent_22 : decode cX5_depthSpent 22 = .ok (.if_icmp .gt 11, 3) := by decide +kernel
theorem dX5_depthSpent_25 : decode cX5_depthSpent 25 = .ok (.aload_n 0, 1) := by decide +kernel
theorem dX5_depthSpent_26 : decode cX5_depthSpent 26 = .ok (.invokevirtual 118, 3) := by decide +kernel
theorem dX5_depthSpent_29 : decode cX5_depthSpent 29 = .ok (.iload_n 1, 1) := by decide +kernel
theorem dX5_depthSpent_30 : decode cX5_depthSpent 30 = .ok (.if_icmp .le 5, 3) := by decide +kernel
theorem dX5_depthSpent_33 : decode cX5_depthSpent 33 = .ok (.iconst (-1), 1) := by decide +kernel
theorem dX5_depthSpent_34 : decode cX5_depthSpent 34 = .ok (.ireturn, 1) := by decide +kernel
theorem dX5_depthSpent_35 : decode cX5_depthSpent 35 = .ok (.aload_n 0, 1) := by decide +kernel
theorem dX5_depthSpent_36 : decode cX5_depthSpent 36 = .ok (.iload_n 1, 1) := by decide +kernel
theorem dX5_depthSpent_37 : decode cX5_depthSpent 37 = .ok (.invokevirtual 121, 3) := by decide +kernel
theorem dX5_depthSpent_40 : decode cX5_depthSpent 40 = .ok (.iinc 2 1, 3) := by decide +kernel
theorem dX5_depthSpent_43 : decode cX5_depthSpent 43 = .ok (.goto (-41), 3) := by decide +kernel
theorem dX5_depthSpent_46 : decode cX5_depthSpent 46 = .ok (.iconst (-1), 1) := by decide +kernel
theorem dX5_depthSpent_47 : decode cX5_depthSpent 47 = .ok (.ireturn, 1) := by decide +kernel
set_option maxRecDepth 20000 in
theorem ggX5_standing_X4_become : GoodIn wsX5_standing wsX4_become := goodIn_r _ [5, 6, 7, 8, 4, 9, 10, 11, 12, 13, 14, 15, 16, 17, 18, 19, 20, 21, 22, 23, 61, 62] (by decide +kernel) (by decide +kernel)
set_option maxRecDepth 20000 in
theorem gX5_standing_X4_become : GoodIn wsX5_standing (wsV RX5 129 RX4 yX4_become wsX4_become) := goodIn_app (goodIn_of _ (by decide +kernel)) ggX5_standing_X4_become
set_option maxRecDepth 20000 in
theorem ggX5_standing_X5_depthSpent : GoodIn wsX5_standing wsX5_depthSpent := goodIn_r _ [27, 28, 12, 13, 4, 14, 10, 29, 30, 31, 32, 33, 34, 35, 36, 15, 16, 17, 18, 19, 37, 38, 39, 40, 41, 42, 43, 44, 45, 46, 47, 48, 49, 50, 51, 52, 61, 62] (by decide +kernel) (by decide +kernel)
set_option maxRecDepth 20000 in
theorem gX5_standing_X5_depthSpent : GoodIn wsX5_standing (va_wsS RX5 147 yX5_depthSpent wsX5_depthSpent) := goodIn_app (goodIn_of _ (by decide +kernel)) ggX5_standing_X5_depthSpent
set_option maxRecDepth 20000 in
theorem ggX5_standing_X4_size : GoodIn wsX5_standing wsX4_size := goodIn_r _ [14, 10, 61, 62] (by decide +kernel) (by decide +kernel)
set_option maxRecDepth 20000 in
theorem gX5_standing_X4_size : GoodIn wsX5_standing (wsV RX5 105 RX4 yX4_size wsX4_size) := goodIn_app (goodIn_of _ (by decide +kernel)) ggX5_standing_X4_size
set_option maxRecDepth 20000 in
theorem ggX5_standing_X4_letterAt : GoodIn wsX5_standing wsX4_letterAt := goodIn_r _ [18, 10, 19, 61, 62] (by decide +kernel) (by decide +kernel)
set_option maxRecDepth 20000 in
theorem gX5_standing_X4_letterAt : GoodIn wsX5_standing (wsV RX5 112 RX4 yX4_letterAt wsX4_letterAt) := goodIn_app (goodIn_of _ (by decide +kernel)) ggX5_standing_X4_letterAt
set_option maxRecDepth 20000 in
theorem ggX5_standing_X4_put : GoodIn wsX5_standing wsX4_put := goodIn_r _ [23, 10, 19, 61, 62] (by decide +kernel) (by decide +kernel)
set_option maxRecDepth 20000 in
theorem gX5_standing_X4_put : GoodIn wsX5_standing (wsV RX5 102 RX4 yX4_put wsX4_put) := goodIn_app (goodIn_of _ (by decide +kernel)) ggX5_standing_X4_put
set_option maxRecDepth 20000 in
theorem ggX5_standing_X5_standing : GoodIn wsX5_standing wsX5_standing := goodIn_r _ [0, 1, 2, 3, 4, 5, 6, 7, 8, 9, 10, 11, 12, 13, 14, 15, 16, 17, 18, 19, 20, 21, 22, 23, 24, 25, 26, 27, 28, 29, 30, 31, 32, 33, 34, 35, 36, 37, 38, 39, 40, 41, 42, 43, 44, 45, 46, 47, 48, 49, 50, 51, 52, 53, 54, 55, 56, 57, 58, 59, 60, 61, 62] (by decide +kernel) (by decide +kernel)
set_option maxRecDepth 20000 in
theorem gX5_standing_X5_standing : GoodIn wsX5_standing (va_wsS RX5 154 yX5_standing wsX5_standing) := goodIn_app (goodIn_of _ (by decide +kernel)) ggX5_standing_X5_standing
set_option maxRecDepth 20000 in
theorem ggX5_standing_X4_drop : GoodIn wsX5_standing wsX4_drop := goodIn_r _ [60, 10, 61, 62] (by decide +kernel) (by decide +kernel)
set_option maxRecDepth 20000 in
theorem gX5_standing_X4_drop : GoodIn wsX5_standing (wsV RX5 188 RX4 yX4_drop wsX4_drop) := goodIn_app (goodIn_of _ (by decide +kernel)) ggX5_standing_X4_drop
theorem dX5_standing_0 : decode cX5_standing 0 = .ok (.iload_n 2, 1) := by decide +kernel
theorem dX5_standing_1 : decode cX5_standing 1 = .ok (.ifCond .gt 25, 3) := by decide +kernel
theorem dX5_standing_4 : decode cX5_standing 4 = .ok (.aload_n 1, 1) := by decide +kernel
theorem dX5_standing_5 : decode cX5_standing 5 = .ok (.aload_n 0, 1) := by decide +kernel
theorem dX5_standing_6 : decode cX5_standing 6 = .ok (.invokevirtual 129, 3) := by decide +kernel
theorem dX5_standing_9 : decode cX5_standing 9 = .ok (.aload_n 1, 1) := by decide +kernel
theorem dX5_standing_10 : decode cX5_standing 10 = .ok (.iload 5, 2) := by decide +kernel
theorem dX5_standing_12 : decode cX5_standing 12 = .ok (.invokestatic 147, 3) := by decide +kernel
theorem dX5_standing_15 : decode cX5_standing 15 = .ok (.iconst (-1), 1) := by decide +kernel
theorem dX5_standing_16 : decode cX5_standing 16 = .ok (.if_icmp .ne 7, 3) := by decide +kernel
theorem dX5_standing_19 : decode cX5_standing 19 = .ok (.iconst 0, 1) := by decide +kernel
theorem dX5_standing_20 : decode cX5_standing 20 = .ok (.goto 5, 3) := by decide +kernel
theorem dX5_standing_23 : decode cX5_standing 23 = .ok (.iload 4, 2) := by decide +kernel
theorem dX5_standing_25 : decode cX5_standing 25 = .ok (.ireturn, 1) := by decide +kernel
theorem dX5_standing_26 : decode cX5_standing 26 = .ok (.iconst 0, 1) := by decide +kernel
theorem dX5_standing_27 : decode cX5_standing 27 = .ok (.istore 6, 2) := by decide +kernel
theorem dX5_standing_29 : decode cX5_standing 29 = .ok (.aload_n 0, 1) := by decide +kernel
theorem dX5_standing_30 : decode cX5_standing 30 = .ok (.aload_n 0, 1) := by decide +kernel
theorem dX5_standing_31 : decode cX5_standing 31 = .ok (.invokevirtual 105, 3) := by decide +kernel
theorem dX5_standing_34 : decode cX5_standing 34 = .ok (.iconst 1, 1) := by decide +kernel
theorem dX5_standing_35 : decode cX5_standing 35 = .ok (.isub, 1) := by decide +kernel
theorem dX5_standing_36 : decode cX5_standing 36 = .ok (.invokevirtual 112, 3) := by decide +kernel
theorem dX5_standing_39 : decode cX5_standing 39 = .ok (.istore 7, 2) := by decide +kernel
theorem dX5_standing_41 : decode cX5_standing 41 = .ok (.iload 7, 2) := by decide +kernel
theorem dX5_standing_43 : decode cX5_standing 43 = .ok (.iconst (-1), 1) := by decide +kernel
theorem dX5_standing_44 : decode cX5_standing 44 = .ok (.if_icmp .eq 42, 3) := by decide +kernel
theorem dX5_standing_47 : decode cX5_standing 47 = .ok (.iload_n 3, 1) := by decide +kernel
theorem dX5_standing_48 : decode cX5_standing 48 = .ok (.iload 5, 2) := by decide +kernel
theorem dX5_standing_50 : decode cX5_standing 50 = .ok (.if_icmp .ge 36, 3) := by decide +kernel
theorem dX5_standing_53 : decode cX5_standing 53 = .ok (.aload_n 0, 1) := by decide +kernel
theorem dX5_standing_54 : decode cX5_standing 54 = .ok (.iload 7, 2) := by decide +kernel
theorem dX5_standing_56 : decode cX5_standing 56 = .ok (.invokevirtual 102, 3) := by decide +kernel
theorem dX5_standing_59 : decode cX5_standing 59 = .ok (.ifCond .eq 27, 3) := by decide +kernel
theorem dX5_standing_62 : decode cX5_standing 62 = .ok (.iload 6, 2) := by decide +kernel
theorem dX5_standing_64 : decode cX5_standing 64 = .ok (.aload_n 0, 1) := by decide +kernel
theorem dX5_standing_65 : decode cX5_standing 65 = .ok (.aload_n 1, 1) := by decide +kernel
theorem dX5_standing_66 : decode cX5_standing 66 = .ok (.iload_n 2, 1) := by decide +kernel
theorem dX5_standing_67 : decode cX5_standing 67 = .ok (.iconst 1, 1) := by decide +kernel
theorem dX5_standing_68 : decode cX5_standing 68 = .ok (.isub, 1) := by decide +kernel
theorem dX5_standing_69 : decode cX5_standing 69 = .ok (.iload_n 3, 1) := by decide +kernel
theorem dX5_standing_70 : decode cX5_standing 70 = .ok (.iconst 1, 1) := by decide +kernel
theorem dX5_standing_71 : decode cX5_standing 71 = .ok (.iadd, 1) := by decide +kernel
theorem dX5_standing_72 : decode cX5_standing 72 = .ok (.iload 4, 2) := by decide +kernel
theorem dX5_standing_74 : decode cX5_standing 74 = .ok (.iload 5, 2) := by decide +kernel
theorem dX5_standing_76 : decode cX5_standing 76 = .ok (.invokestatic 154, 3) := by decide +kernel
theorem dX5_standing_79 : decode cX5_standing 79 = .ok (.iadd, 1) := by decide +kernel
theorem dX5_standing_80 : decode cX5_standing 80 = .ok (.istore 6, 2) := by decide +kernel
theorem dX5_standing_82 : decode cX5_standing 82 = .ok (.aload_n 0, 1) := by decide +kernel
theorem dX5_standing_83 : decode cX5_standing 83 = .ok (.invokevirtual 188, 3) := by decide +kernel
theorem dX5_standing_86 : decode cX5_standing 86 = .ok (.iload 7, 2) := by decide +kernel
theorem dX5_standing_88 : decode cX5_standing 88 = .ok (.iconst (-1), 1) := by decide +kernel
theorem dX5_standing_89 : decode cX5_standing 89 = .ok (.if_icmp .ne 8, 3) := by decide +kernel
theorem dX5_standing_92 : decode cX5_standing 92 = .ok (.iload 5, 2) := by decide +kernel
theorem dX5_standing_94 : decode cX5_standing 94 = .ok (.goto 7, 3) := by decide +kernel
theorem dX5_standing_97 : decode cX5_standing 97 = .ok (.iload 5, 2) := by decide +kernel
theorem dX5_standing_99 : decode cX5_standing 99 = .ok (.iconst 1, 1) := by decide +kernel
theorem dX5_standing_100 : decode cX5_standing 100 = .ok (.isub, 1) := by decide +kernel
theorem dX5_standing_101 : decode cX5_standing 101 = .ok (.istore 8, 2) := by decide +kernel
theorem dX5_standing_103 : decode cX5_standing 103 = .ok (.aload_n 0, 1) := by decide +kernel
theorem dX5_standing_104 : decode cX5_standing 104 = .ok (.iload 7, 2) := by decide +kernel
theorem dX5_standing_106 : decode cX5_standing 106 = .ok (.iconst 1, 1) := by decide +kernel
theorem dX5_standing_107 : decode cX5_standing 107 = .ok (.if_icmp .ne 7, 3) := by decide +kernel
theorem dX5_standing_110 : decode cX5_standing 110 = .ok (.iconst 2, 1) := by decide +kernel
theorem dX5_standing_111 : decode cX5_standing 111 = .ok (.goto 4, 3) := by decide +kernel
theorem dX5_standing_114 : decode cX5_standing 114 = .ok (.iconst 1, 1) := by decide +kernel
theorem dX5_standing_115 : decode cX5_standing 115 = .ok (.invokevirtual 102, 3) := by decide +kernel
theorem dX5_standing_118 : decode cX5_standing 118 = .ok (.ifCond .eq 28, 3) := by decide +kernel
theorem dX5_standing_121 : decode cX5_standing 121 = .ok (.iload 6, 2) := by decide +kernel
theorem dX5_standing_123 : decode cX5_standing 123 = .ok (.aload_n 0, 1) := by decide +kernel
theorem dX5_standing_124 : decode cX5_standing 124 = .ok (.aload_n 1, 1) := by decide +kernel
theorem dX5_standing_125 : decode cX5_standing 125 = .ok (.iload_n 2, 1) := by decide +kernel
theorem dX5_standing_126 : decode cX5_standing 126 = .ok (.iconst 1, 1) := by decide +kernel
theorem dX5_standing_127 : decode cX5_standing 127 = .ok (.isub, 1) := by decide +kernel
theorem dX5_standing_128 : decode cX5_standing 128 = .ok (.iconst 1, 1) := by decide +kernel
theorem dX5_standing_129 : decode cX5_standing 129 = .ok (.iload 4, 2) := by decide +kernel
theorem dX5_standing_131 : decode cX5_standing 131 = .ok (.iload 8, 2) := by decide +kernel
theorem dX5_standing_133 : decode cX5_standing 133 = .ok (.imul, 1) := by decide +kernel
theorem dX5_standing_134 : decode cX5_standing 134 = .ok (.iload 5, 2) := by decide +kernel
theorem dX5_standing_136 : decode cX5_standing 136 = .ok (.invokestatic 154, 3) := by decide +kernel
theorem dX5_standing_139 : decode cX5_standing 139 = .ok (.iadd, 1) := by decide +kernel
theorem dX5_standing_140 : decode cX5_standing 140 = .ok (.istore 6, 2) := by decide +kernel
theorem dX5_standing_142 : decode cX5_standing 142 = .ok (.aload_n 0, 1) := by decide +kernel
theorem dX5_standing_143 : decode cX5_standing 143 = .ok (.invokevirtual 188, 3) := by decide +kernel
theorem dX5_standing_146 : decode cX5_standing 146 = .ok (.iload 6, 2) := by decide +kernel
theorem dX5_standing_148 : decode cX5_standing 148 = .ok (.ireturn, 1) := by decide +kernel
theorem dX6_init_0 : decode cX6_init 0 = .ok (.aload_n 0, 1) := by decide +kernel
theorem dX6_init_1 : decode cX6_init 1 = .ok (.invokespecial 1, 3) := by decide +kernel
theorem dX6_init_4 : decode cX6_init 4 = .ok (.aload_n 0, 1) := by decide +kernel
theorem dX6_init_5 : decode cX6_init 5 = .ok (.bipush 16, 2) := by decide +kernel
theorem dX6_init_7 : decode cX6_init 7 = .ok (.newarray .int, 2) := by decide +kernel
theorem dX6_init_9 : decode cX6_init 9 = .ok (.putfield 7, 3) := by decide +kernel
theorem dX6_init_12 : decode cX6_init 12 = .ok (.aload_n 0, 1) := by decide +kernel
theorem dX6_init_13 : decode cX6_init 13 = .ok (.iconst 4, 1) := by decide +kernel
theorem dX6_init_14 : decode cX6_init 14 = .ok (.newarray .int, 2) := by decide +kernel
theorem dX6_init_16 : decode cX6_init 16 = .ok (.putfield 13, 3) := by decide +kernel
theorem dX6_init_19 : decode cX6_init 19 = .ok (.aload_n 0, 1) := by decide +kernel
theorem dX6_init_20 : decode cX6_init 20 = .ok (.iconst 3, 1) := by decide +kernel
theorem dX6_init_21 : decode cX6_init 21 = .ok (.newarray .int, 2) := by decide +kernel
theorem dX6_init_23 : decode cX6_init 23 = .ok (.putfield 16, 3) := by decide +kernel
theorem dX6_init_26 : decode cX6_init 26 = .ok (.aload_n 0, 1) := by decide +kernel
theorem dX6_init_27 : decode cX6_init 27 = .ok (.ldc 19, 2) := by decide +kernel
theorem dX6_init_29 : decode cX6_init 29 = .ok (.newarray .byte, 2) := by decide +kernel
theorem dX6_init_31 : decode cX6_init 31 = .ok (.putfield 20, 3) := by decide +kernel
theorem dX6_init_34 : decode cX6_init 34 = .ok (.aload_n 0, 1) := by decide +kernel
theorem dX6_init_35 : decode cX6_init 35 = .ok (.ldc 19, 2) := by decide +kernel
theorem dX6_init_37 : decode cX6_init 37 = .ok (.newarray .byte, 2) := by decide +kernel
theorem dX6_init_39 : decode cX6_init 39 = .ok (.putfield 24, 3) := by decide +kernel
theorem dX6_init_42 : decode cX6_init 42 = .ok (.aload_n 0, 1) := by decide +kernel
theorem dX6_init_43 : decode cX6_init 43 = .ok (.ldc 19, 2) := by decide +kernel
theorem dX6_init_45 : decode cX6_init 45 = .ok (.newarray .byte, 2) := by decide +kernel
theorem dX6_init_47 : decode cX6_init 47 = .ok (.putfield 27, 3) := by decide +kernel
theorem dX6_init_50 : decode cX6_init 50 = .ok (.aload_n 0, 1) := by decide +kernel
theorem dX6_init_51 : decode cX6_init 51 = .ok (.iconst 3, 1) := by decide +kernel
theorem dX6_init_52 : decode cX6_init 52 = .ok (.newarray .int, 2) := by decide +kernel
theorem dX6_init_54 : decode cX6_init 54 = .ok (.putfield 30, 3) := by decide +kernel
theorem dX6_init_57 : decode cX6_init 57 = .ok (.aload_n 0, 1) := by decide +kernel
theorem dX6_init_58 : decode cX6_init 58 = .ok (.bipush 60, 2) := by decide +kernel
theorem dX6_init_60 : decode cX6_init 60 = .ok (.newarray .int, 2) := by decide +kernel
theorem dX6_init_62 : decode cX6_init 62 = .ok (.putfield 33, 3) := by decide +kernel
theorem dX6_init_65 : decode cX6_init 65 = .ok (.aload_n 0, 1) := by decide +kernel
theorem dX6_init_66 : decode cX6_init 66 = .ok (.bipush 60, 2) := by decide +kernel
theorem dX6_init_68 : decode cX6_init 68 = .ok (.newarray .int, 2) := by decide +kernel
theorem dX6_init_70 : decode cX6_init 70 = .ok (.putfield 36, 3) := by decide +kernel
theorem dX6_init_73 : decode cX6_init 73 = .ok (.aload_n 0, 1) := by decide +kernel
theorem dX6_init_74 : decode cX6_init 74 = .ok (.bipush 60, 2) := by decide +kernel
theorem dX6_init_76 : decode cX6_init 76 = .ok (.newarray .int, 2) := by decide +kernel
theorem dX6_init_78 : decode cX6_init 78 = .ok (.putfield 39, 3) := by decide +kernel
theorem dX6_init_81 : decode cX6_init 81 = .ok (.aload_n 0, 1) := by decide +kernel
theorem dX6_init_82 : decode cX6_init 82 = .ok (.bipush 15, 2) := by decide +kernel
theorem dX6_init_84 : decode cX6_init 84 = .ok (.newarray .int, 2) := by decide +kernel
theorem dX6_init_86 : decode cX6_init 86 = .ok (.putfield 42, 3) := by decide +kernel
theorem dX6_init_89 : decode cX6_init 89 = .ok (.aload_n 0, 1) := by decide +kernel
theorem dX6_init_90 : decode cX6_init 90 = .ok (.sipush 2000, 3) := by decide +kernel
theorem dX6_init_93 : decode cX6_init 93 = .ok (.newarray .long, 2) := by decide +kernel
theorem dX6_init_95 : decode cX6_init 95 = .ok (.putfield 45, 3) := by decide +kernel
theorem dX6_init_98 : decode cX6_init 98 = .ok (.iconst 0, 1) := by decide +kernel
theorem dX6_init_99 : decode cX6_init 99 = .ok (.istore_n 1, 1) := by decide +kernel
theorem dX6_init_100 : decode cX6_init 100 = .ok (.iload_n 1, 1) := by decide +kernel
theorem dX6_init_101 : decode cX6_init 101 = .ok (.iconst 4, 1) := by decide +kernel
theorem dX6_init_102 : decode cX6_init 102 = .ok (.if_icmp .ge 36, 3) := by decide +kernel
theorem dX6_init_105 : decode cX6_init 105 = .ok (.aload_n 0, 1) := by decide +kernel
theorem dX6_init_106 : decode cX6_init 106 = .ok (.getfield 7, 3) := by decide +kernel
theorem dX6_init_109 : decode cX6_init 109 = .ok (.iconst 4, 1) := by decide +kernel
theorem dX6_init_110 : decode cX6_init 110 = .ok (.iload_n 1, 1) := by decide +kernel
theorem dX6_init_111 : decode cX6_init 111 = .ok (.imul, 1) := by decide +kernel
theorem dX6_init_112 : decode cX6_init 112 = .ok (.iconst 1, 1) := by decide +kernel
theorem dX6_init_113 : decode cX6_init 113 = .ok (.iastore, 1) := by decide +kernel
theorem dX6_init_114 : decode cX6_init 114 = .ok (.aload_n 0, 1) := by decide +kernel
theorem dX6_init_115 : decode cX6_init 115 = .ok (.getfield 7, 3) := by decide +kernel
theorem dX6_init_118 : decode cX6_init 118 = .ok (.iconst 4, 1) := by decide +kernel
theorem dX6_init_119 : decode cX6_init 119 = .ok (.iload_n 1, 1) := by decide +kernel
theorem dX6_init_120 : decode cX6_init 120 = .ok (.imul, 1) := by decide +kernel
theorem dX6_init_121 : decode cX6_init 121 = .ok (.iconst 1, 1) := by decide +kernel
theorem dX6_init_122 : decode cX6_init 122 = .ok (.iadd, 1) := by decide +kernel
theorem dX6_init_123 : decode cX6_init 123 = .ok (.iconst 2, 1) := by decide +kernel
theorem dX6_init_124 : decode cX6_init 124 = .ok (.iastore, 1) := by decide +kernel
theorem dX6_init_125 : decode cX6_init 125 = .ok (.aload_n 0, 1) := by decide +kernel
theorem dX6_init_126 : decode cX6_init 126 = .ok (.getfield 13, 3) := by decide +kernel
theorem dX6_init_129 : decode cX6_init 129 = .ok (.iload_n 1, 1) := by decide +kernel
theorem dX6_init_130 : decode cX6_init 130 = .ok (.iconst 2, 1) := by decide +kernel
theorem dX6_init_131 : decode cX6_init 131 = .ok (.iastore, 1) := by decide +kernel
theorem dX6_init_132 : decode cX6_init 132 = .ok (.iinc 1 1, 3) := by decide +kernel
theorem dX6_init_135 : decode cX6_init 135 = .ok (.goto (-35), 3) := by decide +kernel
theorem dX6_init_138 : decode cX6_init 138 = .ok (.aload_n 0, 1) := by decide +kernel
theorem dX6_init_139 : decode cX6_init 139 = .ok (.iconst 1, 1) := by decide +kernel
theorem dX6_init_140 : decode cX6_init 140 = .ok (.putfield 49, 3) := by decide +kernel
theorem dX6_init_143 : decode cX6_init 143 = .ok (.aload_n 0, 1) := by decide +kernel
theorem dX6_init_144 : decode cX6_init 144 = .ok (.iconst 1, 1) := by decide +kernel
theorem dX6_init_145 : decode cX6_init 145 = .ok (.putfield 53, 3) := by decide +kernel
theorem dX6_init_148 : decode cX6_init 148 = .ok (.return_, 1) := by decide +kernel
theorem dX6_in_0 : decode cX6_in 0 = .ok (.lload_n 0, 1) := by decide +kernel
theorem dX6_in_1 : decode cX6_in 1 = .ok (.lload_n 2, 1) := by decide +kernel
theorem dX6_in_2 : decode cX6_in 2 = .ok (.lcmp, 1) := by decide +kernel
theorem dX6_in_3 : decode cX6_in 3 = .ok (.ifCond .lt 14, 3) := by decide +kernel
theorem dX6_in_6 : decode cX6_in 6 = .ok (.lload_n 0, 1) := by decide +kernel
theorem dX6_in_7 : decode cX6_in 7 = .ok (.lload 4, 2) := by decide +kernel
theorem dX6_in_9 : decode cX6_in 9 = .ok (.lcmp, 1) := by decide +kernel
theorem dX6_in_10 : decode cX6_in 10 = .ok (.ifCond .gt 7, 3) := by decide +kernel
theorem dX6_in_13 : decode cX6_in 13 = .ok (.iconst 1, 1) := by decide +kernel
theorem dX6_in_14 : decode cX6_in 14 = .ok (.goto 4, 3) := by decide +kernel
theorem dX6_in_17 : decode cX6_in 17 = .ok (.iconst 0, 1) := by decide +kernel
theorem dX6_in_18 : decode cX6_in 18 = .ok (.ireturn, 1) := by decide +kernel
set_option maxRecDepth 20000 in
theorem ggX6_isAlphabet_X6_in : GoodIn wsX6_isAlphabet wsX6_in := goodIn_r _ [5] (by decide +kernel) (by decide +kernel)
set_option maxRecDepth 20000 in
theorem gX6_isAlphabet_X6_in : GoodIn wsX6_isAlphabet (va_wsS RX6 59 yX6_in wsX6_in) := goodIn_app (goodIn_of _ (by decide +kernel)) ggX6_isAlphabet_X6_in
theorem dX6_isAlphabet_0 : decode cX6_isAlphabet 0 = .ok (.iload_n 0, 1) := by decide +kernel
