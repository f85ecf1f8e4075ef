set_option maxRecDepth 20000 in
theorem gX5_isAhead_X5_sumOf : GoodIn wsX5_isAhead (wsV RX5 69 RX5 yX5_sumOf wsX5_sumOf) := goodIn_app (goodIn_of _ (by decide +kernel)) ggX5_isAhead_X5_sumOf
set_option maxRecDepth 20000 in
theorem ggX5_isAhead_X5_setOf : GoodIn wsX5_isAhead wsX5_setOf := goodIn_r _ [15, 7, 8, 9, 10, 11, 16, 17, 25, 26, 27, 28, 29, 30, 31] (by decide +kernel) (by decide +kernel)
set_option maxRecDepth 20000 in
theorem gX5_isAhead_X5_setOf : GoodIn wsX5_isAhead (wsV RX5 72 RX5 yX5_setOf wsX5_setOf) := goodIn_app (goodIn_of _ (by decide +kernel)) ggX5_isAhead_X5_setOf
set_option maxRecDepth 20000 in
theorem ggX5_isAhead_J6_bitCount_0f7a4 : GoodIn wsX5_isAhead wsJ6_bitCount_0f7a4 := goodIn_r _ [21, 22, 23, 24] (by decide +kernel) (by decide +kernel)
set_option maxRecDepth 20000 in
theorem gX5_isAhead_J6_bitCount_0f7a4 : GoodIn wsX5_isAhead (va_wsS RX5 75 yJ6_bitCount_0f7a4 wsJ6_bitCount_0f7a4) := goodIn_app (goodIn_of _ (by decide +kernel)) ggX5_isAhead_J6_bitCount_0f7a4
theorem dX5_isAhead_0 : decode cX5_isAhead 0 = .ok (.aload_n 0, 1) := by decide +kernel
theorem dX5_isAhead_1 : decode cX5_isAhead 1 = .ok (.aload_n 0, 1) := by decide +kernel
theorem dX5_isAhead_2 : decode cX5_isAhead 2 = .ok (.getfield 21, 3) := by decide +kernel
theorem dX5_isAhead_5 : decode cX5_isAhead 5 = .ok (.iload_n 1, 1) := by decide +kernel
theorem dX5_isAhead_6 : decode cX5_isAhead 6 = .ok (.invokevirtual 69, 3) := by decide +kernel
theorem dX5_isAhead_9 : decode cX5_isAhead 9 = .ok (.aload_n 0, 1) := by decide +kernel
theorem dX5_isAhead_10 : decode cX5_isAhead 10 = .ok (.aload_n 0, 1) := by decide +kernel
theorem dX5_isAhead_11 : decode cX5_isAhead 11 = .ok (.getfield 21, 3) := by decide +kernel
theorem dX5_isAhead_14 : decode cX5_isAhead 14 = .ok (.iload_n 2, 1) := by decide +kernel
theorem dX5_isAhead_15 : decode cX5_isAhead 15 = .ok (.invokevirtual 69, 3) := by decide +kernel
theorem dX5_isAhead_18 : decode cX5_isAhead 18 = .ok (.isub, 1) := by decide +kernel
theorem dX5_isAhead_19 : decode cX5_isAhead 19 = .ok (.istore_n 3, 1) := by decide +kernel
theorem dX5_isAhead_20 : decode cX5_isAhead 20 = .ok (.iload_n 3, 1) := by decide +kernel
theorem dX5_isAhead_21 : decode cX5_isAhead 21 = .ok (.ifCond .eq 13, 3) := by decide +kernel
theorem dX5_isAhead_24 : decode cX5_isAhead 24 = .ok (.iload_n 3, 1) := by decide +kernel
theorem dX5_isAhead_25 : decode cX5_isAhead 25 = .ok (.ifCond .le 7, 3) := by decide +kernel
theorem dX5_isAhead_28 : decode cX5_isAhead 28 = .ok (.iconst 1, 1) := by decide +kernel
theorem dX5_isAhead_29 : decode cX5_isAhead 29 = .ok (.goto 4, 3) := by decide +kernel
theorem dX5_isAhead_32 : decode cX5_isAhead 32 = .ok (.iconst 0, 1) := by decide +kernel
theorem dX5_isAhead_33 : decode cX5_isAhead 33 = .ok (.ireturn, 1) := by decide +kernel
theorem dX5_isAhead_34 : decode cX5_isAhead 34 = .ok (.aload_n 0, 1) := by decide +kernel
theorem dX5_isAhead_35 : decode cX5_isAhead 35 = .ok (.iload_n 1, 1) := by decide +kernel
theorem dX5_isAhead_36 : decode cX5_isAhead 36 = .ok (.invokevirtual 72, 3) := by decide +kernel
theorem dX5_isAhead_39 : decode cX5_isAhead 39 = .ok (.invokestatic 75, 3) := by decide +kernel
theorem dX5_isAhead_42 : decode cX5_isAhead 42 = .ok (.aload_n 0, 1) := by decide +kernel
theorem dX5_isAhead_43 : decode cX5_isAhead 43 = .ok (.iload_n 2, 1) := by decide +kernel
theorem dX5_isAhead_44 : decode cX5_isAhead 44 = .ok (.invokevirtual 72, 3) := by decide +kernel
theorem dX5_isAhead_47 : decode cX5_isAhead 47 = .ok (.invokestatic 75, 3) := by decide +kernel
theorem dX5_isAhead_50 : decode cX5_isAhead 50 = .ok (.isub, 1) := by decide +kernel
theorem dX5_isAhead_51 : decode cX5_isAhead 51 = .ok (.istore 4, 2) := by decide +kernel
theorem dX5_isAhead_53 : decode cX5_isAhead 53 = .ok (.iload 4, 2) := by decide +kernel
theorem dX5_isAhead_55 : decode cX5_isAhead 55 = .ok (.ifCond .eq 14, 3) := by decide +kernel
theorem dX5_isAhead_58 : decode cX5_isAhead 58 = .ok (.iload 4, 2) := by decide +kernel
theorem dX5_isAhead_60 : decode cX5_isAhead 60 = .ok (.ifCond .le 7, 3) := by decide +kernel
theorem dX5_isAhead_63 : decode cX5_isAhead 63 = .ok (.iconst 1, 1) := by decide +kernel
theorem dX5_isAhead_64 : decode cX5_isAhead 64 = .ok (.goto 4, 3) := by decide +kernel
theorem dX5_isAhead_67 : decode cX5_isAhead 67 = .ok (.iconst 0, 1) := by decide +kernel
theorem dX5_isAhead_68 : decode cX5_isAhead 68 = .ok (.ireturn, 1) := by decide +kernel
theorem dX5_isAhead_69 : decode cX5_isAhead 69 = .ok (.iload_n 1, 1) := by decide +kernel
theorem dX5_isAhead_70 : decode cX5_isAhead 70 = .ok (.iload_n 2, 1) := by decide +kernel
theorem dX5_isAhead_71 : decode cX5_isAhead 71 = .ok (.if_icmp .ge 7, 3) := by decide +kernel
theorem dX5_isAhead_74 : decode cX5_isAhead 74 = .ok (.iconst 1, 1) := by decide +kernel
theorem dX5_isAhead_75 : decode cX5_isAhead 75 = .ok (.goto 4, 3) := by decide +kernel
theorem dX5_isAhead_78 : decode cX5_isAhead 78 = .ok (.iconst 0, 1) := by decide +kernel
theorem dX5_isAhead_79 : decode cX5_isAhead 79 = .ok (.ireturn, 1) := by decide +kernel
set_option maxRecDepth 20000 in
theorem ggX5_guessByParishes_X5_setOf : GoodIn wsX5_guessByParishes wsX5_setOf := goodIn_r _ [5, 6, 7, 8, 9, 10, 11, 12, 20, 21, 22, 23, 24, 25, 26] (by decide +kernel) (by decide +kernel)
set_option maxRecDepth 20000 in
theorem gX5_guessByParishes_X5_setOf : GoodIn wsX5_guessByParishes (wsV RX5 72 RX5 yX5_setOf wsX5_setOf) := goodIn_app (goodIn_of _ (by decide +kernel)) ggX5_guessByParishes_X5_setOf
set_option maxRecDepth 20000 in
theorem ggX5_guessByParishes_J6_bitCount_0f7a4 : GoodIn wsX5_guessByParishes wsJ6_bitCount_0f7a4 := goodIn_r _ [16, 17, 18, 19] (by decide +kernel) (by decide +kernel)
set_option maxRecDepth 20000 in
theorem gX5_guessByParishes_J6_bitCount_0f7a4 : GoodIn wsX5_guessByParishes (va_wsS RX5 75 yJ6_bitCount_0f7a4 wsJ6_bitCount_0f7a4) := goodIn_app (goodIn_of _ (by decide +kernel)) ggX5_guessByParishes_J6_bitCount_0f7a4
theorem dX5_guessByParishes_0 : decode cX5_guessByParishes 0 = .ok (.sipush (-1015), 3) := by decide +kernel
theorem dX5_guessByParishes_3 : decode cX5_guessByParishes 3 = .ok (.istore_n 2, 1) := by decide +kernel
theorem dX5_guessByParishes_4 : decode cX5_guessByParishes 4 = .ok (.iconst 0, 1) := by decide +kernel
theorem dX5_guessByParishes_5 : decode cX5_guessByParishes 5 = .ok (.istore_n 3, 1) := by decide +kernel
theorem dX5_guessByParishes_6 : decode cX5_guessByParishes 6 = .ok (.iconst 1, 1) := by decide +kernel
theorem dX5_guessByParishes_7 : decode cX5_guessByParishes 7 = .ok (.istore 4, 2) := by decide +kernel
theorem dX5_guessByParishes_9 : decode cX5_guessByParishes 9 = .ok (.iconst 0, 1) := by decide +kernel
theorem dX5_guessByParishes_10 : decode cX5_guessByParishes 10 = .ok (.istore 5, 2) := by decide +kernel
theorem dX5_guessByParishes_12 : decode cX5_guessByParishes 12 = .ok (.iload 5, 2) := by decide +kernel
theorem dX5_guessByParishes_14 : decode cX5_guessByParishes 14 = .ok (.iconst 4, 1) := by decide +kernel
theorem dX5_guessByParishes_15 : decode cX5_guessByParishes 15 = .ok (.if_icmp .ge 75, 3) := by decide +kernel
theorem dX5_guessByParishes_18 : decode cX5_guessByParishes 18 = .ok (.iload_n 1, 1) := by decide +kernel
theorem dX5_guessByParishes_19 : decode cX5_guessByParishes 19 = .ok (.ifCond .eq 71, 3) := by decide +kernel
theorem dX5_guessByParishes_22 : decode cX5_guessByParishes 22 = .ok (.aload_n 0, 1) := by decide +kernel
theorem dX5_guessByParishes_23 : decode cX5_guessByParishes 23 = .ok (.iload 5, 2) := by decide +kernel
theorem dX5_guessByParishes_25 : decode cX5_guessByParishes 25 = .ok (.invokevirtual 72, 3) := by decide +kernel
theorem dX5_guessByParishes_28 : decode cX5_guessByParishes 28 = .ok (.istore 6, 2) := by decide +kernel
theorem dX5_guessByParishes_30 : decode cX5_guessByParishes 30 = .ok (.iload 6, 2) := by decide +kernel
theorem dX5_guessByParishes_32 : decode cX5_guessByParishes 32 = .ok (.invokestatic 75, 3) := by decide +kernel
theorem dX5_guessByParishes_35 : decode cX5_guessByParishes 35 = .ok (.istore 7, 2) := by decide +kernel
theorem dX5_guessByParishes_37 : decode cX5_guessByParishes 37 = .ok (.iload 6, 2) := by decide +kernel
theorem dX5_guessByParishes_39 : decode cX5_guessByParishes 39 = .ok (.iload_n 1, 1) := by decide +kernel
theorem dX5_guessByParishes_40 : decode cX5_guessByParishes 40 = .ok (.iand, 1) := by decide +kernel
theorem dX5_guessByParishes_41 : decode cX5_guessByParishes 41 = .ok (.invokestatic 75, 3) := by decide +kernel
theorem dX5_guessByParishes_44 : decode cX5_guessByParishes 44 = .ok (.istore 8, 2) := by decide +kernel
theorem dX5_guessByParishes_46 : decode cX5_guessByParishes 46 = .ok (.iload 8, 2) := by decide +kernel
theorem dX5_guessByParishes_48 : decode cX5_guessByParishes 48 = .ok (.iload 4, 2) := by decide +kernel
theorem dX5_guessByParishes_50 : decode cX5_guessByParishes 50 = .ok (.imul, 1) := by decide +kernel
theorem dX5_guessByParishes_51 : decode cX5_guessByParishes 51 = .ok (.iload_n 3, 1) := by decide +kernel
theorem dX5_guessByParishes_52 : decode cX5_guessByParishes 52 = .ok (.iload 7, 2) := by decide +kernel
theorem dX5_guessByParishes_54 : decode cX5_guessByParishes 54 = .ok (.imul, 1) := by decide +kernel
theorem dX5_guessByParishes_55 : decode cX5_guessByParishes 55 = .ok (.isub, 1) := by decide +kernel
theorem dX5_guessByParishes_56 : decode cX5_guessByParishes 56 = .ok (.istore 9, 2) := by decide +kernel
theorem dX5_guessByParishes_58 : decode cX5_guessByParishes 58 = .ok (.iload 9, 2) := by decide +kernel
theorem dX5_guessByParishes_60 : decode cX5_guessByParishes 60 = .ok (.ifCond .gt 14, 3) := by decide +kernel
theorem dX5_guessByParishes_63 : decode cX5_guessByParishes 63 = .ok (.iload 9, 2) := by decide +kernel
theorem dX5_guessByParishes_65 : decode cX5_guessByParishes 65 = .ok (.ifCond .ne 19, 3) := by decide +kernel
theorem dX5_guessByParishes_68 : decode cX5_guessByParishes 68 = .ok (.iload 8, 2) := by decide +kernel
theorem dX5_guessByParishes_70 : decode cX5_guessByParishes 70 = .ok (.iload_n 3, 1) := by decide +kernel
theorem dX5_guessByParishes_71 : decode cX5_guessByParishes 71 = .ok (.if_icmp .le 13, 3) := by decide +kernel
theorem dX5_guessByParishes_74 : decode cX5_guessByParishes 74 = .ok (.iload 5, 2) := by decide +kernel
theorem dX5_guessByParishes_76 : decode cX5_guessByParishes 76 = .ok (.istore_n 2, 1) := by decide +kernel
theorem dX5_guessByParishes_77 : decode cX5_guessByParishes 77 = .ok (.iload 8, 2) := by decide +kernel
theorem dX5_guessByParishes_79 : decode cX5_guessByParishes 79 = .ok (.istore_n 3, 1) := by decide +kernel
theorem dX5_guessByParishes_80 : decode cX5_guessByParishes 80 = .ok (.iload 7, 2) := by decide +kernel
theorem dX5_guessByParishes_82 : decode cX5_guessByParishes 82 = .ok (.istore 4, 2) := by decide +kernel
theorem dX5_guessByParishes_84 : decode cX5_guessByParishes 84 = .ok (.iinc 5 1, 3) := by decide +kernel
theorem dX5_guessByParishes_87 : decode cX5_guessByParishes 87 = .ok (.goto (-75), 3) := by decide +kernel
theorem dX5_guessByParishes_90 : decode cX5_guessByParishes 90 = .ok (.iload_n 2, 1) := by decide +kernel
theorem dX5_guessByParishes_91 : decode cX5_guessByParishes 91 = .ok (.ireturn, 1) := by decide +kernel
set_option maxRecDepth 20000 in
theorem ggX5_guessByRopes_X8_isIn : GoodIn wsX5_guessByRopes wsX8_isIn := goodIn_r _ [5] (by decide +kernel) (by decide +kernel)
set_option maxRecDepth 20000 in
theorem gX5_guessByRopes_X8_isIn_n52 : GoodIn wsX5_guessByRopes (wsX8_isIn) := ggX5_guessByRopes_X8_isIn
set_option maxRecDepth 20000 in
theorem ggX5_guessByRopes_X5_isGreaterShare : GoodIn wsX5_guessByRopes wsX5_isGreaterShare := goodIn_r _ [10, 2, 11, 4, 12, 13, 14, 15, 9, 16, 1, 3, 5, 17, 18, 19, 20, 21, 22, 23, 24, 25, 26, 27, 28, 29] (by decide +kernel) (by decide +kernel)
set_option maxRecDepth 20000 in
theorem gX5_guessByRopes_X5_isGreaterShare : GoodIn wsX5_guessByRopes (wsV RX5 80 RX5 yX5_isGreaterShare wsX5_isGreaterShare) := goodIn_app (goodIn_of _ (by decide +kernel)) ggX5_guessByRopes_X5_isGreaterShare
set_option maxRecDepth 20000 in
theorem ggX5_guessByRopes_X8_at : GoodIn wsX5_guessByRopes wsX8_at := goodIn_r _ [12] (by decide +kernel) (by decide +kernel)
set_option maxRecDepth 20000 in
theorem gX5_guessByRopes_X8_at_n42 : GoodIn wsX5_guessByRopes (wsX8_at) := ggX5_guessByRopes_X8_at
theorem dX5_guessByRopes_0 : decode cX5_guessByRopes 0 = .ok (.sipush (-1011), 3) := by decide +kernel
theorem dX5_guessByRopes_3 : decode cX5_guessByRopes 3 = .ok (.istore_n 2, 1) := by decide +kernel
theorem dX5_guessByRopes_4 : decode cX5_guessByRopes 4 = .ok (.iconst 0, 1) := by decide +kernel
theorem dX5_guessByRopes_5 : decode cX5_guessByRopes 5 = .ok (.istore_n 3, 1) := by decide +kernel
theorem dX5_guessByRopes_6 : decode cX5_guessByRopes 6 = .ok (.iload_n 3, 1) := by decide +kernel
theorem dX5_guessByRopes_7 : decode cX5_guessByRopes 7 = .ok (.aload_n 0, 1) := by decide +kernel
theorem dX5_guessByRopes_8 : decode cX5_guessByRopes 8 = .ok (.getfield 30, 3) := by decide +kernel
theorem dX5_guessByRopes_11 : decode cX5_guessByRopes 11 = .ok (.if_icmp .ge 36, 3) := by decide +kernel
theorem dX5_guessByRopes_14 : decode cX5_guessByRopes 14 = .ok (.iload_n 1, 1) := by decide +kernel
theorem dX5_guessByRopes_15 : decode cX5_guessByRopes 15 = .ok (.iload_n 3, 1) := by decide +kernel
theorem dX5_guessByRopes_16 : decode cX5_guessByRopes 16 = .ok (.invokestatic 52, 3) := by decide +kernel
theorem dX5_guessByRopes_19 : decode cX5_guessByRopes 19 = .ok (.ifCond .eq 22, 3) := by decide +kernel
theorem dX5_guessByRopes_22 : decode cX5_guessByRopes 22 = .ok (.iload_n 2, 1) := by decide +kernel
theorem dX5_guessByRopes_23 : decode cX5_guessByRopes 23 = .ok (.sipush (-1011), 3) := by decide +kernel
theorem dX5_guessByRopes_26 : decode cX5_guessByRopes 26 = .ok (.if_icmp .eq 13, 3) := by decide +kernel
theorem dX5_guessByRopes_29 : decode cX5_guessByRopes 29 = .ok (.aload_n 0, 1) := by decide +kernel
theorem dX5_guessByRopes_30 : decode cX5_guessByRopes 30 = .ok (.iload_n 3, 1) := by decide +kernel
theorem dX5_guessByRopes_31 : decode cX5_guessByRopes 31 = .ok (.iload_n 2, 1) := by decide +kernel
theorem dX5_guessByRopes_32 : decode cX5_guessByRopes 32 = .ok (.iload_n 1, 1) := by decide +kernel
theorem dX5_guessByRopes_33 : decode cX5_guessByRopes 33 = .ok (.invokevirtual 80, 3) := by decide +kernel
theorem dX5_guessByRopes_36 : decode cX5_guessByRopes 36 = .ok (.ifCond .eq 5, 3) := by decide +kernel
theorem dX5_guessByRopes_39 : decode cX5_guessByRopes 39 = .ok (.iload_n 3, 1) := by decide +kernel
theorem dX5_guessByRopes_40 : decode cX5_guessByRopes 40 = .ok (.istore_n 2, 1) := by decide +kernel
theorem dX5_guessByRopes_41 : decode cX5_guessByRopes 41 = .ok (.iinc 3 1, 3) := by decide +kernel
theorem dX5_guessByRopes_44 : decode cX5_guessByRopes 44 = .ok (.goto (-38), 3) := by decide +kernel
theorem dX5_guessByRopes_47 : decode cX5_guessByRopes 47 = .ok (.iload_n 2, 1) := by decide +kernel
theorem dX5_guessByRopes_48 : decode cX5_guessByRopes 48 = .ok (.sipush (-1011), 3) := by decide +kernel
theorem dX5_guessByRopes_51 : decode cX5_guessByRopes 51 = .ok (.if_icmp .ne 9, 3) := by decide +kernel
theorem dX5_guessByRopes_54 : decode cX5_guessByRopes 54 = .ok (.sipush (-1015), 3) := by decide +kernel
theorem dX5_guessByRopes_57 : decode cX5_guessByRopes 57 = .ok (.goto 11, 3) := by decide +kernel
theorem dX5_guessByRopes_60 : decode cX5_guessByRopes 60 = .ok (.aload_n 0, 1) := by decide +kernel
theorem dX5_guessByRopes_61 : decode cX5_guessByRopes 61 = .ok (.getfield 9, 3) := by decide +kernel
theorem dX5_guessByRopes_64 : decode cX5_guessByRopes 64 = .ok (.iload_n 2, 1) := by decide +kernel
theorem dX5_guessByRopes_65 : decode cX5_guessByRopes 65 = .ok (.invokestatic 42, 3) := by decide +kernel
theorem dX5_guessByRopes_68 : decode cX5_guessByRopes 68 = .ok (.ireturn, 1) := by decide +kernel
set_option maxRecDepth 20000 in
theorem ggX5_isGreaterShare_X8_at : GoodIn wsX5_isGreaterShare wsX8_at := goodIn_r _ [4] (by decide +kernel) (by decide +kernel)
set_option maxRecDepth 20000 in
theorem gX5_isGreaterShare_X8_at_n42 : GoodIn wsX5_isGreaterShare (wsX8_at) := ggX5_isGreaterShare_X8_at
set_option maxRecDepth 20000 in
theorem ggX5_isGreaterShare_X5_neighbours : GoodIn wsX5_isGreaterShare wsX5_neighbours := goodIn_r _ [9, 10, 1, 11, 3, 12, 2, 4, 19, 20, 21, 22, 23, 24, 25] (by decide +kernel) (by decide +kernel)
set_option maxRecDepth 20000 in
theorem gX5_isGreaterShare_X5_neighbours : GoodIn wsX5_isGreaterShare (wsV RX5 84 RX5 yX5_neighbours wsX5_neighbours) := goodIn_app (goodIn_of _ (by decide +kernel)) ggX5_isGreaterShare_X5_neighbours
set_option maxRecDepth 20000 in
theorem ggX5_isGreaterShare_X5_setOfAll : GoodIn wsX5_isGreaterShare wsX5_setOfAll := goodIn_r _ [16, 10, 17, 3, 18, 19, 20, 21, 22, 23, 24, 25] (by decide +kernel) (by decide +kernel)
set_option maxRecDepth 20000 in
theorem gX5_isGreaterShare_X5_setOfAll : GoodIn wsX5_isGreaterShare (wsV RX5 87 RX5 yX5_setOfAll wsX5_setOfAll) := goodIn_app (goodIn_of _ (by decide +kernel)) ggX5_isGreaterShare_X5_setOfAll
theorem dX5_isGreaterShare_0 : decode cX5_isGreaterShare 0 = .ok (.aload_n 0, 1) := by decide +kernel
theorem dX5_isGreaterShare_1 : decode cX5_isGreaterShare 1 = .ok (.getfield 9, 3) := by decide +kernel
theorem dX5_isGreaterShare_4 : decode cX5_isGreaterShare 4 = .ok (.iload_n 1, 1) := by decide +kernel
theorem dX5_isGreaterShare_5 : decode cX5_isGreaterShare 5 = .ok (.invokestatic 42, 3) := by decide +kernel
theorem dX5_isGreaterShare_8 : decode cX5_isGreaterShare 8 = .ok (.istore 4, 2) := by decide +kernel
theorem dX5_isGreaterShare_10 : decode cX5_isGreaterShare 10 = .ok (.aload_n 0, 1) := by decide +kernel
theorem dX5_isGreaterShare_11 : decode cX5_isGreaterShare 11 = .ok (.getfield 9, 3) := by decide +kernel
theorem dX5_isGreaterShare_14 : decode cX5_isGreaterShare 14 = .ok (.iload_n 2, 1) := by decide +kernel
theorem dX5_isGreaterShare_15 : decode cX5_isGreaterShare 15 = .ok (.invokestatic 42, 3) := by decide +kernel
theorem dX5_isGreaterShare_18 : decode cX5_isGreaterShare 18 = .ok (.istore 5, 2) := by decide +kernel
theorem dX5_isGreaterShare_20 : decode cX5_isGreaterShare 20 = .ok (.aload_n 0, 1) := by decide +kernel
theorem dX5_isGreaterShare_21 : decode cX5_isGreaterShare 21 = .ok (.iload 4, 2) := by decide +kernel
theorem dX5_isGreaterShare_23 : decode cX5_isGreaterShare 23 = .ok (.iload_n 3, 1) := by decide +kernel
theorem dX5_isGreaterShare_24 : decode cX5_isGreaterShare 24 = .ok (.invokevirtual 84, 3) := by decide +kernel
theorem dX5_isGreaterShare_27 : decode cX5_isGreaterShare 27 = .ok (.istore 6, 2) := by decide +kernel
theorem dX5_isGreaterShare_29 : decode cX5_isGreaterShare 29 = .ok (.aload_n 0, 1) := by decide +kernel
theorem dX5_isGreaterShare_30 : decode cX5_isGreaterShare 30 = .ok (.iload 5, 2) := by decide +kernel
theorem dX5_isGreaterShare_32 : decode cX5_isGreaterShare 32 = .ok (.iload_n 3, 1) := by decide +kernel
theorem dX5_isGreaterShare_33 : decode cX5_isGreaterShare 33 = .ok (.invokevirtual 84, 3) := by decide +kernel
theorem dX5_isGreaterShare_36 : decode cX5_isGreaterShare 36 = .ok (.istore 7, 2) := by decide +kernel
theorem dX5_isGreaterShare_38 : decode cX5_isGreaterShare 38 = .ok (.iload 6, 2) := by decide +kernel
theorem dX5_isGreaterShare_40 : decode cX5_isGreaterShare 40 = .ok (.aload_n 0, 1) := by decide +kernel
theorem dX5_isGreaterShare_41 : decode cX5_isGreaterShare 41 = .ok (.iload 5, 2) := by decide +kernel
theorem dX5_isGreaterShare_43 : decode cX5_isGreaterShare 43 = .ok (.aload_n 0, 1) := by decide +kernel
theorem dX5_isGreaterShare_44 : decode cX5_isGreaterShare 44 = .ok (.invokevirtual 87, 3) := by decide +kernel
theorem dX5_isGreaterShare_47 : decode cX5_isGreaterShare 47 = .ok (.invokevirtual 84, 3) := by decide +kernel
theorem dX5_isGreaterShare_50 : decode cX5_isGreaterShare 50 = .ok (.imul, 1) := by decide +kernel
theorem dX5_isGreaterShare_51 : decode cX5_isGreaterShare 51 = .ok (.istore 8, 2) := by decide +kernel
theorem dX5_isGreaterShare_53 : decode cX5_isGreaterShare 53 = .ok (.iload 7, 2) := by decide +kernel
theorem dX5_isGreaterShare_55 : decode cX5_isGreaterShare 55 = .ok (.aload_n 0, 1) := by decide +kernel
theorem dX5_isGreaterShare_56 : decode cX5_isGreaterShare 56 = .ok (.iload 4, 2) := by decide +kernel
theorem dX5_isGreaterShare_58 : decode cX5_isGreaterShare 58 = .ok (.aload_n 0, 1) := by decide +kernel
theorem dX5_isGreaterShare_59 : decode cX5_isGreaterShare 59 = .ok (.invokevirtual 87, 3) := by decide +kernel
theorem dX5_isGreaterShare_62 : decode cX5_isGreaterShare 62 = .ok (.invokevirtual 84, 3) := by decide +kernel
theorem dX5_isGreaterShare_65 : decode cX5_isGreaterShare 65 = .ok (.imul, 1) := by decide +kernel
theorem dX5_isGreaterShare_66 : decode cX5_isGreaterShare 66 = .ok (.istore 9, 2) := by decide +kernel
theorem dX5_isGreaterShare_68 : decode cX5_isGreaterShare 68 = .ok (.iload 8, 2) := by decide +kernel
theorem dX5_isGreaterShare_70 : decode cX5_isGreaterShare 70 = .ok (.iload 9, 2) := by decide +kernel
theorem dX5_isGreaterShare_72 : decode cX5_isGreaterShare 72 = .ok (.if_icmp .eq 16, 3) := by decide +kernel
theorem dX5_isGreaterShare_75 : decode cX5_isGreaterShare 75 = .ok (.iload 8, 2) := by decide +kernel
theorem dX5_isGreaterShare_77 : decode cX5_isGreaterShare 77 = .ok (.iload 9, 2) := by decide +kernel
theorem dX5_isGreaterShare_79 : decode cX5_isGreaterShare 79 = .ok (.if_icmp .le 7, 3) := by decide +kernel
theorem dX5_isGreaterShare_82 : decode cX5_isGreaterShare 82 = .ok (.iconst 1, 1) := by decide +kernel
theorem dX5_isGreaterShare_83 : decode cX5_isGreaterShare 83 = .ok (.goto 4, 3) := by decide +kernel
theorem dX5_isGreaterShare_86 : decode cX5_isGreaterShare 86 = .ok (.iconst 0, 1) := by decide +kernel
theorem dX5_isGreaterShare_87 : decode cX5_isGreaterShare 87 = .ok (.ireturn, 1) := by decide +kernel
theorem dX5_isGreaterShare_88 : decode cX5_isGreaterShare 88 = .ok (.iload 6, 2) := by decide +kernel
theorem dX5_isGreaterShare_90 : decode cX5_isGreaterShare 90 = .ok (.iload 7, 2) := by decide +kernel
theorem dX5_isGreaterShare_92 : decode cX5_isGreaterShare 92 = .ok (.if_icmp .eq 16, 3) := by decide +kernel
theorem dX5_isGreaterShare_95 : decode cX5_isGreaterShare 95 = .ok (.iload 6, 2) := by decide +kernel
theorem dX5_isGreaterShare_97 : decode cX5_isGreaterShare 97 = .ok (.iload 7, 2) := by decide +kernel
theorem dX5_isGreaterShare_99 : decode cX5_isGreaterShare 99 = .ok (.if_icmp .le 7, 3) := by decide +kernel
theorem dX5_isGreaterShare_102 : decode cX5_isGreaterShare 102 = .ok (.iconst 1, 1) := by decide +kernel
theorem dX5_isGreaterShare_103 : decode cX5_isGreaterShare 103 = .ok (.goto 4, 3) := by decide +kernel
theorem dX5_isGreaterShare_106 : decode cX5_isGreaterShare 106 = .ok (.iconst 0, 1) := by decide +kernel
theorem dX5_isGreaterShare_107 : decode cX5_isGreaterShare 107 = .ok (.ireturn, 1) := by decide +kernel
theorem dX5_isGreaterShare_108 : decode cX5_isGreaterShare 108 = .ok (.iload 4, 2) := by decide +kernel
theorem dX5_isGreaterShare_110 : decode cX5_isGreaterShare 110 = .ok (.iload 5, 2) := by decide +kernel
theorem dX5_isGreaterShare_112 : decode cX5_isGreaterShare 112 = .ok (.if_icmp .ge 7, 3) := by decide +kernel
theorem dX5_isGreaterShare_115 : decode cX5_isGreaterShare 115 = .ok (.iconst 1, 1) := by decide +kernel
theorem dX5_isGreaterShare_116 : decode cX5_isGreaterShare 116 = .ok (.goto 4, 3) := by decide +kernel
theorem dX5_isGreaterShare_119 : decode cX5_isGreaterShare 119 = .ok (.iconst 0, 1) := by decide +kernel
theorem dX5_isGreaterShare_120 : decode cX5_isGreaterShare 120 = .ok (.ireturn, 1) := by decide +kernel
set_option maxRecDepth 20000 in
theorem ggX5_neighbours_X8_isIn : GoodIn wsX5_neighbours wsX8_isIn := goodIn_r _ [5] (by decide +kernel) (by decide +kernel)
set_option maxRecDepth 20000 in
theorem gX5_neighbours_X8_isIn_n52 : GoodIn wsX5_neighbours (wsX8_isIn) := ggX5_neighbours_X8_isIn
set_option maxRecDepth 20000 in
theorem ggX5_neighbours_X8_at : GoodIn wsX5_neighbours wsX8_at := goodIn_r _ [7] (by decide +kernel) (by decide +kernel)
set_option maxRecDepth 20000 in
theorem gX5_neighbours_X8_at_n42 : GoodIn wsX5_neighbours (wsX8_at) := ggX5_neighbours_X8_at
theorem dX5_neighbours_0 : decode cX5_neighbours 0 = .ok (.iconst 0, 1) := by decide +kernel
theorem dX5_neighbours_1 : decode cX5_neighbours 1 = .ok (.istore_n 3, 1) := by decide +kernel
theorem dX5_neighbours_2 : decode cX5_neighbours 2 = .ok (.iconst 0, 1) := by decide +kernel
theorem dX5_neighbours_3 : decode cX5_neighbours 3 = .ok (.istore 4, 2) := by decide +kernel
theorem dX5_neighbours_5 : decode cX5_neighbours 5 = .ok (.iload 4, 2) := by decide +kernel
theorem dX5_neighbours_7 : decode cX5_neighbours 7 = .ok (.aload_n 0, 1) := by decide +kernel
theorem dX5_neighbours_8 : decode cX5_neighbours 8 = .ok (.getfield 30, 3) := by decide +kernel
theorem dX5_neighbours_11 : decode cX5_neighbours 11 = .ok (.if_icmp .ge 34, 3) := by decide +kernel
theorem dX5_neighbours_14 : decode cX5_neighbours 14 = .ok (.iload_n 2, 1) := by decide +kernel
theorem dX5_neighbours_15 : decode cX5_neighbours 15 = .ok (.iload 4, 2) := by decide +kernel
theorem dX5_neighbours_17 : decode cX5_neighbours 17 = .ok (.invokestatic 52, 3) := by decide +kernel
theorem dX5_neighbours_20 : decode cX5_neighbours 20 = .ok (.ifCond .eq 19, 3) := by decide +kernel
theorem dX5_neighbours_23 : decode cX5_neighbours 23 = .ok (.aload_n 0, 1) := by decide +kernel
theorem dX5_neighbours_24 : decode cX5_neighbours 24 = .ok (.getfield 9, 3) := by decide +kernel
theorem dX5_neighbours_27 : decode cX5_neighbours 27 = .ok (.iload 4, 2) := by decide +kernel
theorem dX5_neighbours_29 : decode cX5_neighbours 29 = .ok (.invokestatic 42, 3) := by decide +kernel
theorem dX5_neighbours_32 : decode cX5_neighbours 32 = .ok (.iload_n 1, 1) := by decide +kernel
theorem dX5_neighbours_33 : decode cX5_neighbours 33 = .ok (.if_icmp .ne 6, 3) := by decide +kernel
theorem dX5_neighbours_36 : decode cX5_neighbours 36 = .ok (.iinc 3 1, 3) := by decide +kernel
theorem dX5_neighbours_39 : decode cX5_neighbours 39 = .ok (.iinc 4 1, 3) := by decide +kernel
theorem dX5_neighbours_42 : decode cX5_neighbours 42 = .ok (.goto (-37), 3) := by decide +kernel
theorem dX5_neighbours_45 : decode cX5_neighbours 45 = .ok (.iload_n 3, 1) := by decide +kernel
theorem dX5_neighbours_46 : decode cX5_neighbours 46 = .ok (.ireturn, 1) := by decide +kernel
theorem dX6_init_0 : decode cX6_init 0 = .ok (.aload_n 0, 1) := by decide +kernel
theorem dX6_init_1 : decode cX6_init 1 = .ok (.invokespecial 3, 3) := by decide +kernel
theorem dX6_init_4 : decode cX6_init 4 = .ok (.aload_n 0, 1) := by decide +kernel
theorem dX6_init_5 : decode cX6_init 5 = .ok (.bipush 60, 2) := by decide +kernel
theorem dX6_init_7 : decode cX6_init 7 = .ok (.newarray .int, 2) := by decide +kernel
theorem dX6_init_9 : decode cX6_init 9 = .ok (.putfield 9, 3) := by decide +kernel
theorem dX6_init_12 : decode cX6_init 12 = .ok (.return_, 1) := by decide +kernel
set_option maxRecDepth 20000 in
theorem ggX6_add_X8_put : GoodIn wsX6_add wsX8_put := goodIn_r _ [9] (by decide +kernel) (by decide +kernel)
set_option maxRecDepth 20000 in
theorem gX6_add_X8_put_n19 : GoodIn wsX6_add (wsX8_put) := ggX6_add_X8_put
theorem dX6_add_0 : decode cX6_add 0 = .ok (.aload_n 0, 1) := by decide +kernel
theorem dX6_add_1 : decode cX6_add 1 = .ok (.getfield 9, 3) := by decide +kernel
theorem dX6_add_4 : decode cX6_add 4 = .ok (.aload_n 0, 1) := by decide +kernel
theorem dX6_add_5 : decode cX6_add 5 = .ok (.getfield 15, 3) := by decide +kernel
theorem dX6_add_8 : decode cX6_add 8 = .ok (.iload_n 1, 1) := by decide +kernel
theorem dX6_add_9 : decode cX6_add 9 = .ok (.invokestatic 19, 3) := by decide +kernel
theorem dX6_add_12 : decode cX6_add 12 = .ok (.aload_n 0, 1) := by decide +kernel
theorem dX6_add_13 : decode cX6_add 13 = .ok (.aload_n 0, 1) := by decide +kernel
theorem dX6_add_14 : decode cX6_add 14 = .ok (.getfield 15, 3) := by decide +kernel
theorem dX6_add_17 : decode cX6_add 17 = .ok (.iconst 1, 1) := by decide +kernel
theorem dX6_add_18 : decode cX6_add 18 = .ok (.iadd, 1) := by decide +kernel
theorem dX6_add_19 : decode cX6_add 19 = .ok (.bipush 60, 2) := by decide +kernel
theorem dX6_add_21 : decode cX6_add 21 = .ok (.invokestatic 23, 3) := by decide +kernel
theorem dX6_add_24 : decode cX6_add 24 = .ok (.putfield 15, 3) := by decide +kernel
theorem dX6_add_27 : decode cX6_add 27 = .ok (.aload_n 0, 1) := by decide +kernel
theorem dX6_add_28 : decode cX6_add 28 = .ok (.getfield 15, 3) := by decide +kernel
theorem dX6_add_31 : decode cX6_add 31 = .ok (.ireturn, 1) := by decide +kernel
set_option maxRecDepth 20000 in
theorem ggX6_codeAt_X8_at : GoodIn wsX6_codeAt wsX8_at := goodIn_r _ [5] (by decide +kernel) (by decide +kernel)
set_option maxRecDepth 20000 in
theorem gX6_codeAt_X8_at_n29 : GoodIn wsX6_codeAt (wsX8_at) := ggX6_codeAt_X8_at
theorem dX6_codeAt_0 : decode cX6_codeAt 0 = .ok (.iload_n 1, 1) := by decide +kernel
theorem dX6_codeAt_1 : decode cX6_codeAt 1 = .ok (.ifCond .lt 22, 3) := by decide +kernel
theorem dX6_codeAt_4 : decode cX6_codeAt 4 = .ok (.iload_n 1, 1) := by decide +kernel
theorem dX6_codeAt_5 : decode cX6_codeAt 5 = .ok (.aload_n 0, 1) := by decide +kernel
theorem dX6_codeAt_6 : decode cX6_codeAt 6 = .ok (.getfield 15, 3) := by decide +kernel
theorem dX6_codeAt_9 : decode cX6_codeAt 9 = .ok (.if_icmp .ge 14, 3) := by decide +kernel
theorem dX6_codeAt_12 : decode cX6_codeAt 12 = .ok (.aload_n 0, 1) := by decide +kernel
theorem dX6_codeAt_13 : decode cX6_codeAt 13 = .ok (.getfield 9, 3) := by decide +kernel
theorem dX6_codeAt_16 : decode cX6_codeAt 16 = .ok (.iload_n 1, 1) := by decide +kernel
theorem dX6_codeAt_17 : decode cX6_codeAt 17 = .ok (.invokestatic 29, 3) := by decide +kernel
theorem dX6_codeAt_20 : decode cX6_codeAt 20 = .ok (.goto 6, 3) := by decide +kernel
theorem dX6_codeAt_23 : decode cX6_codeAt 23 = .ok (.sipush (-1011), 3) := by decide +kernel
theorem dX6_codeAt_26 : decode cX6_codeAt 26 = .ok (.ireturn, 1) := by decide +kernel
set_option maxRecDepth 20000 in
theorem ggX7_init_X5_init : GoodIn wsX7_init wsX5_init := goodIn_r _ [19, 20, 2, 3, 16, 21, 22, 23, 24, 25, 26, 40, 41, 42, 43, 44, 45, 46] (by decide +kernel) (by decide +kernel)
set_option maxRecDepth 20000 in
theorem gX7_init_X5_init_n11 : GoodIn wsX7_init (wsX5_init) := ggX7_init_X5_init
set_option maxRecDepth 20000 in
theorem ggX7_init_X4_init : GoodIn wsX7_init wsX4_init := goodIn_r _ [28, 29, 2, 3, 16, 30, 31, 32, 59, 60, 61, 62] (by decide +kernel) (by decide +kernel)
set_option maxRecDepth 20000 in
theorem gX7_init_X4_init_n20 : GoodIn wsX7_init (wsX4_init) := ggX7_init_X4_init
set_option maxRecDepth 20000 in
theorem ggX7_init_X0_init : GoodIn wsX7_init wsX0_init := goodIn_r _ [34, 35, 2, 3, 16, 36, 37, 38, 39, 63, 64, 65, 66, 67, 68] (by decide +kernel) (by decide +kernel)
set_option maxRecDepth 20000 in
theorem gX7_init_X0_init_n27 : GoodIn wsX7_init (wsX0_init) := ggX7_init_X0_init
theorem dX7_init_0 : decode cX7_init 0 = .ok (.aload_n 0, 1) := by decide +kernel
theorem dX7_init_1 : decode cX7_init 1 = .ok (.invokespecial 3, 3) := by decide +kernel
theorem dX7_init_4 : decode cX7_init 4 = .ok (.aload_n 0, 1) := by decide +kernel
theorem dX7_init_5 : decode cX7_init 5 = .ok (.new 9, 3) := by decide +kernel
theorem dX7_init_8 : decode cX7_init 8 = .ok (.dup, 1) := by decide +kernel
theorem dX7_init_9 : decode cX7_init 9 = .ok (.invokespecial 11, 3) := by decide +kernel
theorem dX7_init_12 : decode cX7_init 12 = .ok (.putfield 12, 3) := by decide +kernel
theorem dX7_init_15 : decode cX7_init 15 = .ok (.aload_n 0, 1) := by decide +kernel
theorem dX7_init_16 : decode cX7_init 16 = .ok (.new 18, 3) := by decide +kernel
theorem dX7_init_19 : decode cX7_init 19 = .ok (.dup, 1) := by decide +kernel
theorem dX7_init_20 : decode cX7_init 20 = .ok (.invokespecial 20, 3) := by decide +kernel
theorem dX7_init_23 : decode cX7_init 23 = .ok (.putfield 21, 3) := by decide +kernel
theorem dX7_init_26 : decode cX7_init 26 = .ok (.aload_n 0, 1) := by decide +kernel
theorem dX7_init_27 : decode cX7_init 27 = .ok (.new 25, 3) := by decide +kernel
theorem dX7_init_30 : decode cX7_init 30 = .ok (.dup, 1) := by decide +kernel
theorem dX7_init_31 : decode cX7_init 31 = .ok (.invokespecial 27, 3) := by decide +kernel
theorem dX7_init_34 : decode cX7_init 34 = .ok (.putfield 28, 3) := by decide +kernel
theorem dX7_init_37 : decode cX7_init 37 = .ok (.aload_n 0, 1) := by decide +kernel
theorem dX7_init_38 : decode cX7_init 38 = .ok (.bipush 24, 2) := by decide +kernel
theorem dX7_init_40 : decode cX7_init 40 = .ok (.newarray .int, 2) := by decide +kernel
theorem dX7_init_42 : decode cX7_init 42 = .ok (.putfield 32, 3) := by decide +kernel
theorem dX7_init_45 : decode cX7_init 45 = .ok (.return_, 1) := by decide +kernel
set_option maxRecDepth 20000 in
theorem ggX7_copyFrom_X5_copyFrom : GoodIn wsX7_copyFrom wsX5_copyFrom := goodIn_r _ [17, 18, 19, 20, 21, 22, 23, 24, 25, 26, 27, 28, 29, 30, 31, 32, 33, 34, 35, 68, 69, 70, 71, 72, 73, 74] (by decide +kernel) (by decide +kernel)
set_option maxRecDepth 20000 in
theorem gX7_copyFrom_X5_copyFrom : GoodIn wsX7_copyFrom (wsV RX7 36 RX5 yX5_copyFrom wsX5_copyFrom) := goodIn_app (goodIn_of _ (by decide +kernel)) ggX7_copyFrom_X5_copyFrom
set_option maxRecDepth 20000 in
theorem ggX7_copyFrom_X4_copyFrom : GoodIn wsX7_copyFrom wsX4_copyFrom := goodIn_r _ [40, 41, 42, 43, 44, 25, 26, 27, 28, 29, 30, 31, 32, 33, 34, 35, 75, 76, 77, 78] (by decide +kernel) (by decide +kernel)
set_option maxRecDepth 20000 in
theorem gX7_copyFrom_X4_copyFrom : GoodIn wsX7_copyFrom (wsV RX7 40 RX4 yX4_copyFrom wsX4_copyFrom) := goodIn_app (goodIn_of _ (by decide +kernel)) ggX7_copyFrom_X4_copyFrom
set_option maxRecDepth 20000 in
theorem ggX7_copyFrom_X0_copyFrom : GoodIn wsX7_copyFrom wsX0_copyFrom := goodIn_r _ [49, 50, 51, 52, 53, 54, 55, 25, 26, 27, 28, 29, 30, 31, 32, 33, 34, 35, 79, 80, 81, 82, 83, 84] (by decide +kernel) (by decide +kernel)
set_option maxRecDepth 20000 in
theorem gX7_copyFrom_X0_copyFrom : GoodIn wsX7_copyFrom (wsV RX7 43 RX0 yX0_copyFrom wsX0_copyFrom) := goodIn_app (goodIn_of _ (by decide +kernel)) ggX7_copyFrom_X0_copyFrom
set_option maxRecDepth 20000 in
theorem ggX7_copyFrom_X8_copy : GoodIn wsX7_copyFrom wsX8_copy := goodIn_r _ [27, 28, 29, 30, 31, 32, 33, 34, 35] (by decide +kernel) (by decide +kernel)
set_option maxRecDepth 20000 in
theorem gX7_copyFrom_X8_copy_n46 : GoodIn wsX7_copyFrom (wsX8_copy) := ggX7_copyFrom_X8_copy
theorem dX7_copyFrom_0 : decode cX7_copyFrom 0 = .ok (.aload_n 0, 1) := by decide +kernel
theorem dX7_copyFrom_1 : decode cX7_copyFrom 1 = .ok (.getfield 12, 3) := by decide +kernel
theorem dX7_copyFrom_4 : decode cX7_copyFrom 4 = .ok (.aload_n 1, 1) := by decide +kernel
theorem dX7_copyFrom_5 : decode cX7_copyFrom 5 = .ok (.getfield 12, 3) := by decide +kernel
theorem dX7_copyFrom_8 : decode cX7_copyFrom 8 = .ok (.invokevirtual 36, 3) := by decide +kernel
theorem dX7_copyFrom_11 : decode cX7_copyFrom 11 = .ok (.aload_n 0, 1) := by decide +kernel
theorem dX7_copyFrom_12 : decode cX7_copyFrom 12 = .ok (.getfield 21, 3) := by decide +kernel
theorem dX7_copyFrom_15 : decode cX7_copyFrom 15 = .ok (.aload_n 1, 1) := by decide +kernel
theorem dX7_copyFrom_16 : decode cX7_copyFrom 16 = .ok (.getfield 21, 3) := by decide +kernel
theorem dX7_copyFrom_19 : decode cX7_copyFrom 19 = .ok (.invokevirtual 40, 3) := by decide +kernel
theorem dX7_copyFrom_22 : decode cX7_copyFrom 22 = .ok (.aload_n 0, 1) := by decide +kernel
theorem dX7_copyFrom_23 : decode cX7_copyFrom 23 = .ok (.getfield 28, 3) := by decide +kernel
theorem dX7_copyFrom_26 : decode cX7_copyFrom 26 = .ok (.aload_n 1, 1) := by decide +kernel
theorem dX7_copyFrom_27 : decode cX7_copyFrom 27 = .ok (.getfield 28, 3) := by decide +kernel
theorem dX7_copyFrom_30 : decode cX7_copyFrom 30 = .ok (.invokevirtual 43, 3) := by decide +kernel
theorem dX7_copyFrom_33 : decode cX7_copyFrom 33 = .ok (.aload_n 1, 1) := by decide +kernel
theorem dX7_copyFrom_34 : decode cX7_copyFrom 34 = .ok (.getfield 32, 3) := by decide +kernel
theorem dX7_copyFrom_37 : decode cX7_copyFrom 37 = .ok (.aload_n 0, 1) := by decide +kernel
theorem dX7_copyFrom_38 : decode cX7_copyFrom 38 = .ok (.getfield 32, 3) := by decide +kernel
theorem dX7_copyFrom_41 : decode cX7_copyFrom 41 = .ok (.invokestatic 46, 3) := by decide +kernel
theorem dX7_copyFrom_44 : decode cX7_copyFrom 44 = .ok (.aload_n 0, 1) := by decide +kernel
theorem dX7_copyFrom_45 : decode cX7_copyFrom 45 = .ok (.aload_n 1, 1) := by decide +kernel
theorem dX7_copyFrom_46 : decode cX7_copyFrom 46 = .ok (.getfield 50, 3) := by decide +kernel
theorem dX7_copyFrom_49 : decode cX7_copyFrom 49 = .ok (.putfield 50, 3) := by decide +kernel
theorem dX7_copyFrom_52 : decode cX7_copyFrom 52 = .ok (.aload_n 0, 1) := by decide +kernel
theorem dX7_copyFrom_53 : decode cX7_copyFrom 53 = .ok (.aload_n 1, 1) := by decide +kernel
theorem dX7_copyFrom_54 : decode cX7_copyFrom 54 = .ok (.getfield 54, 3) := by decide +kernel
theorem dX7_copyFrom_57 : decode cX7_copyFrom 57 = .ok (.putfield 54, 3) := by decide +kernel
theorem dX7_copyFrom_60 : decode cX7_copyFrom 60 = .ok (.aload_n 0, 1) := by decide +kernel
theorem dX7_copyFrom_61 : decode cX7_copyFrom 61 = .ok (.aload_n 1, 1) := by decide +kernel
theorem dX7_copyFrom_62 : decode cX7_copyFrom 62 = .ok (.getfield 57, 3) := by decide +kernel
theorem dX7_copyFrom_65 : decode cX7_copyFrom 65 = .ok (.putfield 57, 3) := by decide +kernel
theorem dX7_copyFrom_68 : decode cX7_copyFrom 68 = .ok (.aload_n 0, 1) := by decide +kernel
theorem dX7_copyFrom_69 : decode cX7_copyFrom 69 = .ok (.aload_n 1, 1) := by decide +kernel
theorem dX7_copyFrom_70 : decode cX7_copyFrom 70 = .ok (.getfield 60, 3) := by decide +kernel
theorem dX7_copyFrom_73 : decode cX7_copyFrom 73 = .ok (.putfield 60, 3) := by decide +kernel
theorem dX7_copyFrom_76 : decode cX7_copyFrom 76 = .ok (.aload_n 0, 1) := by decide +kernel
theorem dX7_copyFrom_77 : decode cX7_copyFrom 77 = .ok (.aload_n 1, 1) := by decide +kernel
theorem dX7_copyFrom_78 : decode cX7_copyFrom 78 = .ok (.getfield 63, 3) := by decide +kernel
theorem dX7_copyFrom_81 : decode cX7_copyFrom 81 = .ok (.putfield 63, 3) := by decide +kernel
theorem dX7_copyFrom_84 : decode cX7_copyFrom 84 = .ok (.aload_n 0, 1) := by decide +kernel
theorem dX7_copyFrom_85 : decode cX7_copyFrom 85 = .ok (.aload_n 1, 1) := by decide +kernel
theorem dX7_copyFrom_86 : decode cX7_copyFrom 86 = .ok (.getfield 66, 3) := by decide +kernel
theorem dX7_copyFrom_89 : decode cX7_copyFrom 89 = .ok (.putfield 66, 3) := by decide +kernel
theorem dX7_copyFrom_92 : decode cX7_copyFrom 92 = .ok (.aload_n 0, 1) := by decide +kernel
theorem dX7_copyFrom_93 : decode cX7_copyFrom 93 = .ok (.aload_n 1, 1) := by decide +kernel
theorem dX7_copyFrom_94 : decode cX7_copyFrom 94 = .ok (.getfield 69, 3) := by decide +kernel
theorem dX7_copyFrom_97 : decode cX7_copyFrom 97 = .ok (.putfield 69, 3) := by decide +kernel
theorem dX7_copyFrom_100 : decode cX7_copyFrom 100 = .ok (.aload_n 0, 1) := by decide +kernel
theorem dX7_copyFrom_101 : decode cX7_copyFrom 101 = .ok (.aload_n 1, 1) := by decide +kernel
theorem dX7_copyFrom_102 : decode cX7_copyFrom 102 = .ok (.getfield 72, 3) := by decide +kernel
theorem dX7_copyFrom_105 : decode cX7_copyFrom 105 = .ok (.putfield 72, 3) := by decide +kernel
theorem dX7_copyFrom_108 : decode cX7_copyFrom 108 = .ok (.return_, 1) := by decide +kernel
set_option maxRecDepth 20000 in
theorem ggX7_ringFirst_X8_at : GoodIn wsX7_ringFirst wsX8_at := goodIn_r _ [13] (by decide +kernel) (by decide +kernel)
set_option maxRecDepth 20000 in
theorem gX7_ringFirst_X8_at_n78 : GoodIn wsX7_ringFirst (wsX8_at) := ggX7_ringFirst_X8_at
set_option maxRecDepth 20000 in
theorem ggX7_ringFirst_X4_removeFirst : GoodIn wsX7_ringFirst wsX4_removeFirst := goodIn_r _ [18, 19, 20, 21, 22, 23, 24, 25, 26, 17, 27, 28, 29, 30, 11, 12, 13, 31, 32, 98, 99, 100, 101] (by decide +kernel) (by decide +kernel)
set_option maxRecDepth 20000 in
theorem gX7_ringFirst_X4_removeFirst : GoodIn wsX7_ringFirst (wsV RX7 87 RX4 yX4_removeFirst wsX4_removeFirst) := goodIn_app (goodIn_of _ (by decide +kernel)) ggX7_ringFirst_X4_removeFirst
set_option maxRecDepth 20000 in
theorem ggX7_ringFirst_X8_isIn : GoodIn wsX7_ringFirst wsX8_isIn := goodIn_r _ [34] (by decide +kernel) (by decide +kernel)
set_option maxRecDepth 20000 in
theorem gX7_ringFirst_X8_isIn_n90 : GoodIn wsX7_ringFirst (wsX8_isIn) := ggX7_ringFirst_X8_isIn
set_option maxRecDepth 20000 in
theorem ggX7_ringFirst_X8_add : GoodIn wsX7_ringFirst wsX8_add := goodIn_r _ [36, 37, 11, 12, 13, 38, 31, 32] (by decide +kernel) (by decide +kernel)
set_option maxRecDepth 20000 in
theorem gX7_ringFirst_X8_add_n96 : GoodIn wsX7_ringFirst (wsX8_add) := ggX7_ringFirst_X8_add
set_option maxRecDepth 20000 in
theorem ggX7_ringFirst_X5_isEnough : GoodIn wsX7_ringFirst wsX5_isEnough := goodIn_r _ [43, 44, 45, 11, 12, 13, 102, 103, 104, 105, 106, 107, 108] (by decide +kernel) (by decide +kernel)
set_option maxRecDepth 20000 in
theorem gX7_ringFirst_X5_isEnough : GoodIn wsX7_ringFirst (wsV RX7 100 RX5 yX5_isEnough wsX5_isEnough) := goodIn_app (goodIn_of _ (by decide +kernel)) ggX7_ringFirst_X5_isEnough
set_option maxRecDepth 20000 in
theorem ggX7_ringFirst_X7_miss : GoodIn wsX7_ringFirst wsX7_miss := goodIn_r _ [50, 51, 9, 52, 35, 12, 36, 37, 11, 13, 38, 31, 32, 86, 87, 88, 89, 90, 91, 92, 93, 94, 95, 96, 97, 102, 103, 104, 105, 106, 107, 108] (by decide +kernel) (by decide +kernel)
set_option maxRecDepth 20000 in
theorem gX7_ringFirst_X7_miss : GoodIn wsX7_ringFirst (wsV RX7 103 RX7 yX7_miss wsX7_miss) := goodIn_app (goodIn_of _ (by decide +kernel)) ggX7_ringFirst_X7_miss
set_option maxRecDepth 20000 in
theorem ggX7_ringFirst_X7_answer : GoodIn wsX7_ringFirst wsX7_answer := goodIn_r _ [56, 57, 9, 58, 7, 5, 59, 60, 35, 12, 36, 37, 11, 13, 38, 31, 32, 61, 62, 63, 42, 64, 45, 65, 66, 22, 67, 68, 69, 70, 71, 72, 73, 74, 75, 76, 77, 78, 79, 80, 81, 82, 83, 84, 85, 86, 87, 88, 89, 90, 91, 92, 93, 94, 95, 96, 97, 102, 103, 104, 105, 106, 107, 108, 109, 110, 111, 112, 113, 114] (by decide +kernel) (by decide +kernel)
set_option maxRecDepth 20000 in
theorem gX7_ringFirst_X7_answer : GoodIn wsX7_ringFirst (wsV RX7 107 RX7 yX7_answer wsX7_answer) := goodIn_app (goodIn_of _ (by decide +kernel)) ggX7_ringFirst_X7_answer
theorem dX7_ringFirst_0 : decode cX7_ringFirst 0 = .ok (.aload_n 0, 1) := by decide +kernel
theorem dX7_ringFirst_1 : decode cX7_ringFirst 1 = .ok (.getfield 21, 3) := by decide +kernel
theorem dX7_ringFirst_4 : decode cX7_ringFirst 4 = .ok (.getfield 75, 3) := by decide +kernel
theorem dX7_ringFirst_7 : decode cX7_ringFirst 7 = .ok (.iconst 0, 1) := by decide +kernel
theorem dX7_ringFirst_8 : decode cX7_ringFirst 8 = .ok (.invokestatic 78, 3) := by decide +kernel
theorem dX7_ringFirst_11 : decode cX7_ringFirst 11 = .ok (.istore_n 1, 1) := by decide +kernel
theorem dX7_ringFirst_12 : decode cX7_ringFirst 12 = .ok (.aload_n 0, 1) := by decide +kernel
theorem dX7_ringFirst_13 : decode cX7_ringFirst 13 = .ok (.getfield 21, 3) := by decide +kernel
theorem dX7_ringFirst_16 : decode cX7_ringFirst 16 = .ok (.getfield 82, 3) := by decide +kernel
theorem dX7_ringFirst_19 : decode cX7_ringFirst 19 = .ok (.iconst 0, 1) := by decide +kernel
theorem dX7_ringFirst_20 : decode cX7_ringFirst 20 = .ok (.invokestatic 78, 3) := by decide +kernel
theorem dX7_ringFirst_23 : decode cX7_ringFirst 23 = .ok (.istore_n 2, 1) := by decide +kernel
theorem dX7_ringFirst_24 : decode cX7_ringFirst 24 = .ok (.aload_n 0, 1) := by decide +kernel
theorem dX7_ringFirst_25 : decode cX7_ringFirst 25 = .ok (.aload_n 0, 1) := by decide +kernel
theorem dX7_ringFirst_26 : decode cX7_ringFirst 26 = .ok (.getfield 21, 3) := by decide +kernel
theorem dX7_ringFirst_29 : decode cX7_ringFirst 29 = .ok (.getfield 85, 3) := by decide +kernel
theorem dX7_ringFirst_32 : decode cX7_ringFirst 32 = .ok (.iconst 0, 1) := by decide +kernel
theorem dX7_ringFirst_33 : decode cX7_ringFirst 33 = .ok (.invokestatic 78, 3) := by decide +kernel
theorem dX7_ringFirst_36 : decode cX7_ringFirst 36 = .ok (.putfield 50, 3) := by decide +kernel
theorem dX7_ringFirst_39 : decode cX7_ringFirst 39 = .ok (.aload_n 0, 1) := by decide +kernel
theorem dX7_ringFirst_40 : decode cX7_ringFirst 40 = .ok (.getfield 21, 3) := by decide +kernel
theorem dX7_ringFirst_43 : decode cX7_ringFirst 43 = .ok (.invokevirtual 87, 3) := by decide +kernel
theorem dX7_ringFirst_46 : decode cX7_ringFirst 46 = .ok (.aload_n 0, 1) := by decide +kernel
theorem dX7_ringFirst_47 : decode cX7_ringFirst 47 = .ok (.dup, 1) := by decide +kernel
theorem dX7_ringFirst_48 : decode cX7_ringFirst 48 = .ok (.getfield 60, 3) := by decide +kernel
theorem dX7_ringFirst_51 : decode cX7_ringFirst 51 = .ok (.iconst 1, 1) := by decide +kernel
theorem dX7_ringFirst_52 : decode cX7_ringFirst 52 = .ok (.iadd, 1) := by decide +kernel
theorem dX7_ringFirst_53 : decode cX7_ringFirst 53 = .ok (.putfield 60, 3) := by decide +kernel
theorem dX7_ringFirst_56 : decode cX7_ringFirst 56 = .ok (.aload_n 0, 1) := by decide +kernel
theorem dX7_ringFirst_57 : decode cX7_ringFirst 57 = .ok (.getfield 32, 3) := by decide +kernel
theorem dX7_ringFirst_60 : decode cX7_ringFirst 60 = .ok (.aload_n 0, 1) := by decide +kernel
theorem dX7_ringFirst_61 : decode cX7_ringFirst 61 = .ok (.getfield 50, 3) := by decide +kernel
theorem dX7_ringFirst_64 : decode cX7_ringFirst 64 = .ok (.invokestatic 78, 3) := by decide +kernel
theorem dX7_ringFirst_67 : decode cX7_ringFirst 67 = .ok (.iload_n 1, 1) := by decide +kernel
theorem dX7_ringFirst_68 : decode cX7_ringFirst 68 = .ok (.invokestatic 90, 3) := by decide +kernel
theorem dX7_ringFirst_71 : decode cX7_ringFirst 71 = .ok (.ifCond .eq 27, 3) := by decide +kernel
theorem dX7_ringFirst_74 : decode cX7_ringFirst 74 = .ok (.aload_n 0, 1) := by decide +kernel
theorem dX7_ringFirst_75 : decode cX7_ringFirst 75 = .ok (.dup, 1) := by decide +kernel
theorem dX7_ringFirst_76 : decode cX7_ringFirst 76 = .ok (.getfield 69, 3) := by decide +kernel
theorem dX7_ringFirst_79 : decode cX7_ringFirst 79 = .ok (.iconst 1, 1) := by decide +kernel
theorem dX7_ringFirst_80 : decode cX7_ringFirst 80 = .ok (.iadd, 1) := by decide +kernel
theorem dX7_ringFirst_81 : decode cX7_ringFirst 81 = .ok (.putfield 69, 3) := by decide +kernel
theorem dX7_ringFirst_84 : decode cX7_ringFirst 84 = .ok (.aload_n 0, 1) := by decide +kernel
theorem dX7_ringFirst_85 : decode cX7_ringFirst 85 = .ok (.getfield 12, 3) := by decide +kernel
theorem dX7_ringFirst_88 : decode cX7_ringFirst 88 = .ok (.getfield 94, 3) := by decide +kernel
theorem dX7_ringFirst_91 : decode cX7_ringFirst 91 = .ok (.iload_n 1, 1) := by decide +kernel
theorem dX7_ringFirst_92 : decode cX7_ringFirst 92 = .ok (.iconst 1, 1) := by decide +kernel
theorem dX7_ringFirst_93 : decode cX7_ringFirst 93 = .ok (.invokestatic 96, 3) := by decide +kernel
theorem dX7_ringFirst_96 : decode cX7_ringFirst 96 = .ok (.iconst 2, 1) := by decide +kernel
theorem dX7_ringFirst_97 : decode cX7_ringFirst 97 = .ok (.ireturn, 1) := by decide +kernel
theorem dX7_ringFirst_98 : decode cX7_ringFirst 98 = .ok (.aload_n 0, 1) := by decide +kernel
theorem dX7_ringFirst_99 : decode cX7_ringFirst 99 = .ok (.getfield 12, 3) := by decide +kernel
theorem dX7_ringFirst_102 : decode cX7_ringFirst 102 = .ok (.iload_n 1, 1) := by decide +kernel
theorem dX7_ringFirst_103 : decode cX7_ringFirst 103 = .ok (.iload_n 2, 1) := by decide +kernel
theorem dX7_ringFirst_104 : decode cX7_ringFirst 104 = .ok (.invokevirtual 100, 3) := by decide +kernel
theorem dX7_ringFirst_107 : decode cX7_ringFirst 107 = .ok (.ifCond .ne 10, 3) := by decide +kernel
theorem dX7_ringFirst_110 : decode cX7_ringFirst 110 = .ok (.aload_n 0, 1) := by decide +kernel
theorem dX7_ringFirst_111 : decode cX7_ringFirst 111 = .ok (.iload_n 1, 1) := by decide +kernel
theorem dX7_ringFirst_112 : decode cX7_ringFirst 112 = .ok (.invokevirtual 103, 3) := by decide +kernel
theorem dX7_ringFirst_115 : decode cX7_ringFirst 115 = .ok (.iconst 0, 1) := by decide +kernel
theorem dX7_ringFirst_116 : decode cX7_ringFirst 116 = .ok (.ireturn, 1) := by decide +kernel
theorem dX7_ringFirst_117 : decode cX7_ringFirst 117 = .ok (.aload_n 0, 1) := by decide +kernel
theorem dX7_ringFirst_118 : decode cX7_ringFirst 118 = .ok (.iload_n 1, 1) := by decide +kernel
theorem dX7_ringFirst_119 : decode cX7_ringFirst 119 = .ok (.iload_n 2, 1) := by decide +kernel
theorem dX7_ringFirst_120 : decode cX7_ringFirst 120 = .ok (.invokevirtual 107, 3) := by decide +kernel
theorem dX7_ringFirst_123 : decode cX7_ringFirst 123 = .ok (.iconst 1, 1) := by decide +kernel
theorem dX7_ringFirst_124 : decode cX7_ringFirst 124 = .ok (.ireturn, 1) := by decide +kernel
set_option maxRecDepth 20000 in
theorem ggX7_miss_X8_add : GoodIn wsX7_miss wsX8_add := goodIn_r _ [6, 7, 8, 5, 9, 10, 11, 12] (by decide +kernel) (by decide +kernel)
set_option maxRecDepth 20000 in
theorem gX7_miss_X8_add_n96 : GoodIn wsX7_miss (wsX8_add) := ggX7_miss_X8_add
theorem dX7_miss_0 : decode cX7_miss 0 = .ok (.aload_n 0, 1) := by decide +kernel
theorem dX7_miss_1 : decode cX7_miss 1 = .ok (.dup, 1) := by decide +kernel
theorem dX7_miss_2 : decode cX7_miss 2 = .ok (.getfield 66, 3) := by decide +kernel
theorem dX7_miss_5 : decode cX7_miss 5 = .ok (.iconst 1, 1) := by decide +kernel
theorem dX7_miss_6 : decode cX7_miss 6 = .ok (.iadd, 1) := by decide +kernel
theorem dX7_miss_7 : decode cX7_miss 7 = .ok (.putfield 66, 3) := by decide +kernel
theorem dX7_miss_10 : decode cX7_miss 10 = .ok (.aload_n 0, 1) := by decide +kernel
theorem dX7_miss_11 : decode cX7_miss 11 = .ok (.getfield 12, 3) := by decide +kernel
theorem dX7_miss_14 : decode cX7_miss 14 = .ok (.getfield 111, 3) := by decide +kernel
theorem dX7_miss_17 : decode cX7_miss 17 = .ok (.iload_n 1, 1) := by decide +kernel
theorem dX7_miss_18 : decode cX7_miss 18 = .ok (.iconst 1, 1) := by decide +kernel
theorem dX7_miss_19 : decode cX7_miss 19 = .ok (.invokestatic 96, 3) := by decide +kernel
theorem dX7_miss_22 : decode cX7_miss 22 = .ok (.return_, 1) := by decide +kernel
set_option maxRecDepth 20000 in
theorem ggX7_answer_X8_add : GoodIn wsX7_answer wsX8_add := goodIn_r _ [10, 11, 12, 9, 13, 14, 15, 16] (by decide +kernel) (by decide +kernel)
set_option maxRecDepth 20000 in
theorem gX7_answer_X8_add_n96 : GoodIn wsX7_answer (wsX8_add) := ggX7_answer_X8_add
set_option maxRecDepth 20000 in
theorem ggX7_answer_X5_becomeRustier : GoodIn wsX7_answer wsX5_becomeRustier := goodIn_r _ [21, 22, 23, 24, 25, 26, 12, 9, 13, 15, 16, 57, 58, 59, 60, 61, 62, 63] (by decide +kernel) (by decide +kernel)
set_option maxRecDepth 20000 in
theorem gX7_answer_X5_becomeRustier : GoodIn wsX7_answer (wsV RX7 115 RX5 yX5_becomeRustier wsX5_becomeRustier) := goodIn_app (goodIn_of _ (by decide +kernel)) ggX7_answer_X5_becomeRustier
set_option maxRecDepth 20000 in
theorem ggX7_answer_X8_at : GoodIn wsX7_answer wsX8_at := goodIn_r _ [13] (by decide +kernel) (by decide +kernel)
set_option maxRecDepth 20000 in
theorem gX7_answer_X8_at_n78 : GoodIn wsX7_answer (wsX8_at) := ggX7_answer_X8_at
set_option maxRecDepth 20000 in
theorem ggX7_answer_X8_bit : GoodIn wsX7_answer wsX8_bit := goodIn_r _ [28] (by decide +kernel) (by decide +kernel)
set_option maxRecDepth 20000 in
theorem gX7_answer_X8_bit_n118 : GoodIn wsX7_answer (wsX8_bit) := ggX7_answer_X8_bit
set_option maxRecDepth 20000 in
theorem ggX7_answer_X8_put : GoodIn wsX7_answer wsX8_put := goodIn_r _ [16] (by decide +kernel) (by decide +kernel)
set_option maxRecDepth 20000 in
theorem gX7_answer_X8_put_n122 : GoodIn wsX7_answer (wsX8_put) := ggX7_answer_X8_put
set_option maxRecDepth 20000 in
theorem ggX7_answer_X0_remember : GoodIn wsX7_answer wsX0_remember := goodIn_r _ [33, 34, 35, 36, 37, 38, 39, 40, 24, 25, 26, 41, 42, 43, 44, 15, 9, 16, 64, 65, 66, 67, 68, 69] (by decide +kernel) (by decide +kernel)
set_option maxRecDepth 20000 in
theorem gX7_answer_X0_remember : GoodIn wsX7_answer (wsV RX7 125 RX0 yX0_remember wsX0_remember) := goodIn_app (goodIn_of _ (by decide +kernel)) ggX7_answer_X0_remember
theorem dX7_answer_0 : decode cX7_answer 0 = .ok (.aload_n 0, 1) := by decide +kernel
theorem dX7_answer_1 : decode cX7_answer 1 = .ok (.dup, 1) := by decide +kernel
theorem dX7_answer_2 : decode cX7_answer 2 = .ok (.getfield 63, 3) := by decide +kernel
theorem dX7_answer_5 : decode cX7_answer 5 = .ok (.iconst 1, 1) := by decide +kernel
theorem dX7_answer_6 : decode cX7_answer 6 = .ok (.iadd, 1) := by decide +kernel
theorem dX7_answer_7 : decode cX7_answer 7 = .ok (.putfield 63, 3) := by decide +kernel
theorem dX7_answer_10 : decode cX7_answer 10 = .ok (.aload_n 0, 1) := by decide +kernel
theorem dX7_answer_11 : decode cX7_answer 11 = .ok (.getfield 12, 3) := by decide +kernel
theorem dX7_answer_14 : decode cX7_answer 14 = .ok (.getfield 113, 3) := by decide +kernel
theorem dX7_answer_17 : decode cX7_answer 17 = .ok (.iload_n 1, 1) := by decide +kernel
theorem dX7_answer_18 : decode cX7_answer 18 = .ok (.iconst 1, 1) := by decide +kernel
theorem dX7_answer_19 : decode cX7_answer 19 = .ok (.invokestatic 96, 3) := by decide +kernel
theorem dX7_answer_22 : decode cX7_answer 22 = .ok (.aload_n 0, 1) := by decide +kernel
theorem dX7_answer_23 : decode cX7_answer 23 = .ok (.getfield 12, 3) := by decide +kernel
theorem dX7_answer_26 : decode cX7_answer 26 = .ok (.iload_n 1, 1) := by decide +kernel
theorem dX7_answer_27 : decode cX7_answer 27 = .ok (.invokevirtual 115, 3) := by decide +kernel
theorem dX7_answer_30 : decode cX7_answer 30 = .ok (.aload_n 0, 1) := by decide +kernel
theorem dX7_answer_31 : decode cX7_answer 31 = .ok (.getfield 32, 3) := by decide +kernel
theorem dX7_answer_34 : decode cX7_answer 34 = .ok (.aload_n 0, 1) := by decide +kernel
theorem dX7_answer_35 : decode cX7_answer 35 = .ok (.getfield 50, 3) := by decide +kernel
theorem dX7_answer_38 : decode cX7_answer 38 = .ok (.aload_n 0, 1) := by decide +kernel
theorem dX7_answer_39 : decode cX7_answer 39 = .ok (.getfield 32, 3) := by decide +kernel
theorem dX7_answer_42 : decode cX7_answer 42 = .ok (.aload_n 0, 1) := by decide +kernel
theorem dX7_answer_43 : decode cX7_answer 43 = .ok (.getfield 50, 3) := by decide +kernel
theorem dX7_answer_46 : decode cX7_answer 46 = .ok (.invokestatic 78, 3) := by decide +kernel
theorem dX7_answer_49 : decode cX7_answer 49 = .ok (.iload_n 1, 1) := by decide +kernel
theorem dX7_answer_50 : decode cX7_answer 50 = .ok (.invokestatic 118, 3) := by decide +kernel
theorem dX7_answer_53 : decode cX7_answer 53 = .ok (.ior, 1) := by decide +kernel
theorem dX7_answer_54 : decode cX7_answer 54 = .ok (.invokestatic 122, 3) := by decide +kernel
theorem dX7_answer_57 : decode cX7_answer 57 = .ok (.aload_n 0, 1) := by decide +kernel
theorem dX7_answer_58 : decode cX7_answer 58 = .ok (.getfield 28, 3) := by decide +kernel
theorem dX7_answer_61 : decode cX7_answer 61 = .ok (.iload_n 1, 1) := by decide +kernel
theorem dX7_answer_62 : decode cX7_answer 62 = .ok (.aload_n 0, 1) := by decide +kernel
theorem dX7_answer_63 : decode cX7_answer 63 = .ok (.getfield 50, 3) := by decide +kernel
theorem dX7_answer_66 : decode cX7_answer 66 = .ok (.aload_n 0, 1) := by decide +kernel
theorem dX7_answer_67 : decode cX7_answer 67 = .ok (.getfield 54, 3) := by decide +kernel
theorem dX7_answer_70 : decode cX7_answer 70 = .ok (.iload_n 2, 1) := by decide +kernel
theorem dX7_answer_71 : decode cX7_answer 71 = .ok (.invokevirtual 125, 3) := by decide +kernel
theorem dX7_answer_74 : decode cX7_answer 74 = .ok (.return_, 1) := by decide +kernel
set_option maxRecDepth 20000 in
theorem ggX7_endDay_X8_at : GoodIn wsX7_endDay wsX8_at := goodIn_r _ [10] (by decide +kernel) (by decide +kernel)
set_option maxRecDepth 20000 in
theorem gX7_endDay_X8_at_n78 : GoodIn wsX7_endDay (wsX8_at) := ggX7_endDay_X8_at
set_option maxRecDepth 20000 in
theorem ggX7_endDay_X7_miss : GoodIn wsX7_endDay wsX7_miss := goodIn_r _ [15, 16, 4, 17, 18, 9, 19, 20, 8, 10, 21, 22, 23, 41, 42, 43, 44, 45, 46, 47, 48, 49, 50, 51, 52, 57, 58, 59, 60, 61, 62, 63] (by decide +kernel) (by decide +kernel)
set_option maxRecDepth 20000 in
theorem gX7_endDay_X7_miss : GoodIn wsX7_endDay (wsV RX7 103 RX7 yX7_miss wsX7_miss) := goodIn_app (goodIn_of _ (by decide +kernel)) ggX7_endDay_X7_miss
set_option maxRecDepth 20000 in
theorem ggX7_endDay_X7_heardToday : GoodIn wsX7_endDay wsX7_heardToday := goodIn_r _ [27, 5, 41, 42, 43, 44, 45, 46, 47, 48, 49, 50, 51, 52] (by decide +kernel) (by decide +kernel)
set_option maxRecDepth 20000 in
theorem gX7_endDay_X7_heardToday : GoodIn wsX7_endDay (wsV RX7 132 RX7 yX7_heardToday wsX7_heardToday) := goodIn_app (goodIn_of _ (by decide +kernel)) ggX7_endDay_X7_heardToday
set_option maxRecDepth 20000 in
theorem ggX7_endDay_X5_loseRust : GoodIn wsX7_endDay wsX5_loseRust := goodIn_r _ [32, 33, 34, 35, 36, 37, 38, 39, 9, 40, 8, 10, 22, 23, 57, 58, 59, 60, 61, 62, 63] (by decide +kernel) (by decide +kernel)
set_option maxRecDepth 20000 in
theorem gX7_endDay_X5_loseRust : GoodIn wsX7_endDay (wsV RX7 136 RX5 yX5_loseRust wsX5_loseRust) := goodIn_app (goodIn_of _ (by decide +kernel)) ggX7_endDay_X5_loseRust
set_option maxRecDepth 20000 in
theorem ggX7_endDay_X8_put : GoodIn wsX7_endDay wsX8_put := goodIn_r _ [23] (by decide +kernel) (by decide +kernel)
set_option maxRecDepth 20000 in
theorem gX7_endDay_X8_put_n122 : GoodIn wsX7_endDay (wsX8_put) := ggX7_endDay_X8_put
theorem dX7_endDay_0 : decode cX7_endDay 0 = .ok (.aload_n 0, 1) := by decide +kernel
theorem dX7_endDay_1 : decode cX7_endDay 1 = .ok (.getfield 21, 3) := by decide +kernel
theorem dX7_endDay_4 : decode cX7_endDay 4 = .ok (.getfield 129, 3) := by decide +kernel
theorem dX7_endDay_7 : decode cX7_endDay 7 = .ok (.istore_n 1, 1) := by decide +kernel
theorem dX7_endDay_8 : decode cX7_endDay 8 = .ok (.iconst 0, 1) := by decide +kernel
theorem dX7_endDay_9 : decode cX7_endDay 9 = .ok (.istore_n 2, 1) := by decide +kernel
theorem dX7_endDay_10 : decode cX7_endDay 10 = .ok (.iload_n 2, 1) := by decide +kernel
theorem dX7_endDay_11 : decode cX7_endDay 11 = .ok (.iload_n 1, 1) := by decide +kernel
theorem dX7_endDay_12 : decode cX7_endDay 12 = .ok (.if_icmp .ge 24, 3) := by decide +kernel
theorem dX7_endDay_15 : decode cX7_endDay 15 = .ok (.aload_n 0, 1) := by decide +kernel
theorem dX7_endDay_16 : decode cX7_endDay 16 = .ok (.aload_n 0, 1) := by decide +kernel
theorem dX7_endDay_17 : decode cX7_endDay 17 = .ok (.getfield 21, 3) := by decide +kernel
theorem dX7_endDay_20 : decode cX7_endDay 20 = .ok (.getfield 75, 3) := by decide +kernel
theorem dX7_endDay_23 : decode cX7_endDay 23 = .ok (.iload_n 2, 1) := by decide +kernel
theorem dX7_endDay_24 : decode cX7_endDay 24 = .ok (.invokestatic 78, 3) := by decide +kernel
theorem dX7_endDay_27 : decode cX7_endDay 27 = .ok (.invokevirtual 103, 3) := by decide +kernel
theorem dX7_endDay_30 : decode cX7_endDay 30 = .ok (.iinc 2 1, 3) := by decide +kernel
theorem dX7_endDay_33 : decode cX7_endDay 33 = .ok (.goto (-23), 3) := by decide +kernel
theorem dX7_endDay_36 : decode cX7_endDay 36 = .ok (.aload_n 0, 1) := by decide +kernel
theorem dX7_endDay_37 : decode cX7_endDay 37 = .ok (.getfield 21, 3) := by decide +kernel
theorem dX7_endDay_40 : decode cX7_endDay 40 = .ok (.iconst 0, 1) := by decide +kernel
theorem dX7_endDay_41 : decode cX7_endDay 41 = .ok (.putfield 129, 3) := by decide +kernel
theorem dX7_endDay_44 : decode cX7_endDay 44 = .ok (.aload_n 0, 1) := by decide +kernel
theorem dX7_endDay_45 : decode cX7_endDay 45 = .ok (.getfield 12, 3) := by decide +kernel
theorem dX7_endDay_48 : decode cX7_endDay 48 = .ok (.aload_n 0, 1) := by decide +kernel
theorem dX7_endDay_49 : decode cX7_endDay 49 = .ok (.invokevirtual 132, 3) := by decide +kernel
theorem dX7_endDay_52 : decode cX7_endDay 52 = .ok (.invokevirtual 136, 3) := by decide +kernel
theorem dX7_endDay_55 : decode cX7_endDay 55 = .ok (.iconst 0, 1) := by decide +kernel
theorem dX7_endDay_56 : decode cX7_endDay 56 = .ok (.istore_n 2, 1) := by decide +kernel
theorem dX7_endDay_57 : decode cX7_endDay 57 = .ok (.iload_n 2, 1) := by decide +kernel
theorem dX7_endDay_58 : decode cX7_endDay 58 = .ok (.bipush 24, 2) := by decide +kernel
theorem dX7_endDay_60 : decode cX7_endDay 60 = .ok (.if_icmp .ge 18, 3) := by decide +kernel
theorem dX7_endDay_63 : decode cX7_endDay 63 = .ok (.aload_n 0, 1) := by decide +kernel
theorem dX7_endDay_64 : decode cX7_endDay 64 = .ok (.getfield 32, 3) := by decide +kernel
theorem dX7_endDay_67 : decode cX7_endDay 67 = .ok (.iload_n 2, 1) := by decide +kernel
theorem dX7_endDay_68 : decode cX7_endDay 68 = .ok (.iconst 0, 1) := by decide +kernel
theorem dX7_endDay_69 : decode cX7_endDay 69 = .ok (.invokestatic 122, 3) := by decide +kernel
theorem dX7_endDay_72 : decode cX7_endDay 72 = .ok (.iinc 2 1, 3) := by decide +kernel
theorem dX7_endDay_75 : decode cX7_endDay 75 = .ok (.goto (-18), 3) := by decide +kernel
theorem dX7_endDay_78 : decode cX7_endDay 78 = .ok (.aload_n 0, 1) := by decide +kernel
theorem dX7_endDay_79 : decode cX7_endDay 79 = .ok (.iconst 0, 1) := by decide +kernel
theorem dX7_endDay_80 : decode cX7_endDay 80 = .ok (.putfield 50, 3) := by decide +kernel
theorem dX7_endDay_83 : decode cX7_endDay 83 = .ok (.aload_n 0, 1) := by decide +kernel
theorem dX7_endDay_84 : decode cX7_endDay 84 = .ok (.dup, 1) := by decide +kernel
theorem dX7_endDay_85 : decode cX7_endDay 85 = .ok (.getfield 54, 3) := by decide +kernel
theorem dX7_endDay_88 : decode cX7_endDay 88 = .ok (.iconst 1, 1) := by decide +kernel
theorem dX7_endDay_89 : decode cX7_endDay 89 = .ok (.iadd, 1) := by decide +kernel
theorem dX7_endDay_90 : decode cX7_endDay 90 = .ok (.putfield 54, 3) := by decide +kernel
theorem dX7_endDay_93 : decode cX7_endDay 93 = .ok (.iload_n 1, 1) := by decide +kernel
theorem dX7_endDay_94 : decode cX7_endDay 94 = .ok (.ireturn, 1) := by decide +kernel
theorem dX7_heardToday_0 : decode cX7_heardToday 0 = .ok (.iconst 0, 1) := by decide +kernel
theorem dX7_heardToday_1 : decode cX7_heardToday 1 = .ok (.istore_n 1, 1) := by decide +kernel
theorem dX7_heardToday_2 : decode cX7_heardToday 2 = .ok (.aload_n 0, 1) := by decide +kernel
theorem dX7_heardToday_3 : decode cX7_heardToday 3 = .ok (.getfield 32, 3) := by decide +kernel
theorem dX7_heardToday_6 : decode cX7_heardToday 6 = .ok (.astore_n 2, 1) := by decide +kernel
theorem dX7_heardToday_7 : decode cX7_heardToday 7 = .ok (.aload_n 2, 1) := by decide +kernel
theorem dX7_heardToday_8 : decode cX7_heardToday 8 = .ok (.arraylength, 1) := by decide +kernel
theorem dX7_heardToday_9 : decode cX7_heardToday 9 = .ok (.istore_n 3, 1) := by decide +kernel
theorem dX7_heardToday_10 : decode cX7_heardToday 10 = .ok (.iconst 0, 1) := by decide +kernel
theorem dX7_heardToday_11 : decode cX7_heardToday 11 = .ok (.istore 4, 2) := by decide +kernel
theorem dX7_heardToday_13 : decode cX7_heardToday 13 = .ok (.iload 4, 2) := by decide +kernel
theorem dX7_heardToday_15 : decode cX7_heardToday 15 = .ok (.iload_n 3, 1) := by decide +kernel
theorem dX7_heardToday_16 : decode cX7_heardToday 16 = .ok (.if_icmp .ge 20, 3) := by decide +kernel
theorem dX7_heardToday_19 : decode cX7_heardToday 19 = .ok (.aload_n 2, 1) := by decide +kernel
theorem dX7_heardToday_20 : decode cX7_heardToday 20 = .ok (.iload 4, 2) := by decide +kernel
theorem dX7_heardToday_22 : decode cX7_heardToday 22 = .ok (.iaload, 1) := by decide +kernel
theorem dX7_heardToday_23 : decode cX7_heardToday 23 = .ok (.istore 5, 2) := by decide +kernel
theorem dX7_heardToday_25 : decode cX7_heardToday 25 = .ok (.iload_n 1, 1) := by decide +kernel
theorem dX7_heardToday_26 : decode cX7_heardToday 26 = .ok (.iload 5, 2) := by decide +kernel
theorem dX7_heardToday_28 : decode cX7_heardToday 28 = .ok (.ior, 1) := by decide +kernel
theorem dX7_heardToday_29 : decode cX7_heardToday 29 = .ok (.istore_n 1, 1) := by decide +kernel
theorem dX7_heardToday_30 : decode cX7_heardToday 30 = .ok (.iinc 4 1, 3) := by decide +kernel
theorem dX7_heardToday_33 : decode cX7_heardToday 33 = .ok (.goto (-20), 3) := by decide +kernel
theorem dX7_heardToday_36 : decode cX7_heardToday 36 = .ok (.iload_n 1, 1) := by decide +kernel
theorem dX7_heardToday_37 : decode cX7_heardToday 37 = .ok (.ireturn, 1) := by decide +kernel
set_option maxRecDepth 20000 in
theorem ggX7_answersAhead_X8_at : GoodIn wsX7_answersAhead wsX8_at := goodIn_r _ [15] (by decide +kernel) (by decide +kernel)
set_option maxRecDepth 20000 in
theorem gX7_answersAhead_X8_at_n78 : GoodIn wsX7_answersAhead (wsX8_at) := ggX7_answersAhead_X8_at
set_option maxRecDepth 20000 in
theorem ggX7_answersAhead_X7_hoursOf : GoodIn wsX7_answersAhead wsX7_hoursOf := goodIn_r _ [20, 21, 13, 14, 15, 22, 23, 24, 25, 26, 27, 28, 29, 30, 31, 32, 33, 34, 35, 36, 37] (by decide +kernel) (by decide +kernel)
set_option maxRecDepth 20000 in
theorem gX7_answersAhead_X7_hoursOf : GoodIn wsX7_answersAhead (wsV RX7 145 RX7 yX7_hoursOf wsX7_hoursOf) := goodIn_app (goodIn_of _ (by decide +kernel)) ggX7_answersAhead_X7_hoursOf
set_option maxRecDepth 20000 in
theorem ggX7_answersAhead_X8_isIn : GoodIn wsX7_answersAhead wsX8_isIn := goodIn_r _ [23] (by decide +kernel) (by decide +kernel)
set_option maxRecDepth 20000 in
theorem gX7_answersAhead_X8_isIn_n90 : GoodIn wsX7_answersAhead (wsX8_isIn) := ggX7_answersAhead_X8_isIn
set_option maxRecDepth 20000 in
theorem ggX7_answersAhead_X8_bit : GoodIn wsX7_answersAhead wsX8_bit := goodIn_r _ [25] (by decide +kernel) (by decide +kernel)
set_option maxRecDepth 20000 in
theorem gX7_answersAhead_X8_bit_n118 : GoodIn wsX7_answersAhead (wsX8_bit) := ggX7_answersAhead_X8_bit
theorem dX7_answersAhead_0 : decode cX7_answersAhead 0 = .ok (.aload_n 0, 1) := by decide +kernel
theorem dX7_answersAhead_1 : decode cX7_answersAhead 1 = .ok (.getfield 12, 3) := by decide +kernel
theorem dX7_answersAhead_4 : decode cX7_answersAhead 4 = .ok (.getfield 139, 3) := by decide +kernel
theorem dX7_answersAhead_7 : decode cX7_answersAhead 7 = .ok (.iload_n 1, 1) := by decide +kernel
theorem dX7_answersAhead_8 : decode cX7_answersAhead 8 = .ok (.invokestatic 78, 3) := by decide +kernel
theorem dX7_answersAhead_11 : decode cX7_answersAhead 11 = .ok (.ifCond .ne 5, 3) := by decide +kernel
theorem dX7_answersAhead_14 : decode cX7_answersAhead 14 = .ok (.iconst 0, 1) := by decide +kernel
theorem dX7_answersAhead_15 : decode cX7_answersAhead 15 = .ok (.ireturn, 1) := by decide +kernel
theorem dX7_answersAhead_16 : decode cX7_answersAhead 16 = .ok (.iconst 0, 1) := by decide +kernel
theorem dX7_answersAhead_17 : decode cX7_answersAhead 17 = .ok (.istore_n 2, 1) := by decide +kernel
theorem dX7_answersAhead_18 : decode cX7_answersAhead 18 = .ok (.aload_n 0, 1) := by decide +kernel
theorem dX7_answersAhead_19 : decode cX7_answersAhead 19 = .ok (.getfield 12, 3) := by decide +kernel
theorem dX7_answersAhead_22 : decode cX7_answersAhead 22 = .ok (.getfield 142, 3) := by decide +kernel
theorem dX7_answersAhead_25 : decode cX7_answersAhead 25 = .ok (.iload_n 1, 1) := by decide +kernel
theorem dX7_answersAhead_26 : decode cX7_answersAhead 26 = .ok (.invokestatic 78, 3) := by decide +kernel
theorem dX7_answersAhead_29 : decode cX7_answersAhead 29 = .ok (.istore_n 3, 1) := by decide +kernel
theorem dX7_answersAhead_30 : decode cX7_answersAhead 30 = .ok (.aload_n 0, 1) := by decide +kernel
theorem dX7_answersAhead_31 : decode cX7_answersAhead 31 = .ok (.iload_n 1, 1) := by decide +kernel
theorem dX7_answersAhead_32 : decode cX7_answersAhead 32 = .ok (.invokevirtual 145, 3) := by decide +kernel
theorem dX7_answersAhead_35 : decode cX7_answersAhead 35 = .ok (.istore 4, 2) := by decide +kernel
theorem dX7_answersAhead_37 : decode cX7_answersAhead 37 = .ok (.iconst 0, 1) := by decide +kernel
theorem dX7_answersAhead_38 : decode cX7_answersAhead 38 = .ok (.istore 5, 2) := by decide +kernel
theorem dX7_answersAhead_40 : decode cX7_answersAhead 40 = .ok (.iload 5, 2) := by decide +kernel
theorem dX7_answersAhead_42 : decode cX7_answersAhead 42 = .ok (.aload_n 0, 1) := by decide +kernel
theorem dX7_answersAhead_43 : decode cX7_answersAhead 43 = .ok (.getfield 21, 3) := by decide +kernel
theorem dX7_answersAhead_46 : decode cX7_answersAhead 46 = .ok (.getfield 129, 3) := by decide +kernel
theorem dX7_answersAhead_49 : decode cX7_answersAhead 49 = .ok (.if_icmp .ge 99, 3) := by decide +kernel
theorem dX7_answersAhead_52 : decode cX7_answersAhead 52 = .ok (.aload_n 0, 1) := by decide +kernel
theorem dX7_answersAhead_53 : decode cX7_answersAhead 53 = .ok (.getfield 21, 3) := by decide +kernel
theorem dX7_answersAhead_56 : decode cX7_answersAhead 56 = .ok (.getfield 85, 3) := by decide +kernel
theorem dX7_answersAhead_59 : decode cX7_answersAhead 59 = .ok (.iload 5, 2) := by decide +kernel
theorem dX7_answersAhead_61 : decode cX7_answersAhead 61 = .ok (.invokestatic 78, 3) := by decide +kernel
theorem dX7_answersAhead_64 : decode cX7_answersAhead 64 = .ok (.istore 6, 2) := by decide +kernel
theorem dX7_answersAhead_66 : decode cX7_answersAhead 66 = .ok (.aload_n 0, 1) := by decide +kernel
theorem dX7_answersAhead_67 : decode cX7_answersAhead 67 = .ok (.getfield 21, 3) := by decide +kernel
theorem dX7_answersAhead_70 : decode cX7_answersAhead 70 = .ok (.getfield 75, 3) := by decide +kernel
theorem dX7_answersAhead_73 : decode cX7_answersAhead 73 = .ok (.iload 5, 2) := by decide +kernel
theorem dX7_answersAhead_75 : decode cX7_answersAhead 75 = .ok (.invokestatic 78, 3) := by decide +kernel
theorem dX7_answersAhead_78 : decode cX7_answersAhead 78 = .ok (.iload_n 1, 1) := by decide +kernel
theorem dX7_answersAhead_79 : decode cX7_answersAhead 79 = .ok (.if_icmp .ne 7, 3) := by decide +kernel
theorem dX7_answersAhead_82 : decode cX7_answersAhead 82 = .ok (.iconst 1, 1) := by decide +kernel
theorem dX7_answersAhead_83 : decode cX7_answersAhead 83 = .ok (.goto 4, 3) := by decide +kernel
theorem dX7_answersAhead_86 : decode cX7_answersAhead 86 = .ok (.iconst 0, 1) := by decide +kernel
theorem dX7_answersAhead_87 : decode cX7_answersAhead 87 = .ok (.istore 7, 2) := by decide +kernel
theorem dX7_answersAhead_89 : decode cX7_answersAhead 89 = .ok (.iload 7, 2) := by decide +kernel
theorem dX7_answersAhead_91 : decode cX7_answersAhead 91 = .ok (.ifCond .eq 51, 3) := by decide +kernel
theorem dX7_answersAhead_94 : decode cX7_answersAhead 94 = .ok (.iload 4, 2) := by decide +kernel
theorem dX7_answersAhead_96 : decode cX7_answersAhead 96 = .ok (.iload 6, 2) := by decide +kernel
theorem dX7_answersAhead_98 : decode cX7_answersAhead 98 = .ok (.invokestatic 90, 3) := by decide +kernel
theorem dX7_answersAhead_101 : decode cX7_answersAhead 101 = .ok (.ifCond .ne 41, 3) := by decide +kernel
theorem dX7_answersAhead_104 : decode cX7_answersAhead 104 = .ok (.aload_n 0, 1) := by decide +kernel
theorem dX7_answersAhead_105 : decode cX7_answersAhead 105 = .ok (.getfield 21, 3) := by decide +kernel
theorem dX7_answersAhead_108 : decode cX7_answersAhead 108 = .ok (.getfield 82, 3) := by decide +kernel
theorem dX7_answersAhead_111 : decode cX7_answersAhead 111 = .ok (.iload 5, 2) := by decide +kernel
theorem dX7_answersAhead_113 : decode cX7_answersAhead 113 = .ok (.invokestatic 78, 3) := by decide +kernel
theorem dX7_answersAhead_116 : decode cX7_answersAhead 116 = .ok (.iload_n 3, 1) := by decide +kernel
theorem dX7_answersAhead_117 : decode cX7_answersAhead 117 = .ok (.if_icmp .le 25, 3) := by decide +kernel
theorem dX7_answersAhead_120 : decode cX7_answersAhead 120 = .ok (.iload 4, 2) := by decide +kernel
theorem dX7_answersAhead_122 : decode cX7_answersAhead 122 = .ok (.iload 6, 2) := by decide +kernel
theorem dX7_answersAhead_124 : decode cX7_answersAhead 124 = .ok (.invokestatic 118, 3) := by decide +kernel
theorem dX7_answersAhead_127 : decode cX7_answersAhead 127 = .ok (.ior, 1) := by decide +kernel
theorem dX7_answersAhead_128 : decode cX7_answersAhead 128 = .ok (.istore 4, 2) := by decide +kernel
theorem dX7_answersAhead_130 : decode cX7_answersAhead 130 = .ok (.iload_n 3, 1) := by decide +kernel
theorem dX7_answersAhead_131 : decode cX7_answersAhead 131 = .ok (.iconst 1, 1) := by decide +kernel
theorem dX7_answersAhead_132 : decode cX7_answersAhead 132 = .ok (.iadd, 1) := by decide +kernel
theorem dX7_answersAhead_133 : decode cX7_answersAhead 133 = .ok (.bipush 9, 2) := by decide +kernel
theorem dX7_answersAhead_135 : decode cX7_answersAhead 135 = .ok (.invokestatic 148, 3) := by decide +kernel
theorem dX7_answersAhead_138 : decode cX7_answersAhead 138 = .ok (.istore_n 3, 1) := by decide +kernel
theorem dX7_answersAhead_139 : decode cX7_answersAhead 139 = .ok (.iinc 2 1, 3) := by decide +kernel
theorem dX7_answersAhead_142 : decode cX7_answersAhead 142 = .ok (.iinc 5 1, 3) := by decide +kernel
theorem dX7_answersAhead_145 : decode cX7_answersAhead 145 = .ok (.goto (-105), 3) := by decide +kernel
theorem dX7_answersAhead_148 : decode cX7_answersAhead 148 = .ok (.iload_n 2, 1) := by decide +kernel
theorem dX7_answersAhead_149 : decode cX7_answersAhead 149 = .ok (.ireturn, 1) := by decide +kernel
set_option maxRecDepth 20000 in
theorem ggX7_hoursOf_X8_at : GoodIn wsX7_hoursOf wsX8_at := goodIn_r _ [4] (by decide +kernel) (by decide +kernel)
set_option maxRecDepth 20000 in
theorem gX7_hoursOf_X8_at_n78 : GoodIn wsX7_hoursOf (wsX8_at) := ggX7_hoursOf_X8_at
set_option maxRecDepth 20000 in
theorem ggX7_hoursOf_X8_isIn : GoodIn wsX7_hoursOf wsX8_isIn := goodIn_r _ [6] (by decide +kernel) (by decide +kernel)
set_option maxRecDepth 20000 in
theorem gX7_hoursOf_X8_isIn_n90 : GoodIn wsX7_hoursOf (wsX8_isIn) := ggX7_hoursOf_X8_isIn
set_option maxRecDepth 20000 in
theorem ggX7_hoursOf_X8_bit : GoodIn wsX7_hoursOf wsX8_bit := goodIn_r _ [8] (by decide +kernel) (by decide +kernel)
set_option maxRecDepth 20000 in
theorem gX7_hoursOf_X8_bit_n118 : GoodIn wsX7_hoursOf (wsX8_bit) := ggX7_hoursOf_X8_bit
theorem dX7_hoursOf_0 : decode cX7_hoursOf 0 = .ok (.iconst 0, 1) := by decide +kernel
theorem dX7_hoursOf_1 : decode cX7_hoursOf 1 = .ok (.istore_n 2, 1) := by decide +kernel
theorem dX7_hoursOf_2 : decode cX7_hoursOf 2 = .ok (.iconst 0, 1) := by decide +kernel
theorem dX7_hoursOf_3 : decode cX7_hoursOf 3 = .ok (.istore_n 3, 1) := by decide +kernel
theorem dX7_hoursOf_4 : decode cX7_hoursOf 4 = .ok (.iload_n 3, 1) := by decide +kernel
theorem dX7_hoursOf_5 : decode cX7_hoursOf 5 = .ok (.bipush 24, 2) := by decide +kernel
theorem dX7_hoursOf_7 : decode cX7_hoursOf 7 = .ok (.if_icmp .ge 31, 3) := by decide +kernel
theorem dX7_hoursOf_10 : decode cX7_hoursOf 10 = .ok (.aload_n 0, 1) := by decide +kernel
theorem dX7_hoursOf_11 : decode cX7_hoursOf 11 = .ok (.getfield 32, 3) := by decide +kernel
theorem dX7_hoursOf_14 : decode cX7_hoursOf 14 = .ok (.iload_n 3, 1) := by decide +kernel
theorem dX7_hoursOf_15 : decode cX7_hoursOf 15 = .ok (.invokestatic 78, 3) := by decide +kernel
theorem dX7_hoursOf_18 : decode cX7_hoursOf 18 = .ok (.iload_n 1, 1) := by decide +kernel
theorem dX7_hoursOf_19 : decode cX7_hoursOf 19 = .ok (.invokestatic 90, 3) := by decide +kernel
theorem dX7_hoursOf_22 : decode cX7_hoursOf 22 = .ok (.ifCond .eq 10, 3) := by decide +kernel
theorem dX7_hoursOf_25 : decode cX7_hoursOf 25 = .ok (.iload_n 2, 1) := by decide +kernel
theorem dX7_hoursOf_26 : decode cX7_hoursOf 26 = .ok (.iload_n 3, 1) := by decide +kernel
theorem dX7_hoursOf_27 : decode cX7_hoursOf 27 = .ok (.invokestatic 118, 3) := by decide +kernel
theorem dX7_hoursOf_30 : decode cX7_hoursOf 30 = .ok (.ior, 1) := by decide +kernel
theorem dX7_hoursOf_31 : decode cX7_hoursOf 31 = .ok (.istore_n 2, 1) := by decide +kernel
theorem dX7_hoursOf_32 : decode cX7_hoursOf 32 = .ok (.iinc 3 1, 3) := by decide +kernel
theorem dX7_hoursOf_35 : decode cX7_hoursOf 35 = .ok (.goto (-31), 3) := by decide +kernel
theorem dX7_hoursOf_38 : decode cX7_hoursOf 38 = .ok (.iload_n 2, 1) := by decide +kernel
theorem dX7_hoursOf_39 : decode cX7_hoursOf 39 = .ok (.ireturn, 1) := by decide +kernel
set_option maxRecDepth 20000 in
theorem ggX8_init_X7_init : GoodIn wsX8_init wsX7_init := goodIn_r _ [28, 29, 2, 3, 30, 31, 32, 33, 34, 35, 36, 37, 38, 39, 40, 41, 42, 43, 44, 45, 46, 47, 48, 49, 50, 51, 52, 53, 54, 55, 56, 57, 58, 59, 60, 61, 62, 63, 64, 65, 116, 117, 118, 119, 120, 121, 122, 84, 85, 86, 87, 88, 89, 90, 91, 92, 93, 94, 95, 123, 124, 125, 126, 127, 128, 129, 130, 131, 132] (by decide +kernel) (by decide +kernel)
set_option maxRecDepth 20000 in
theorem gX8_init_X7_init_n11 : GoodIn wsX8_init (wsX7_init) := ggX8_init_X7_init
set_option maxRecDepth 20000 in
theorem ggX8_init_X1_init : GoodIn wsX8_init wsX1_init := goodIn_r _ [67, 68, 2, 3, 69, 70, 105, 106, 107] (by decide +kernel) (by decide +kernel)
set_option maxRecDepth 20000 in
theorem gX8_init_X1_init_n21 : GoodIn wsX8_init (wsX1_init) := ggX8_init_X1_init
set_option maxRecDepth 20000 in
theorem ggX8_init_X6_init : GoodIn wsX8_init wsX6_init := goodIn_r _ [72, 73, 2, 3, 42, 74, 108, 109] (by decide +kernel) (by decide +kernel)
set_option maxRecDepth 20000 in
theorem gX8_init_X6_init_n28 : GoodIn wsX8_init (wsX6_init) := ggX8_init_X6_init
set_option maxRecDepth 20000 in
theorem ggX8_init_X3_init : GoodIn wsX8_init wsX3_init := goodIn_r _ [76, 77, 2, 3, 42, 78, 79, 110, 111, 112, 113] (by decide +kernel) (by decide +kernel)
set_option maxRecDepth 20000 in
theorem gX8_init_X3_init_n35 : GoodIn wsX8_init (wsX3_init) := ggX8_init_X3_init
set_option maxRecDepth 20000 in
theorem ggX8_init_X2_init : GoodIn wsX8_init wsX2_init := goodIn_r _ [81, 82, 2, 3, 42, 83, 114, 115] (by decide +kernel) (by decide +kernel)
set_option maxRecDepth 20000 in
theorem gX8_init_X2_init_n42 : GoodIn wsX8_init (wsX2_init) := ggX8_init_X2_init
theorem dX8_init_0 : decode cX8_init 0 = .ok (.aload_n 0, 1) := by decide +kernel
theorem dX8_init_1 : decode cX8_init 1 = .ok (.invokespecial 3, 3) := by decide +kernel
theorem dX8_init_4 : decode cX8_init 4 = .ok (.aload_n 0, 1) := by decide +kernel
theorem dX8_init_5 : decode cX8_init 5 = .ok (.new 9, 3) := by decide +kernel
theorem dX8_init_8 : decode cX8_init 8 = .ok (.dup, 1) := by decide +kernel
theorem dX8_init_9 : decode cX8_init 9 = .ok (.invokespecial 11, 3) := by decide +kernel
theorem dX8_init_12 : decode cX8_init 12 = .ok (.putfield 12, 3) := by decide +kernel
theorem dX8_init_15 : decode cX8_init 15 = .ok (.aload_n 0, 1) := by decide +kernel
theorem dX8_init_16 : decode cX8_init 16 = .ok (.new 9, 3) := by decide +kernel
theorem dX8_init_19 : decode cX8_init 19 = .ok (.dup, 1) := by decide +kernel
theorem dX8_init_20 : decode cX8_init 20 = .ok (.invokespecial 11, 3) := by decide +kernel
theorem dX8_init_23 : decode cX8_init 23 = .ok (.putfield 16, 3) := by decide +kernel
theorem dX8_init_26 : decode cX8_init 26 = .ok (.aload_n 0, 1) := by decide +kernel
theorem dX8_init_27 : decode cX8_init 27 = .ok (.new 19, 3) := by decide +kernel
theorem dX8_init_30 : decode cX8_init 30 = .ok (.dup, 1) := by decide +kernel
theorem dX8_init_31 : decode cX8_init 31 = .ok (.invokespecial 21, 3) := by decide +kernel
theorem dX8_init_34 : decode cX8_init 34 = .ok (.putfield 22, 3) := by decide +kernel
theorem dX8_init_37 : decode cX8_init 37 = .ok (.aload_n 0, 1) := by decide +kernel
theorem dX8_init_38 : decode cX8_init 38 = .ok (.new 26, 3) := by decide +kernel
theorem dX8_init_41 : decode cX8_init 41 = .ok (.dup, 1) := by decide +kernel
theorem dX8_init_42 : decode cX8_init 42 = .ok (.invokespecial 28, 3) := by decide +kernel
theorem dX8_init_45 : decode cX8_init 45 = .ok (.putfield 29, 3) := by decide +kernel
theorem dX8_init_48 : decode cX8_init 48 = .ok (.aload_n 0, 1) := by decide +kernel
theorem dX8_init_49 : decode cX8_init 49 = .ok (.new 33, 3) := by decide +kernel
theorem dX8_init_52 : decode cX8_init 52 = .ok (.dup, 1) := by decide +kernel
theorem dX8_init_53 : decode cX8_init 53 = .ok (.invokespecial 35, 3) := by decide +kernel
theorem dX8_init_56 : decode cX8_init 56 = .ok (.putfield 36, 3) := by decide +kernel
theorem dX8_init_59 : decode cX8_init 59 = .ok (.aload_n 0, 1) := by decide +kernel
theorem dX8_init_60 : decode cX8_init 60 = .ok (.new 40, 3) := by decide +kernel
theorem dX8_init_63 : decode cX8_init 63 = .ok (.dup, 1) := by decide +kernel
theorem dX8_init_64 : decode cX8_init 64 = .ok (.invokespecial 42, 3) := by decide +kernel
theorem dX8_init_67 : decode cX8_init 67 = .ok (.putfield 43, 3) := by decide +kernel
theorem dX8_init_70 : decode cX8_init 70 = .ok (.aload_n 0, 1) := by decide +kernel
theorem dX8_init_71 : decode cX8_init 71 = .ok (.sipush (-1015), 3) := by decide +kernel
theorem dX8_init_74 : decode cX8_init 74 = .ok (.putfield 47, 3) := by decide +kernel
theorem dX8_init_77 : decode cX8_init 77 = .ok (.aload_n 0, 1) := by decide +kernel
theorem dX8_init_78 : decode cX8_init 78 = .ok (.sipush (-1015), 3) := by decide +kernel
theorem dX8_init_81 : decode cX8_init 81 = .ok (.putfield 51, 3) := by decide +kernel
theorem dX8_init_84 : decode cX8_init 84 = .ok (.return_, 1) := by decide +kernel
set_option maxRecDepth 20000 in
theorem ggX8_rope_X1_note : GoodIn wsX8_rope wsX1_note := goodIn_r _ [7, 8, 9, 10, 11, 6, 12, 13, 14, 15, 16, 17, 18, 19, 20, 21, 22, 23, 24, 25, 26, 27, 28, 29, 30, 31, 32, 33, 34, 35, 36, 37, 38, 39, 40, 41, 42, 43, 44, 45, 46, 47, 48, 49, 50, 51, 52, 53, 54, 55, 56, 57, 58, 59, 60, 61, 62, 63, 64, 65, 66, 67, 68, 69, 70, 71, 72, 73, 74, 75, 76, 77, 78, 79, 80, 81, 82, 83, 84, 85, 86, 87, 88, 89, 90, 91, 92, 93, 94, 95, 96, 97, 98, 99, 100, 141, 142, 143, 144, 145, 146, 147, 148, 149, 150, 151, 152, 153, 154, 155, 156, 157, 158, 159, 160, 161, 162, 163, 164, 165, 166, 167, 168, 169, 170, 171, 172] (by decide +kernel) (by decide +kernel)
set_option maxRecDepth 20000 in
theorem gX8_rope_X1_note : GoodIn wsX8_rope (wsV RX8 54 RX1 yX1_note wsX1_note) := goodIn_app (goodIn_of _ (by decide +kernel)) ggX8_rope_X1_note
set_option maxRecDepth 20000 in
theorem ggX8_rope_X8_bringRope : GoodIn wsX8_rope wsX8_bringRope := goodIn_r _ [104, 2, 105, 106, 107, 108, 80, 109, 110, 111, 112, 113, 114, 115, 116, 117, 118, 28, 119, 78, 43, 44, 120, 121, 132, 133, 134, 135, 136, 137, 138, 139, 140, 144, 145, 146, 147, 148, 149, 150, 151, 152, 153, 154, 155, 156, 157, 158, 159, 160, 161, 162] (by decide +kernel) (by decide +kernel)
set_option maxRecDepth 20000 in
theorem gX8_rope_X8_bringRope : GoodIn wsX8_rope (wsV RX8 58 RX8 yX8_bringRope wsX8_bringRope) := goodIn_app (goodIn_of _ (by decide +kernel)) ggX8_rope_X8_bringRope
set_option maxRecDepth 20000 in
theorem ggX8_rope_X8_settle : GoodIn wsX8_rope wsX8_settle := goodIn_r _ [125, 1, 126, 127, 128, 6, 129, 8, 130, 131, 83, 84, 85, 17, 18, 19, 20, 132, 133, 134, 135, 136, 137, 138, 139, 140, 141, 142, 143] (by decide +kernel) (by decide +kernel)
set_option maxRecDepth 20000 in
theorem gX8_rope_X8_settle : GoodIn wsX8_rope (wsV RX8 62 RX8 yX8_settle wsX8_settle) := goodIn_app (goodIn_of _ (by decide +kernel)) ggX8_rope_X8_settle
theorem dX8_rope_0 : decode cX8_rope 0 = .ok (.aload_n 0, 1) := by decide +kernel
theorem dX8_rope_1 : decode cX8_rope 1 = .ok (.getfield 22, 3) := by decide +kernel
theorem dX8_rope_4 : decode cX8_rope 4 = .ok (.aload_n 0, 1) := by decide +kernel
theorem dX8_rope_5 : decode cX8_rope 5 = .ok (.getfield 12, 3) := by decide +kernel
theorem dX8_rope_8 : decode cX8_rope 8 = .ok (.invokevirtual 54, 3) := by decide +kernel
theorem dX8_rope_11 : decode cX8_rope 11 = .ok (.aload_n 0, 1) := by decide +kernel
theorem dX8_rope_12 : decode cX8_rope 12 = .ok (.aload_n 0, 1) := by decide +kernel
theorem dX8_rope_13 : decode cX8_rope 13 = .ok (.iload_n 1, 1) := by decide +kernel
theorem dX8_rope_14 : decode cX8_rope 14 = .ok (.invokevirtual 58, 3) := by decide +kernel
theorem dX8_rope_17 : decode cX8_rope 17 = .ok (.invokevirtual 62, 3) := by decide +kernel
theorem dX8_rope_20 : decode cX8_rope 20 = .ok (.ireturn, 1) := by decide +kernel
set_option maxRecDepth 20000 in
theorem ggX8_move_X1_note : GoodIn wsX8_move wsX1_note := goodIn_r _ [7, 8, 9, 10, 11, 6, 12, 13, 14, 15, 16, 17, 18, 19, 20, 21, 22, 23, 24, 25, 26, 27, 28, 29, 30, 31, 32, 33, 34, 35, 36, 37, 38, 39, 40, 41, 42, 43, 44, 45, 46, 47, 48, 49, 50, 51, 52, 53, 54, 55, 56, 57, 58, 59, 60, 61, 62, 63, 64, 65, 66, 67, 68, 69, 70, 71, 72, 73, 74, 75, 76, 77, 78, 79, 80, 81, 82, 83, 84, 85, 86, 87, 88, 89, 90, 91, 92, 93, 94, 95, 96, 97, 98, 99, 100, 145, 146, 147, 148, 149, 150, 151, 152, 153, 154, 155, 156, 157, 158, 159, 160, 161, 162, 163, 164, 165, 166, 167, 168, 169, 170, 171, 172, 173, 174, 175, 176] (by decide +kernel) (by decide +kernel)
set_option maxRecDepth 20000 in
theorem gX8_move_X1_note : GoodIn wsX8_move (wsV RX8 54 RX1 yX1_note wsX1_note) := goodIn_app (goodIn_of _ (by decide +kernel)) ggX8_move_X1_note
set_option maxRecDepth 20000 in
theorem ggX8_move_X8_giveRope : GoodIn wsX8_move wsX8_giveRope := goodIn_r _ [104, 2, 105, 106, 107, 108, 109, 28, 110, 78, 111, 112, 80, 113, 114, 115, 116, 117, 118, 119, 120, 121, 122, 123, 124, 125, 136, 137, 138, 139, 140, 141, 142, 143, 144, 148, 149, 150, 151, 152, 153, 154, 155, 156, 157, 158, 159, 160, 161, 162, 163, 164, 165, 166] (by decide +kernel) (by decide +kernel)
set_option maxRecDepth 20000 in
theorem gX8_move_X8_giveRope : GoodIn wsX8_move (wsV RX8 65 RX8 yX8_giveRope wsX8_giveRope) := goodIn_app (goodIn_of _ (by decide +kernel)) ggX8_move_X8_giveRope
set_option maxRecDepth 20000 in
theorem ggX8_move_X8_settle : GoodIn wsX8_move wsX8_settle := goodIn_r _ [129, 1, 130, 131, 132, 6, 133, 8, 134, 135, 83, 84, 85, 17, 18, 19, 20, 136, 137, 138, 139, 140, 141, 142, 143, 144, 145, 146, 147] (by decide +kernel) (by decide +kernel)
set_option maxRecDepth 20000 in
theorem gX8_move_X8_settle : GoodIn wsX8_move (wsV RX8 62 RX8 yX8_settle wsX8_settle) := goodIn_app (goodIn_of _ (by decide +kernel)) ggX8_move_X8_settle
theorem dX8_move_0 : decode cX8_move 0 = .ok (.aload_n 0, 1) := by decide +kernel
theorem dX8_move_1 : decode cX8_move 1 = .ok (.getfield 22, 3) := by decide +kernel
theorem dX8_move_4 : decode cX8_move 4 = .ok (.aload_n 0, 1) := by decide +kernel
theorem dX8_move_5 : decode cX8_move 5 = .ok (.getfield 12, 3) := by decide +kernel
theorem dX8_move_8 : decode cX8_move 8 = .ok (.invokevirtual 54, 3) := by decide +kernel
theorem dX8_move_11 : decode cX8_move 11 = .ok (.aload_n 0, 1) := by decide +kernel
theorem dX8_move_12 : decode cX8_move 12 = .ok (.aload_n 0, 1) := by decide +kernel
theorem dX8_move_13 : decode cX8_move 13 = .ok (.iload_n 1, 1) := by decide +kernel
theorem dX8_move_14 : decode cX8_move 14 = .ok (.iload_n 2, 1) := by decide +kernel
theorem dX8_move_15 : decode cX8_move 15 = .ok (.invokevirtual 65, 3) := by decide +kernel
theorem dX8_move_18 : decode cX8_move 18 = .ok (.invokevirtual 62, 3) := by decide +kernel
theorem dX8_move_21 : decode cX8_move 21 = .ok (.ireturn, 1) := by decide +kernel
set_option maxRecDepth 20000 in
theorem ggX8_sensor_X1_note : GoodIn wsX8_sensor wsX1_note := goodIn_r _ [7, 8, 9, 10, 11, 6, 12, 13, 14, 15, 16, 17, 18, 19, 20, 21, 22, 23, 24, 25, 26, 27, 28, 29, 30, 31, 32, 33, 34, 35, 36, 37, 38, 39, 40, 41, 42, 43, 44, 45, 46, 47, 48, 49, 50, 51, 52, 53, 54, 55, 56, 57, 58, 59, 60, 61, 62, 63, 64, 65, 66, 67, 68, 69, 70, 71, 72, 73, 74, 75, 76, 77, 78, 79, 80, 81, 82, 83, 84, 85, 86, 87, 88, 89, 90, 91, 92, 93, 94, 95, 96, 97, 98, 99, 100, 145, 146, 147, 148, 149, 150, 151, 152, 153, 154, 155, 156, 157, 158, 159, 160, 161, 162, 163, 164, 165, 166, 167, 168, 169, 170, 171, 172, 173, 174, 175, 176] (by decide +kernel) (by decide +kernel)
set_option maxRecDepth 20000 in
theorem gX8_sensor_X1_note : GoodIn wsX8_sensor (wsV RX8 54 RX1 yX1_note wsX1_note) := goodIn_app (goodIn_of _ (by decide +kernel)) ggX8_sensor_X1_note
set_option maxRecDepth 20000 in
theorem ggX8_sensor_X8_switchSensor : GoodIn wsX8_sensor wsX8_switchSensor := goodIn_r _ [104, 2, 105, 106, 107, 108, 109, 28, 110, 78, 111, 112, 80, 113, 114, 115, 116, 117, 118, 119, 120, 121, 122, 123, 124, 125, 136, 137, 138, 139, 140, 141, 142, 143, 144, 148, 149, 150, 151, 152, 153, 154, 155, 156, 157, 158, 159, 160, 161, 162, 163, 164, 165, 166] (by decide +kernel) (by decide +kernel)
set_option maxRecDepth 20000 in
theorem gX8_sensor_X8_switchSensor : GoodIn wsX8_sensor (wsV RX8 69 RX8 yX8_switchSensor wsX8_switchSensor) := goodIn_app (goodIn_of _ (by decide +kernel)) ggX8_sensor_X8_switchSensor
set_option maxRecDepth 20000 in
theorem ggX8_sensor_X8_settle : GoodIn wsX8_sensor wsX8_settle := goodIn_r _ [129, 1, 130, 131, 132, 6, 133, 8, 134, 135, 83, 84, 85, 17, 18, 19, 20, 136, 137, 138, 139, 140, 141, 142, 143, 144, 145, 146, 147] (by decide +kernel) (by decide +kernel)
set_option maxRecDepth 20000 in
theorem gX8_sensor_X8_settle : GoodIn wsX8_sensor (wsV RX8 62 RX8 yX8_settle wsX8_settle) := goodIn_app (goodIn_of _ (by decide +kernel)) ggX8_sensor_X8_settle
theorem dX8_sensor_0 : decode cX8_sensor 0 = .ok (.aload_n 0, 1) := by decide +kernel
theorem dX8_sensor_1 : decode cX8_sensor 1 = .ok (.getfield 22, 3) := by decide +kernel
theorem dX8_sensor_4 : decode cX8_sensor 4 = .ok (.aload_n 0, 1) := by decide +kernel
theorem dX8_sensor_5 : decode cX8_sensor 5 = .ok (.getfield 12, 3) := by decide +kernel
theorem dX8_sensor_8 : decode cX8_sensor 8 = .ok (.invokevirtual 54, 3) := by decide +kernel
theorem dX8_sensor_11 : decode cX8_sensor 11 = .ok (.aload_n 0, 1) := by decide +kernel
theorem dX8_sensor_12 : decode cX8_sensor 12 = .ok (.aload_n 0, 1) := by decide +kernel
theorem dX8_sensor_13 : decode cX8_sensor 13 = .ok (.iload_n 1, 1) := by decide +kernel
theorem dX8_sensor_14 : decode cX8_sensor 14 = .ok (.iload_n 2, 1) := by decide +kernel
theorem dX8_sensor_15 : decode cX8_sensor 15 = .ok (.invokevirtual 69, 3) := by decide +kernel
theorem dX8_sensor_18 : decode cX8_sensor 18 = .ok (.invokevirtual 62, 3) := by decide +kernel
theorem dX8_sensor_21 : decode cX8_sensor 21 = .ok (.ireturn, 1) := by decide +kernel
set_option maxRecDepth 20000 in
theorem ggX8_oil_X1_note : GoodIn wsX8_oil wsX1_note := goodIn_r _ [7, 8, 9, 10, 11, 6, 12, 13, 14, 15, 16, 17, 18, 19, 20, 21, 22, 23, 24, 25, 26, 27, 28, 29, 30, 31, 32, 33, 34, 35, 36, 37, 38, 39, 40, 41, 42, 43, 44, 45, 46, 47, 48, 49, 50, 51, 52, 53, 54, 55, 56, 57, 58, 59, 60, 61, 62, 63, 64, 65, 66, 67, 68, 69, 70, 71, 72, 73, 74, 75, 76, 77, 78, 79, 80, 81, 82, 83, 84, 85, 86, 87, 88, 89, 90, 91, 92, 93, 94, 95, 96, 97, 98, 99, 100, 142, 143, 144, 145, 146, 147, 148, 149, 150, 151, 152, 153, 154, 155, 156, 157, 158, 159, 160, 161, 162, 163, 164, 165, 166, 167, 168, 169, 170, 171, 172, 173] (by decide +kernel) (by decide +kernel)
set_option maxRecDepth 20000 in
theorem gX8_oil_X1_note : GoodIn wsX8_oil (wsV RX8 54 RX1 yX1_note wsX1_note) := goodIn_app (goodIn_of _ (by decide +kernel)) ggX8_oil_X1_note
set_option maxRecDepth 20000 in
theorem ggX8_oil_X8_oilRope : GoodIn wsX8_oil wsX8_oilRope := goodIn_r _ [104, 2, 105, 106, 107, 108, 109, 28, 110, 78, 111, 112, 80, 113, 114, 115, 116, 117, 118, 119, 120, 121, 122, 133, 134, 135, 136, 137, 138, 139, 140, 141, 145, 146, 147, 148, 149, 150, 151, 152, 153, 154, 155, 156, 157, 158, 159, 160, 161, 162, 163] (by decide +kernel) (by decide +kernel)
set_option maxRecDepth 20000 in
theorem gX8_oil_X8_oilRope : GoodIn wsX8_oil (wsV RX8 72 RX8 yX8_oilRope wsX8_oilRope) := goodIn_app (goodIn_of _ (by decide +kernel)) ggX8_oil_X8_oilRope
set_option maxRecDepth 20000 in
theorem ggX8_oil_X8_settle : GoodIn wsX8_oil wsX8_settle := goodIn_r _ [126, 1, 127, 128, 129, 6, 130, 8, 131, 132, 83, 84, 85, 17, 18, 19, 20, 133, 134, 135, 136, 137, 138, 139, 140, 141, 142, 143, 144] (by decide +kernel) (by decide +kernel)
set_option maxRecDepth 20000 in
theorem gX8_oil_X8_settle : GoodIn wsX8_oil (wsV RX8 62 RX8 yX8_settle wsX8_settle) := goodIn_app (goodIn_of _ (by decide +kernel)) ggX8_oil_X8_settle
theorem dX8_oil_0 : decode cX8_oil 0 = .ok (.aload_n 0, 1) := by decide +kernel
theorem dX8_oil_1 : decode cX8_oil 1 = .ok (.getfield 22, 3) := by decide +kernel
theorem dX8_oil_4 : decode cX8_oil 4 = .ok (.aload_n 0, 1) := by decide +kernel
theorem dX8_oil_5 : decode cX8_oil 5 = .ok (.getfield 12, 3) := by decide +kernel
theorem dX8_oil_8 : decode cX8_oil 8 = .ok (.invokevirtual 54, 3) := by decide +kernel
theorem dX8_oil_11 : decode cX8_oil 11 = .ok (.aload_n 0, 1) := by decide +kernel
theorem dX8_oil_12 : decode cX8_oil 12 = .ok (.aload_n 0, 1) := by decide +kernel
theorem dX8_oil_13 : decode cX8_oil 13 = .ok (.iload_n 1, 1) := by decide +kernel
theorem dX8_oil_14 : decode cX8_oil 14 = .ok (.iload_n 2, 1) := by decide +kernel
theorem dX8_oil_15 : decode cX8_oil 15 = .ok (.invokevirtual 72, 3) := by decide +kernel
theorem dX8_oil_18 : decode cX8_oil 18 = .ok (.invokevirtual 62, 3) := by decide +kernel
theorem dX8_oil_21 : decode cX8_oil 21 = .ok (.ireturn, 1) := by decide +kernel
set_option maxRecDepth 20000 in
theorem ggX8_ropeOf_X5_has : GoodIn wsX8_ropeOf wsX5_has := goodIn_r _ [14, 15, 56, 57, 58, 59, 60, 61, 62] (by decide +kernel) (by decide +kernel)
set_option maxRecDepth 20000 in
theorem gX8_ropeOf_X5_has : GoodIn wsX8_ropeOf (wsV RX8 79 RX5 yX5_has wsX5_has) := goodIn_app (goodIn_of _ (by decide +kernel)) ggX8_ropeOf_X5_has
set_option maxRecDepth 20000 in
theorem ggX8_ropeOf_X8_at : GoodIn wsX8_ropeOf wsX8_at := goodIn_r _ [19] (by decide +kernel) (by decide +kernel)
set_option maxRecDepth 20000 in
theorem gX8_ropeOf_X8_at : GoodIn wsX8_ropeOf (va_wsS RX8 89 yX8_at wsX8_at) := goodIn_app (goodIn_of _ (by decide +kernel)) ggX8_ropeOf_X8_at
set_option maxRecDepth 20000 in
theorem ggX8_ropeOf_X4_numberOf : GoodIn wsX8_ropeOf wsX4_numberOf := goodIn_r _ [24, 25, 18, 26, 27, 28, 29, 23, 30, 31, 32, 17, 19, 33, 34, 63, 64, 65, 66] (by decide +kernel) (by decide +kernel)
set_option maxRecDepth 20000 in
theorem gX8_ropeOf_X4_numberOf : GoodIn wsX8_ropeOf (wsV RX8 112 RX4 yX4_numberOf wsX4_numberOf) := goodIn_app (goodIn_of _ (by decide +kernel)) ggX8_ropeOf_X4_numberOf
theorem dX8_ropeOf_0 : decode cX8_ropeOf 0 = .ok (.aload_n 0, 1) := by decide +kernel
theorem dX8_ropeOf_1 : decode cX8_ropeOf 1 = .ok (.getfield 12, 3) := by decide +kernel
theorem dX8_ropeOf_4 : decode cX8_ropeOf 4 = .ok (.getfield 75, 3) := by decide +kernel
theorem dX8_ropeOf_7 : decode cX8_ropeOf 7 = .ok (.iload_n 1, 1) := by decide +kernel
theorem dX8_ropeOf_8 : decode cX8_ropeOf 8 = .ok (.invokevirtual 79, 3) := by decide +kernel
theorem dX8_ropeOf_11 : decode cX8_ropeOf 11 = .ok (.ifCond .ne 7, 3) := by decide +kernel
theorem dX8_ropeOf_14 : decode cX8_ropeOf 14 = .ok (.sipush (-1011), 3) := by decide +kernel
theorem dX8_ropeOf_17 : decode cX8_ropeOf 17 = .ok (.ireturn, 1) := by decide +kernel
theorem dX8_ropeOf_18 : decode cX8_ropeOf 18 = .ok (.iload_n 2, 1) := by decide +kernel
theorem dX8_ropeOf_19 : decode cX8_ropeOf 19 = .ok (.tableswitch 143 0 6 #[41, 56, 71, 86, 101, 116, 131], 41) := by decide +kernel
theorem dX8_ropeOf_60 : decode cX8_ropeOf 60 = .ok (.aload_n 0, 1) := by decide +kernel
theorem dX8_ropeOf_61 : decode cX8_ropeOf 61 = .ok (.getfield 12, 3) := by decide +kernel
theorem dX8_ropeOf_64 : decode cX8_ropeOf 64 = .ok (.getfield 75, 3) := by decide +kernel
theorem dX8_ropeOf_67 : decode cX8_ropeOf 67 = .ok (.getfield 85, 3) := by decide +kernel
theorem dX8_ropeOf_70 : decode cX8_ropeOf 70 = .ok (.iload_n 1, 1) := by decide +kernel
theorem dX8_ropeOf_71 : decode cX8_ropeOf 71 = .ok (.invokestatic 89, 3) := by decide +kernel
theorem dX8_ropeOf_74 : decode cX8_ropeOf 74 = .ok (.ireturn, 1) := by decide +kernel
theorem dX8_ropeOf_75 : decode cX8_ropeOf 75 = .ok (.aload_n 0, 1) := by decide +kernel
theorem dX8_ropeOf_76 : decode cX8_ropeOf 76 = .ok (.getfield 12, 3) := by decide +kernel
theorem dX8_ropeOf_79 : decode cX8_ropeOf 79 = .ok (.getfield 75, 3) := by decide +kernel
theorem dX8_ropeOf_82 : decode cX8_ropeOf 82 = .ok (.getfield 93, 3) := by decide +kernel
theorem dX8_ropeOf_85 : decode cX8_ropeOf 85 = .ok (.iload_n 1, 1) := by decide +kernel
theorem dX8_ropeOf_86 : decode cX8_ropeOf 86 = .ok (.invokestatic 89, 3) := by decide +kernel
theorem dX8_ropeOf_89 : decode cX8_ropeOf 89 = .ok (.ireturn, 1) := by decide +kernel
theorem dX8_ropeOf_90 : decode cX8_ropeOf 90 = .ok (.aload_n 0, 1) := by decide +kernel
theorem dX8_ropeOf_91 : decode cX8_ropeOf 91 = .ok (.getfield 12, 3) := by decide +kernel
