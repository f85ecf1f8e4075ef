theorem dX9_isIn_10 : decode cX9_isIn 10 = .ok (.iconst 1, 1) := by decide +kernel
theorem dX9_isIn_11 : decode cX9_isIn 11 = .ok (.goto 4, 3) := by decide +kernel
theorem dX9_isIn_14 : decode cX9_isIn 14 = .ok (.iconst 0, 1) := by decide +kernel
theorem dX9_isIn_15 : decode cX9_isIn 15 = .ok (.ireturn, 1) := by decide +kernel
theorem dX9_lays_0 : decode cX9_lays 0 = .ok (.iconst 0, 1) := by decide +kernel
theorem dX9_lays_1 : decode cX9_lays 1 = .ok (.istore_n 2, 1) := by decide +kernel
theorem dX9_lays_2 : decode cX9_lays 2 = .ok (.iload_n 2, 1) := by decide +kernel
theorem dX9_lays_3 : decode cX9_lays 3 = .ok (.sipush 235, 3) := by decide +kernel
theorem dX9_lays_6 : decode cX9_lays 6 = .ok (.if_icmp .ge 15, 3) := by decide +kernel
theorem dX9_lays_9 : decode cX9_lays 9 = .ok (.aload_n 0, 1) := by decide +kernel
theorem dX9_lays_10 : decode cX9_lays 10 = .ok (.iload_n 2, 1) := by decide +kernel
theorem dX9_lays_11 : decode cX9_lays 11 = .ok (.aload_n 1, 1) := by decide +kernel
theorem dX9_lays_12 : decode cX9_lays 12 = .ok (.iload_n 2, 1) := by decide +kernel
theorem dX9_lays_13 : decode cX9_lays 13 = .ok (.iaload, 1) := by decide +kernel
theorem dX9_lays_14 : decode cX9_lays 14 = .ok (.iastore, 1) := by decide +kernel
theorem dX9_lays_15 : decode cX9_lays 15 = .ok (.iinc 2 1, 3) := by decide +kernel
theorem dX9_lays_18 : decode cX9_lays 18 = .ok (.goto (-16), 3) := by decide +kernel
theorem dX9_lays_21 : decode cX9_lays 21 = .ok (.return_, 1) := by decide +kernel
set_option maxRecDepth 20000 in
theorem ggX9_begins_X9_lays : GoodIn wsX9_begins wsX9_lays := goodIn_r _ [7] (by decide +kernel) (by decide +kernel)
set_option maxRecDepth 20000 in
theorem gX9_begins_X9_lays : GoodIn wsX9_begins (va_wsS RX9 45 yX9_lays wsX9_lays) := goodIn_app (goodIn_of _ (by decide +kernel)) ggX9_begins_X9_lays
theorem dX9_begins_0 : decode cX9_begins 0 = .ok (.aload_n 0, 1) := by decide +kernel
theorem dX9_begins_1 : decode cX9_begins 1 = .ok (.iconst 0, 1) := by decide +kernel
theorem dX9_begins_2 : decode cX9_begins 2 = .ok (.putfield 31, 3) := by decide +kernel
theorem dX9_begins_5 : decode cX9_begins 5 = .ok (.aload_n 0, 1) := by decide +kernel
theorem dX9_begins_6 : decode cX9_begins 6 = .ok (.getfield 13, 3) := by decide +kernel
theorem dX9_begins_9 : decode cX9_begins 9 = .ok (.aload_n 0, 1) := by decide +kernel
theorem dX9_begins_10 : decode cX9_begins 10 = .ok (.getfield 7, 3) := by decide +kernel
theorem dX9_begins_13 : decode cX9_begins 13 = .ok (.invokestatic 45, 3) := by decide +kernel
theorem dX9_begins_16 : decode cX9_begins 16 = .ok (.return_, 1) := by decide +kernel
set_option maxRecDepth 20000 in
theorem ggX9_ends_X9_lays : GoodIn wsX9_ends wsX9_lays := goodIn_r _ [9] (by decide +kernel) (by decide +kernel)
set_option maxRecDepth 20000 in
theorem gX9_ends_X9_lays : GoodIn wsX9_ends (va_wsS RX9 45 yX9_lays wsX9_lays) := goodIn_app (goodIn_of _ (by decide +kernel)) ggX9_ends_X9_lays
theorem dX9_ends_0 : decode cX9_ends 0 = .ok (.aload_n 0, 1) := by decide +kernel
theorem dX9_ends_1 : decode cX9_ends 1 = .ok (.getfield 31, 3) := by decide +kernel
theorem dX9_ends_4 : decode cX9_ends 4 = .ok (.ifCond .eq 19, 3) := by decide +kernel
theorem dX9_ends_7 : decode cX9_ends 7 = .ok (.aload_n 0, 1) := by decide +kernel
theorem dX9_ends_8 : decode cX9_ends 8 = .ok (.getfield 7, 3) := by decide +kernel
theorem dX9_ends_11 : decode cX9_ends 11 = .ok (.aload_n 0, 1) := by decide +kernel
theorem dX9_ends_12 : decode cX9_ends 12 = .ok (.getfield 13, 3) := by decide +kernel
theorem dX9_ends_15 : decode cX9_ends 15 = .ok (.invokestatic 45, 3) := by decide +kernel
theorem dX9_ends_18 : decode cX9_ends 18 = .ok (.aload_n 0, 1) := by decide +kernel
theorem dX9_ends_19 : decode cX9_ends 19 = .ok (.getfield 31, 3) := by decide +kernel
theorem dX9_ends_22 : decode cX9_ends 22 = .ok (.ireturn, 1) := by decide +kernel
theorem dX9_ends_23 : decode cX9_ends 23 = .ok (.aload_n 0, 1) := by decide +kernel
theorem dX9_ends_24 : decode cX9_ends 24 = .ok (.getfield 49, 3) := by decide +kernel
theorem dX9_ends_27 : decode cX9_ends 27 = .ok (.bipush 8, 2) := by decide +kernel
theorem dX9_ends_29 : decode cX9_ends 29 = .ok (.if_icmp .ne 44, 3) := by decide +kernel
theorem dX9_ends_32 : decode cX9_ends 32 = .ok (.iconst 0, 1) := by decide +kernel
theorem dX9_ends_33 : decode cX9_ends 33 = .ok (.istore_n 2, 1) := by decide +kernel
theorem dX9_ends_34 : decode cX9_ends 34 = .ok (.iload_n 2, 1) := by decide +kernel
theorem dX9_ends_35 : decode cX9_ends 35 = .ok (.sipush 1645, 3) := by decide +kernel
theorem dX9_ends_38 : decode cX9_ends 38 = .ok (.if_icmp .ge 25, 3) := by decide +kernel
theorem dX9_ends_41 : decode cX9_ends 41 = .ok (.aload_n 0, 1) := by decide +kernel
theorem dX9_ends_42 : decode cX9_ends 42 = .ok (.getfield 22, 3) := by decide +kernel
theorem dX9_ends_45 : decode cX9_ends 45 = .ok (.iload_n 2, 1) := by decide +kernel
theorem dX9_ends_46 : decode cX9_ends 46 = .ok (.aload_n 0, 1) := by decide +kernel
theorem dX9_ends_47 : decode cX9_ends 47 = .ok (.getfield 22, 3) := by decide +kernel
theorem dX9_ends_50 : decode cX9_ends 50 = .ok (.iload_n 2, 1) := by decide +kernel
theorem dX9_ends_51 : decode cX9_ends 51 = .ok (.sipush 235, 3) := by decide +kernel
theorem dX9_ends_54 : decode cX9_ends 54 = .ok (.iadd, 1) := by decide +kernel
theorem dX9_ends_55 : decode cX9_ends 55 = .ok (.iaload, 1) := by decide +kernel
theorem dX9_ends_56 : decode cX9_ends 56 = .ok (.iastore, 1) := by decide +kernel
theorem dX9_ends_57 : decode cX9_ends 57 = .ok (.iinc 2 1, 3) := by decide +kernel
theorem dX9_ends_60 : decode cX9_ends 60 = .ok (.goto (-26), 3) := by decide +kernel
theorem dX9_ends_63 : decode cX9_ends 63 = .ok (.aload_n 0, 1) := by decide +kernel
theorem dX9_ends_64 : decode cX9_ends 64 = .ok (.dup, 1) := by decide +kernel
theorem dX9_ends_65 : decode cX9_ends 65 = .ok (.getfield 49, 3) := by decide +kernel
theorem dX9_ends_68 : decode cX9_ends 68 = .ok (.iconst 1, 1) := by decide +kernel
theorem dX9_ends_69 : decode cX9_ends 69 = .ok (.isub, 1) := by decide +kernel
theorem dX9_ends_70 : decode cX9_ends 70 = .ok (.putfield 49, 3) := by decide +kernel
theorem dX9_ends_73 : decode cX9_ends 73 = .ok (.iconst 0, 1) := by decide +kernel
theorem dX9_ends_74 : decode cX9_ends 74 = .ok (.istore_n 2, 1) := by decide +kernel
theorem dX9_ends_75 : decode cX9_ends 75 = .ok (.iload_n 2, 1) := by decide +kernel
theorem dX9_ends_76 : decode cX9_ends 76 = .ok (.sipush 235, 3) := by decide +kernel
theorem dX9_ends_79 : decode cX9_ends 79 = .ok (.if_icmp .ge 30, 3) := by decide +kernel
theorem dX9_ends_82 : decode cX9_ends 82 = .ok (.aload_n 0, 1) := by decide +kernel
theorem dX9_ends_83 : decode cX9_ends 83 = .ok (.getfield 22, 3) := by decide +kernel
theorem dX9_ends_86 : decode cX9_ends 86 = .ok (.aload_n 0, 1) := by decide +kernel
theorem dX9_ends_87 : decode cX9_ends 87 = .ok (.getfield 49, 3) := by decide +kernel
theorem dX9_ends_90 : decode cX9_ends 90 = .ok (.sipush 235, 3) := by decide +kernel
theorem dX9_ends_93 : decode cX9_ends 93 = .ok (.imul, 1) := by decide +kernel
theorem dX9_ends_94 : decode cX9_ends 94 = .ok (.iload_n 2, 1) := by decide +kernel
theorem dX9_ends_95 : decode cX9_ends 95 = .ok (.iadd, 1) := by decide +kernel
theorem dX9_ends_96 : decode cX9_ends 96 = .ok (.aload_n 0, 1) := by decide +kernel
theorem dX9_ends_97 : decode cX9_ends 97 = .ok (.getfield 13, 3) := by decide +kernel
theorem dX9_ends_100 : decode cX9_ends 100 = .ok (.iload_n 2, 1) := by decide +kernel
theorem dX9_ends_101 : decode cX9_ends 101 = .ok (.iaload, 1) := by decide +kernel
theorem dX9_ends_102 : decode cX9_ends 102 = .ok (.iastore, 1) := by decide +kernel
theorem dX9_ends_103 : decode cX9_ends 103 = .ok (.iinc 2 1, 3) := by decide +kernel
theorem dX9_ends_106 : decode cX9_ends 106 = .ok (.goto (-31), 3) := by decide +kernel
theorem dX9_ends_109 : decode cX9_ends 109 = .ok (.aload_n 0, 1) := by decide +kernel
theorem dX9_ends_110 : decode cX9_ends 110 = .ok (.dup, 1) := by decide +kernel
theorem dX9_ends_111 : decode cX9_ends 111 = .ok (.getfield 49, 3) := by decide +kernel
theorem dX9_ends_114 : decode cX9_ends 114 = .ok (.iconst 1, 1) := by decide +kernel
theorem dX9_ends_115 : decode cX9_ends 115 = .ok (.iadd, 1) := by decide +kernel
theorem dX9_ends_116 : decode cX9_ends 116 = .ok (.putfield 49, 3) := by decide +kernel
theorem dX9_ends_119 : decode cX9_ends 119 = .ok (.iload_n 1, 1) := by decide +kernel
theorem dX9_ends_120 : decode cX9_ends 120 = .ok (.ireturn, 1) := by decide +kernel
theorem dX9_at_0 : decode cX9_at 0 = .ok (.bipush 11, 2) := by decide +kernel
theorem dX9_at_2 : decode cX9_at 2 = .ok (.bipush 6, 2) := by decide +kernel
theorem dX9_at_4 : decode cX9_at 4 = .ok (.iload_n 0, 1) := by decide +kernel
theorem dX9_at_5 : decode cX9_at 5 = .ok (.imul, 1) := by decide +kernel
theorem dX9_at_6 : decode cX9_at 6 = .ok (.iadd, 1) := by decide +kernel
theorem dX9_at_7 : decode cX9_at 7 = .ok (.iload_n 1, 1) := by decide +kernel
theorem dX9_at_8 : decode cX9_at 8 = .ok (.iadd, 1) := by decide +kernel
theorem dX9_at_9 : decode cX9_at 9 = .ok (.ireturn, 1) := by decide +kernel
set_option maxRecDepth 20000 in
theorem ggX9_isRope_X9_isIn : GoodIn wsX9_isRope wsX9_isIn := goodIn_r _ [5] (by decide +kernel) (by decide +kernel)
set_option maxRecDepth 20000 in
theorem gX9_isRope_X9_isIn : GoodIn wsX9_isRope (va_wsS RX9 52 yX9_isIn wsX9_isIn) := goodIn_app (goodIn_of _ (by decide +kernel)) ggX9_isRope_X9_isIn
theorem dX9_isRope_0 : decode cX9_isRope 0 = .ok (.iload_n 1, 1) := by decide +kernel
theorem dX9_isRope_1 : decode cX9_isRope 1 = .ok (.iconst 0, 1) := by decide +kernel
theorem dX9_isRope_2 : decode cX9_isRope 2 = .ok (.aload_n 0, 1) := by decide +kernel
theorem dX9_isRope_3 : decode cX9_isRope 3 = .ok (.getfield 7, 3) := by decide +kernel
theorem dX9_isRope_6 : decode cX9_isRope 6 = .ok (.iconst 0, 1) := by decide +kernel
theorem dX9_isRope_7 : decode cX9_isRope 7 = .ok (.iaload, 1) := by decide +kernel
theorem dX9_isRope_8 : decode cX9_isRope 8 = .ok (.iconst 1, 1) := by decide +kernel
theorem dX9_isRope_9 : decode cX9_isRope 9 = .ok (.isub, 1) := by decide +kernel
theorem dX9_isRope_10 : decode cX9_isRope 10 = .ok (.invokestatic 52, 3) := by decide +kernel
theorem dX9_isRope_13 : decode cX9_isRope 13 = .ok (.ireturn, 1) := by decide +kernel
set_option maxRecDepth 20000 in
theorem ggX9_isParish_X9_isIn : GoodIn wsX9_isParish wsX9_isIn := goodIn_r _ [4] (by decide +kernel) (by decide +kernel)
set_option maxRecDepth 20000 in
theorem gX9_isParish_X9_isIn : GoodIn wsX9_isParish (va_wsS RX9 52 yX9_isIn wsX9_isIn) := goodIn_app (goodIn_of _ (by decide +kernel)) ggX9_isParish_X9_isIn
theorem dX9_isParish_0 : decode cX9_isParish 0 = .ok (.iload_n 0, 1) := by decide +kernel
theorem dX9_isParish_1 : decode cX9_isParish 1 = .ok (.iconst 0, 1) := by decide +kernel
theorem dX9_isParish_2 : decode cX9_isParish 2 = .ok (.iconst 3, 1) := by decide +kernel
theorem dX9_isParish_3 : decode cX9_isParish 3 = .ok (.invokestatic 52, 3) := by decide +kernel
theorem dX9_isParish_6 : decode cX9_isParish 6 = .ok (.ireturn, 1) := by decide +kernel
theorem dX9_pulled_0 : decode cX9_pulled 0 = .ok (.aload_n 0, 1) := by decide +kernel
theorem dX9_pulled_1 : decode cX9_pulled 1 = .ok (.getfield 7, 3) := by decide +kernel
theorem dX9_pulled_4 : decode cX9_pulled 4 = .ok (.bipush 83, 2) := by decide +kernel
theorem dX9_pulled_6 : decode cX9_pulled 6 = .ok (.iconst 3, 1) := by decide +kernel
theorem dX9_pulled_7 : decode cX9_pulled 7 = .ok (.iload_n 1, 1) := by decide +kernel
theorem dX9_pulled_8 : decode cX9_pulled 8 = .ok (.imul, 1) := by decide +kernel
theorem dX9_pulled_9 : decode cX9_pulled 9 = .ok (.iadd, 1) := by decide +kernel
theorem dX9_pulled_10 : decode cX9_pulled 10 = .ok (.iload_n 2, 1) := by decide +kernel
theorem dX9_pulled_11 : decode cX9_pulled 11 = .ok (.iadd, 1) := by decide +kernel
theorem dX9_pulled_12 : decode cX9_pulled 12 = .ok (.iaload, 1) := by decide +kernel
theorem dX9_pulled_13 : decode cX9_pulled 13 = .ok (.ireturn, 1) := by decide +kernel
set_option maxRecDepth 20000 in
theorem ggX9_comes_X9_isParish : GoodIn wsX9_comes wsX9_isParish := goodIn_r _ [5, 6, 7, 4, 8] (by decide +kernel) (by decide +kernel)
set_option maxRecDepth 20000 in
theorem gX9_comes_X9_isParish : GoodIn wsX9_comes (va_wsS RX9 56 yX9_isParish wsX9_isParish) := goodIn_app (goodIn_of _ (by decide +kernel)) ggX9_comes_X9_isParish
set_option maxRecDepth 20000 in
theorem ggX9_comes_X9_fail : GoodIn wsX9_comes wsX9_fail := goodIn_r _ [12, 13, 23, 24, 25, 26, 27, 28, 29, 30, 31, 32, 33, 34, 35, 36, 37, 38, 39, 40] (by decide +kernel) (by decide +kernel)
set_option maxRecDepth 20000 in
theorem gX9_comes_X9_fail : GoodIn wsX9_comes (wsV RX9 41 RX9 yX9_fail wsX9_fail) := goodIn_app (goodIn_of _ (by decide +kernel)) ggX9_comes_X9_fail
set_option maxRecDepth 20000 in
theorem ggX9_comes_X9_refuses : GoodIn wsX9_comes wsX9_refuses := goodIn_r _ [17, 18, 19, 9, 10, 11, 4, 12, 13, 23, 24, 25, 26, 27, 28, 29, 30, 31, 32, 33, 34, 35, 36, 37, 38, 39, 40] (by decide +kernel) (by decide +kernel)
set_option maxRecDepth 20000 in
theorem gX9_comes_X9_refuses : GoodIn wsX9_comes (wsV RX9 60 RX9 yX9_refuses wsX9_refuses) := goodIn_app (goodIn_of _ (by decide +kernel)) ggX9_comes_X9_refuses
set_option maxRecDepth 20000 in
theorem ggX9_comes_X9_at : GoodIn wsX9_comes wsX9_at := goodIn_r _ [22] (by decide +kernel) (by decide +kernel)
set_option maxRecDepth 20000 in
theorem gX9_comes_X9_at : GoodIn wsX9_comes (va_wsS RX9 64 yX9_at wsX9_at) := goodIn_app (goodIn_of _ (by decide +kernel)) ggX9_comes_X9_at
theorem dX9_comes_0 : decode cX9_comes 0 = .ok (.iload_n 1, 1) := by decide +kernel
theorem dX9_comes_1 : decode cX9_comes 1 = .ok (.invokestatic 56, 3) := by decide +kernel
theorem dX9_comes_4 : decode cX9_comes 4 = .ok (.ifCond .ne 11, 3) := by decide +kernel
theorem dX9_comes_7 : decode cX9_comes 7 = .ok (.aload_n 0, 1) := by decide +kernel
theorem dX9_comes_8 : decode cX9_comes 8 = .ok (.sipush (-1012), 3) := by decide +kernel
theorem dX9_comes_11 : decode cX9_comes 11 = .ok (.invokevirtual 41, 3) := by decide +kernel
theorem dX9_comes_14 : decode cX9_comes 14 = .ok (.ireturn, 1) := by decide +kernel
theorem dX9_comes_15 : decode cX9_comes 15 = .ok (.aload_n 0, 1) := by decide +kernel
theorem dX9_comes_16 : decode cX9_comes 16 = .ok (.getfield 7, 3) := by decide +kernel
theorem dX9_comes_19 : decode cX9_comes 19 = .ok (.iconst 0, 1) := by decide +kernel
theorem dX9_comes_20 : decode cX9_comes 20 = .ok (.iaload, 1) := by decide +kernel
theorem dX9_comes_21 : decode cX9_comes 21 = .ok (.istore_n 2, 1) := by decide +kernel
theorem dX9_comes_22 : decode cX9_comes 22 = .ok (.iload_n 2, 1) := by decide +kernel
theorem dX9_comes_23 : decode cX9_comes 23 = .ok (.bipush 12, 2) := by decide +kernel
theorem dX9_comes_25 : decode cX9_comes 25 = .ok (.if_icmp .ne 11, 3) := by decide +kernel
theorem dX9_comes_28 : decode cX9_comes 28 = .ok (.aload_n 0, 1) := by decide +kernel
theorem dX9_comes_29 : decode cX9_comes 29 = .ok (.iconst 1, 1) := by decide +kernel
theorem dX9_comes_30 : decode cX9_comes 30 = .ok (.bipush 12, 2) := by decide +kernel
theorem dX9_comes_32 : decode cX9_comes 32 = .ok (.invokevirtual 60, 3) := by decide +kernel
theorem dX9_comes_35 : decode cX9_comes 35 = .ok (.ireturn, 1) := by decide +kernel
theorem dX9_comes_36 : decode cX9_comes 36 = .ok (.aload_n 0, 1) := by decide +kernel
theorem dX9_comes_37 : decode cX9_comes 37 = .ok (.getfield 7, 3) := by decide +kernel
theorem dX9_comes_40 : decode cX9_comes 40 = .ok (.iload_n 2, 1) := by decide +kernel
theorem dX9_comes_41 : decode cX9_comes 41 = .ok (.iconst 0, 1) := by decide +kernel
theorem dX9_comes_42 : decode cX9_comes 42 = .ok (.invokestatic 64, 3) := by decide +kernel
theorem dX9_comes_45 : decode cX9_comes 45 = .ok (.iload_n 1, 1) := by decide +kernel
theorem dX9_comes_46 : decode cX9_comes 46 = .ok (.iastore, 1) := by decide +kernel
theorem dX9_comes_47 : decode cX9_comes 47 = .ok (.aload_n 0, 1) := by decide +kernel
theorem dX9_comes_48 : decode cX9_comes 48 = .ok (.getfield 7, 3) := by decide +kernel
theorem dX9_comes_51 : decode cX9_comes 51 = .ok (.iload_n 2, 1) := by decide +kernel
theorem dX9_comes_52 : decode cX9_comes 52 = .ok (.iconst 1, 1) := by decide +kernel
theorem dX9_comes_53 : decode cX9_comes 53 = .ok (.invokestatic 64, 3) := by decide +kernel
theorem dX9_comes_56 : decode cX9_comes 56 = .ok (.iconst 1, 1) := by decide +kernel
theorem dX9_comes_57 : decode cX9_comes 57 = .ok (.iastore, 1) := by decide +kernel
theorem dX9_comes_58 : decode cX9_comes 58 = .ok (.aload_n 0, 1) := by decide +kernel
theorem dX9_comes_59 : decode cX9_comes 59 = .ok (.getfield 7, 3) := by decide +kernel
theorem dX9_comes_62 : decode cX9_comes 62 = .ok (.iconst 0, 1) := by decide +kernel
theorem dX9_comes_63 : decode cX9_comes 63 = .ok (.dup2, 1) := by decide +kernel
theorem dX9_comes_64 : decode cX9_comes 64 = .ok (.iaload, 1) := by decide +kernel
theorem dX9_comes_65 : decode cX9_comes 65 = .ok (.iconst 1, 1) := by decide +kernel
theorem dX9_comes_66 : decode cX9_comes 66 = .ok (.iadd, 1) := by decide +kernel
theorem dX9_comes_67 : decode cX9_comes 67 = .ok (.iastore, 1) := by decide +kernel
theorem dX9_comes_68 : decode cX9_comes 68 = .ok (.iload_n 2, 1) := by decide +kernel
theorem dX9_comes_69 : decode cX9_comes 69 = .ok (.ireturn, 1) := by decide +kernel
set_option maxRecDepth 20000 in
theorem ggX9_rope_X9_begins : GoodIn wsX9_rope wsX9_begins := goodIn_r _ [5, 6, 7, 8, 9, 10, 4, 11, 41, 42, 43, 44, 45, 46, 47, 48, 49, 50, 51, 52, 53, 54, 55, 56, 57, 58] (by decide +kernel) (by decide +kernel)
set_option maxRecDepth 20000 in
theorem gX9_rope_X9_begins : GoodIn wsX9_rope (wsV RX9 67 RX9 yX9_begins wsX9_begins) := goodIn_app (goodIn_of _ (by decide +kernel)) ggX9_rope_X9_begins
set_option maxRecDepth 20000 in
theorem ggX9_rope_X9_comes : GoodIn wsX9_rope wsX9_comes := goodIn_r _ [15, 8, 16, 17, 4, 18, 19, 20, 21, 22, 23, 24, 25, 6, 26, 27, 28, 29, 30, 31, 32, 33, 34, 41, 42, 43, 44, 45, 46, 47, 48, 49, 50, 51, 52, 53, 54, 55, 56, 57, 58] (by decide +kernel) (by decide +kernel)
set_option maxRecDepth 20000 in
theorem gX9_rope_X9_comes : GoodIn wsX9_rope (wsV RX9 70 RX9 yX9_comes wsX9_comes) := goodIn_app (goodIn_of _ (by decide +kernel)) ggX9_rope_X9_comes
set_option maxRecDepth 20000 in
theorem ggX9_rope_X9_ends : GoodIn wsX9_rope wsX9_ends := goodIn_r _ [38, 6, 8, 7, 39, 40, 9, 10, 4, 11, 41, 42, 43, 44, 45, 46, 47, 48, 49, 50, 51, 52, 53, 54, 55, 56, 57, 58] (by decide +kernel) (by decide +kernel)
set_option maxRecDepth 20000 in
theorem gX9_rope_X9_ends : GoodIn wsX9_rope (wsV RX9 73 RX9 yX9_ends wsX9_ends) := goodIn_app (goodIn_of _ (by decide +kernel)) ggX9_rope_X9_ends
theorem dX9_rope_0 : decode cX9_rope 0 = .ok (.aload_n 0, 1) := by decide +kernel
theorem dX9_rope_1 : decode cX9_rope 1 = .ok (.invokevirtual 67, 3) := by decide +kernel
theorem dX9_rope_4 : decode cX9_rope 4 = .ok (.aload_n 0, 1) := by decide +kernel
theorem dX9_rope_5 : decode cX9_rope 5 = .ok (.aload_n 0, 1) := by decide +kernel
theorem dX9_rope_6 : decode cX9_rope 6 = .ok (.iload_n 1, 1) := by decide +kernel
theorem dX9_rope_7 : decode cX9_rope 7 = .ok (.invokevirtual 70, 3) := by decide +kernel
theorem dX9_rope_10 : decode cX9_rope 10 = .ok (.invokevirtual 73, 3) := by decide +kernel
theorem dX9_rope_13 : decode cX9_rope 13 = .ok (.ireturn, 1) := by decide +kernel
set_option maxRecDepth 20000 in
theorem ggX9_sets_X9_refuses : GoodIn wsX9_sets wsX9_refuses := goodIn_r _ [6, 7, 8, 9, 10, 11, 5, 12, 13, 14, 15, 16, 17, 18, 19, 20, 21, 22, 23, 24, 25, 26, 27, 28, 29, 30, 31] (by decide +kernel) (by decide +kernel)
set_option maxRecDepth 20000 in
theorem gX9_sets_X9_refuses : GoodIn wsX9_sets (wsV RX9 60 RX9 yX9_refuses wsX9_refuses) := goodIn_app (goodIn_of _ (by decide +kernel)) ggX9_sets_X9_refuses
theorem dX9_sets_0 : decode cX9_sets 0 = .ok (.aload_n 0, 1) := by decide +kernel
theorem dX9_sets_1 : decode cX9_sets 1 = .ok (.getfield 7, 3) := by decide +kernel
theorem dX9_sets_4 : decode cX9_sets 4 = .ok (.iload_n 1, 1) := by decide +kernel
theorem dX9_sets_5 : decode cX9_sets 5 = .ok (.iaload, 1) := by decide +kernel
theorem dX9_sets_6 : decode cX9_sets 6 = .ok (.istore_n 3, 1) := by decide +kernel
theorem dX9_sets_7 : decode cX9_sets 7 = .ok (.iload_n 3, 1) := by decide +kernel
theorem dX9_sets_8 : decode cX9_sets 8 = .ok (.iload_n 2, 1) := by decide +kernel
theorem dX9_sets_9 : decode cX9_sets 9 = .ok (.if_icmp .ne 10, 3) := by decide +kernel
theorem dX9_sets_12 : decode cX9_sets 12 = .ok (.aload_n 0, 1) := by decide +kernel
theorem dX9_sets_13 : decode cX9_sets 13 = .ok (.iconst 4, 1) := by decide +kernel
theorem dX9_sets_14 : decode cX9_sets 14 = .ok (.iload_n 2, 1) := by decide +kernel
theorem dX9_sets_15 : decode cX9_sets 15 = .ok (.invokevirtual 60, 3) := by decide +kernel
theorem dX9_sets_18 : decode cX9_sets 18 = .ok (.ireturn, 1) := by decide +kernel
theorem dX9_sets_19 : decode cX9_sets 19 = .ok (.aload_n 0, 1) := by decide +kernel
theorem dX9_sets_20 : decode cX9_sets 20 = .ok (.getfield 7, 3) := by decide +kernel
theorem dX9_sets_23 : decode cX9_sets 23 = .ok (.iload_n 1, 1) := by decide +kernel
theorem dX9_sets_24 : decode cX9_sets 24 = .ok (.iload_n 2, 1) := by decide +kernel
theorem dX9_sets_25 : decode cX9_sets 25 = .ok (.iastore, 1) := by decide +kernel
theorem dX9_sets_26 : decode cX9_sets 26 = .ok (.iload_n 3, 1) := by decide +kernel
theorem dX9_sets_27 : decode cX9_sets 27 = .ok (.ireturn, 1) := by decide +kernel
set_option maxRecDepth 20000 in
theorem ggX9_moves_X9_isRope : GoodIn wsX9_moves wsX9_isRope := goodIn_r _ [5, 6, 7, 8, 4, 9, 31, 32, 33, 34, 35, 36, 37, 38, 39, 40, 41, 42, 43, 44, 45, 46, 47, 48] (by decide +kernel) (by decide +kernel)
set_option maxRecDepth 20000 in
theorem gX9_moves_X9_isRope : GoodIn wsX9_moves (wsV RX9 76 RX9 yX9_isRope wsX9_isRope) := goodIn_app (goodIn_of _ (by decide +kernel)) ggX9_moves_X9_isRope
set_option maxRecDepth 20000 in
theorem ggX9_moves_X9_fail : GoodIn wsX9_moves wsX9_fail := goodIn_r _ [13, 14, 31, 32, 33, 34, 35, 36, 37, 38, 39, 40, 41, 42, 43, 44, 45, 46, 47, 48] (by decide +kernel) (by decide +kernel)
set_option maxRecDepth 20000 in
theorem gX9_moves_X9_fail : GoodIn wsX9_moves (wsV RX9 41 RX9 yX9_fail wsX9_fail) := goodIn_app (goodIn_of _ (by decide +kernel)) ggX9_moves_X9_fail
set_option maxRecDepth 20000 in
theorem ggX9_moves_X9_isParish : GoodIn wsX9_moves wsX9_isParish := goodIn_r _ [17, 7, 8, 4, 9] (by decide +kernel) (by decide +kernel)
set_option maxRecDepth 20000 in
theorem gX9_moves_X9_isParish : GoodIn wsX9_moves (va_wsS RX9 56 yX9_isParish wsX9_isParish) := goodIn_app (goodIn_of _ (by decide +kernel)) ggX9_moves_X9_isParish
set_option maxRecDepth 20000 in
theorem ggX9_moves_X9_at : GoodIn wsX9_moves wsX9_at := goodIn_r _ [20] (by decide +kernel) (by decide +kernel)
set_option maxRecDepth 20000 in
theorem gX9_moves_X9_at : GoodIn wsX9_moves (va_wsS RX9 64 yX9_at wsX9_at) := goodIn_app (goodIn_of _ (by decide +kernel)) ggX9_moves_X9_at
set_option maxRecDepth 20000 in
theorem ggX9_moves_X9_sets : GoodIn wsX9_moves wsX9_sets := goodIn_r _ [24, 6, 25, 26, 27, 4, 28, 29, 30, 10, 11, 12, 13, 14, 31, 32, 33, 34, 35, 36, 37, 38, 39, 40, 41, 42, 43, 44, 45, 46, 47, 48] (by decide +kernel) (by decide +kernel)
set_option maxRecDepth 20000 in
theorem gX9_moves_X9_sets : GoodIn wsX9_moves (wsV RX9 79 RX9 yX9_sets wsX9_sets) := goodIn_app (goodIn_of _ (by decide +kernel)) ggX9_moves_X9_sets
theorem dX9_moves_0 : decode cX9_moves 0 = .ok (.aload_n 0, 1) := by decide +kernel
theorem dX9_moves_1 : decode cX9_moves 1 = .ok (.iload_n 1, 1) := by decide +kernel
theorem dX9_moves_2 : decode cX9_moves 2 = .ok (.invokevirtual 76, 3) := by decide +kernel
theorem dX9_moves_5 : decode cX9_moves 5 = .ok (.ifCond .ne 13, 3) := by decide +kernel
theorem dX9_moves_8 : decode cX9_moves 8 = .ok (.aload_n 0, 1) := by decide +kernel
theorem dX9_moves_9 : decode cX9_moves 9 = .ok (.sipush (-1011), 3) := by decide +kernel
theorem dX9_moves_12 : decode cX9_moves 12 = .ok (.invokevirtual 41, 3) := by decide +kernel
theorem dX9_moves_15 : decode cX9_moves 15 = .ok (.goto 30, 3) := by decide +kernel
theorem dX9_moves_18 : decode cX9_moves 18 = .ok (.iload_n 2, 1) := by decide +kernel
theorem dX9_moves_19 : decode cX9_moves 19 = .ok (.invokestatic 56, 3) := by decide +kernel
theorem dX9_moves_22 : decode cX9_moves 22 = .ok (.ifCond .eq 16, 3) := by decide +kernel
theorem dX9_moves_25 : decode cX9_moves 25 = .ok (.aload_n 0, 1) := by decide +kernel
theorem dX9_moves_26 : decode cX9_moves 26 = .ok (.iload_n 1, 1) := by decide +kernel
theorem dX9_moves_27 : decode cX9_moves 27 = .ok (.iconst 0, 1) := by decide +kernel
theorem dX9_moves_28 : decode cX9_moves 28 = .ok (.invokestatic 64, 3) := by decide +kernel
theorem dX9_moves_31 : decode cX9_moves 31 = .ok (.iload_n 2, 1) := by decide +kernel
theorem dX9_moves_32 : decode cX9_moves 32 = .ok (.invokevirtual 79, 3) := by decide +kernel
theorem dX9_moves_35 : decode cX9_moves 35 = .ok (.goto 10, 3) := by decide +kernel
theorem dX9_moves_38 : decode cX9_moves 38 = .ok (.aload_n 0, 1) := by decide +kernel
theorem dX9_moves_39 : decode cX9_moves 39 = .ok (.sipush (-1012), 3) := by decide +kernel
theorem dX9_moves_42 : decode cX9_moves 42 = .ok (.invokevirtual 41, 3) := by decide +kernel
theorem dX9_moves_45 : decode cX9_moves 45 = .ok (.ireturn, 1) := by decide +kernel
set_option maxRecDepth 20000 in
theorem ggX9_move_X9_begins : GoodIn wsX9_move wsX9_begins := goodIn_r _ [5, 6, 7, 8, 9, 10, 4, 11, 49, 50, 51, 52, 53, 54, 55, 56, 57, 58, 59, 60, 61, 62, 63, 64, 65, 66] (by decide +kernel) (by decide +kernel)
set_option maxRecDepth 20000 in
theorem gX9_move_X9_begins : GoodIn wsX9_move (wsV RX9 67 RX9 yX9_begins wsX9_begins) := goodIn_app (goodIn_of _ (by decide +kernel)) ggX9_move_X9_begins
set_option maxRecDepth 20000 in
theorem ggX9_move_X9_moves : GoodIn wsX9_move wsX9_moves := goodIn_r _ [15, 16, 17, 18, 4, 19, 8, 20, 21, 22, 23, 24, 25, 26, 6, 27, 28, 29, 30, 31, 32, 33, 34, 35, 36, 37, 38, 39, 40, 41, 42, 49, 50, 51, 52, 53, 54, 55, 56, 57, 58, 59, 60, 61, 62, 63, 64, 65, 66] (by decide +kernel) (by decide +kernel)
set_option maxRecDepth 20000 in
theorem gX9_move_X9_moves : GoodIn wsX9_move (wsV RX9 82 RX9 yX9_moves wsX9_moves) := goodIn_app (goodIn_of _ (by decide +kernel)) ggX9_move_X9_moves
set_option maxRecDepth 20000 in
theorem ggX9_move_X9_ends : GoodIn wsX9_move wsX9_ends := goodIn_r _ [46, 6, 8, 7, 47, 48, 9, 10, 4, 11, 49, 50, 51, 52, 53, 54, 55, 56, 57, 58, 59, 60, 61, 62, 63, 64, 65, 66] (by decide +kernel) (by decide +kernel)
set_option maxRecDepth 20000 in
theorem gX9_move_X9_ends : GoodIn wsX9_move (wsV RX9 73 RX9 yX9_ends wsX9_ends) := goodIn_app (goodIn_of _ (by decide +kernel)) ggX9_move_X9_ends
theorem dX9_move_0 : decode cX9_move 0 = .ok (.aload_n 0, 1) := by decide +kernel
theorem dX9_move_1 : decode cX9_move 1 = .ok (.invokevirtual 67, 3) := by decide +kernel
theorem dX9_move_4 : decode cX9_move 4 = .ok (.aload_n 0, 1) := by decide +kernel
theorem dX9_move_5 : decode cX9_move 5 = .ok (.aload_n 0, 1) := by decide +kernel
theorem dX9_move_6 : decode cX9_move 6 = .ok (.iload_n 1, 1) := by decide +kernel
theorem dX9_move_7 : decode cX9_move 7 = .ok (.iload_n 2, 1) := by decide +kernel
theorem dX9_move_8 : decode cX9_move 8 = .ok (.invokevirtual 82, 3) := by decide +kernel
theorem dX9_move_11 : decode cX9_move 11 = .ok (.invokevirtual 73, 3) := by decide +kernel
theorem dX9_move_14 : decode cX9_move 14 = .ok (.ireturn, 1) := by decide +kernel
set_option maxRecDepth 20000 in
theorem ggX9_switches_X9_isRope : GoodIn wsX9_switches wsX9_isRope := goodIn_r _ [6, 1, 7, 8, 5, 9, 28, 29, 30, 31, 32, 33, 34, 35, 36, 37, 38, 39, 40, 41, 42, 43, 44, 45] (by decide +kernel) (by decide +kernel)
set_option maxRecDepth 20000 in
theorem gX9_switches_X9_isRope : GoodIn wsX9_switches (wsV RX9 76 RX9 yX9_isRope wsX9_isRope) := goodIn_app (goodIn_of _ (by decide +kernel)) ggX9_switches_X9_isRope
set_option maxRecDepth 20000 in
theorem ggX9_switches_X9_fail : GoodIn wsX9_switches wsX9_fail := goodIn_r _ [13, 14, 28, 29, 30, 31, 32, 33, 34, 35, 36, 37, 38, 39, 40, 41, 42, 43, 44, 45] (by decide +kernel) (by decide +kernel)
set_option maxRecDepth 20000 in
theorem gX9_switches_X9_fail : GoodIn wsX9_switches (wsV RX9 41 RX9 yX9_fail wsX9_fail) := goodIn_app (goodIn_of _ (by decide +kernel)) ggX9_switches_X9_fail
set_option maxRecDepth 20000 in
theorem ggX9_switches_X9_isIn : GoodIn wsX9_switches wsX9_isIn := goodIn_r _ [9] (by decide +kernel) (by decide +kernel)
set_option maxRecDepth 20000 in
theorem gX9_switches_X9_isIn : GoodIn wsX9_switches (va_wsS RX9 52 yX9_isIn wsX9_isIn) := goodIn_app (goodIn_of _ (by decide +kernel)) ggX9_switches_X9_isIn
set_option maxRecDepth 20000 in
theorem ggX9_switches_X9_at : GoodIn wsX9_switches wsX9_at := goodIn_r _ [17] (by decide +kernel) (by decide +kernel)
set_option maxRecDepth 20000 in
theorem gX9_switches_X9_at : GoodIn wsX9_switches (va_wsS RX9 64 yX9_at wsX9_at) := goodIn_app (goodIn_of _ (by decide +kernel)) ggX9_switches_X9_at
set_option maxRecDepth 20000 in
theorem ggX9_switches_X9_sets : GoodIn wsX9_switches wsX9_sets := goodIn_r _ [21, 1, 22, 23, 24, 5, 25, 26, 27, 10, 11, 12, 13, 14, 28, 29, 30, 31, 32, 33, 34, 35, 36, 37, 38, 39, 40, 41, 42, 43, 44, 45] (by decide +kernel) (by decide +kernel)
set_option maxRecDepth 20000 in
theorem gX9_switches_X9_sets : GoodIn wsX9_switches (wsV RX9 79 RX9 yX9_sets wsX9_sets) := goodIn_app (goodIn_of _ (by decide +kernel)) ggX9_switches_X9_sets
theorem dX9_switches_0 : decode cX9_switches 0 = .ok (.aload_n 0, 1) := by decide +kernel
theorem dX9_switches_1 : decode cX9_switches 1 = .ok (.iload_n 1, 1) := by decide +kernel
theorem dX9_switches_2 : decode cX9_switches 2 = .ok (.invokevirtual 76, 3) := by decide +kernel
theorem dX9_switches_5 : decode cX9_switches 5 = .ok (.ifCond .ne 11, 3) := by decide +kernel
theorem dX9_switches_8 : decode cX9_switches 8 = .ok (.aload_n 0, 1) := by decide +kernel
theorem dX9_switches_9 : decode cX9_switches 9 = .ok (.sipush (-1011), 3) := by decide +kernel
theorem dX9_switches_12 : decode cX9_switches 12 = .ok (.invokevirtual 41, 3) := by decide +kernel
theorem dX9_switches_15 : decode cX9_switches 15 = .ok (.ireturn, 1) := by decide +kernel
theorem dX9_switches_16 : decode cX9_switches 16 = .ok (.iload_n 2, 1) := by decide +kernel
theorem dX9_switches_17 : decode cX9_switches 17 = .ok (.iconst 0, 1) := by decide +kernel
theorem dX9_switches_18 : decode cX9_switches 18 = .ok (.iconst 1, 1) := by decide +kernel
theorem dX9_switches_19 : decode cX9_switches 19 = .ok (.invokestatic 52, 3) := by decide +kernel
theorem dX9_switches_22 : decode cX9_switches 22 = .ok (.ifCond .ne 11, 3) := by decide +kernel
theorem dX9_switches_25 : decode cX9_switches 25 = .ok (.aload_n 0, 1) := by decide +kernel
theorem dX9_switches_26 : decode cX9_switches 26 = .ok (.sipush (-1012), 3) := by decide +kernel
theorem dX9_switches_29 : decode cX9_switches 29 = .ok (.invokevirtual 41, 3) := by decide +kernel
theorem dX9_switches_32 : decode cX9_switches 32 = .ok (.ireturn, 1) := by decide +kernel
theorem dX9_switches_33 : decode cX9_switches 33 = .ok (.aload_n 0, 1) := by decide +kernel
theorem dX9_switches_34 : decode cX9_switches 34 = .ok (.iload_n 1, 1) := by decide +kernel
theorem dX9_switches_35 : decode cX9_switches 35 = .ok (.iconst 1, 1) := by decide +kernel
theorem dX9_switches_36 : decode cX9_switches 36 = .ok (.invokestatic 64, 3) := by decide +kernel
theorem dX9_switches_39 : decode cX9_switches 39 = .ok (.iload_n 2, 1) := by decide +kernel
theorem dX9_switches_40 : decode cX9_switches 40 = .ok (.invokevirtual 79, 3) := by decide +kernel
theorem dX9_switches_43 : decode cX9_switches 43 = .ok (.istore_n 3, 1) := by decide +kernel
theorem dX9_switches_44 : decode cX9_switches 44 = .ok (.iconst 0, 1) := by decide +kernel
theorem dX9_switches_45 : decode cX9_switches 45 = .ok (.istore 4, 2) := by decide +kernel
theorem dX9_switches_47 : decode cX9_switches 47 = .ok (.iconst 0, 1) := by decide +kernel
theorem dX9_switches_48 : decode cX9_switches 48 = .ok (.istore 5, 2) := by decide +kernel
theorem dX9_switches_50 : decode cX9_switches 50 = .ok (.iload 5, 2) := by decide +kernel
theorem dX9_switches_52 : decode cX9_switches 52 = .ok (.aload_n 0, 1) := by decide +kernel
theorem dX9_switches_53 : decode cX9_switches 53 = .ok (.getfield 7, 3) := by decide +kernel
theorem dX9_switches_56 : decode cX9_switches 56 = .ok (.iconst 0, 1) := by decide +kernel
theorem dX9_switches_57 : decode cX9_switches 57 = .ok (.iaload, 1) := by decide +kernel
theorem dX9_switches_58 : decode cX9_switches 58 = .ok (.if_icmp .ge 25, 3) := by decide +kernel
theorem dX9_switches_61 : decode cX9_switches 61 = .ok (.iload 4, 2) := by decide +kernel
theorem dX9_switches_63 : decode cX9_switches 63 = .ok (.aload_n 0, 1) := by decide +kernel
theorem dX9_switches_64 : decode cX9_switches 64 = .ok (.getfield 7, 3) := by decide +kernel
theorem dX9_switches_67 : decode cX9_switches 67 = .ok (.iload 5, 2) := by decide +kernel
theorem dX9_switches_69 : decode cX9_switches 69 = .ok (.iconst 1, 1) := by decide +kernel
theorem dX9_switches_70 : decode cX9_switches 70 = .ok (.invokestatic 64, 3) := by decide +kernel
theorem dX9_switches_73 : decode cX9_switches 73 = .ok (.iaload, 1) := by decide +kernel
theorem dX9_switches_74 : decode cX9_switches 74 = .ok (.iadd, 1) := by decide +kernel
theorem dX9_switches_75 : decode cX9_switches 75 = .ok (.istore 4, 2) := by decide +kernel
theorem dX9_switches_77 : decode cX9_switches 77 = .ok (.iinc 5 1, 3) := by decide +kernel
theorem dX9_switches_80 : decode cX9_switches 80 = .ok (.goto (-30), 3) := by decide +kernel
theorem dX9_switches_83 : decode cX9_switches 83 = .ok (.iload 4, 2) := by decide +kernel
theorem dX9_switches_85 : decode cX9_switches 85 = .ok (.ireturn, 1) := by decide +kernel
set_option maxRecDepth 20000 in
theorem ggX9_sensor_X9_begins : GoodIn wsX9_sensor wsX9_begins := goodIn_r _ [5, 6, 7, 8, 9, 10, 4, 11, 46, 47, 48, 49, 50, 51, 52, 53, 54, 55, 56, 57, 58, 59, 60, 61, 62, 63] (by decide +kernel) (by decide +kernel)
set_option maxRecDepth 20000 in
theorem gX9_sensor_X9_begins : GoodIn wsX9_sensor (wsV RX9 67 RX9 yX9_begins wsX9_begins) := goodIn_app (goodIn_of _ (by decide +kernel)) ggX9_sensor_X9_begins
set_option maxRecDepth 20000 in
theorem ggX9_sensor_X9_switches : GoodIn wsX9_sensor wsX9_switches := goodIn_r _ [15, 8, 16, 17, 18, 4, 19, 20, 21, 22, 23, 24, 25, 26, 6, 27, 28, 29, 30, 31, 32, 33, 34, 35, 36, 37, 38, 39, 46, 47, 48, 49, 50, 51, 52, 53, 54, 55, 56, 57, 58, 59, 60, 61, 62, 63] (by decide +kernel) (by decide +kernel)
set_option maxRecDepth 20000 in
theorem gX9_sensor_X9_switches : GoodIn wsX9_sensor (wsV RX9 85 RX9 yX9_switches wsX9_switches) := goodIn_app (goodIn_of _ (by decide +kernel)) ggX9_sensor_X9_switches
set_option maxRecDepth 20000 in
theorem ggX9_sensor_X9_ends : GoodIn wsX9_sensor wsX9_ends := goodIn_r _ [43, 6, 8, 7, 44, 45, 9, 10, 4, 11, 46, 47, 48, 49, 50, 51, 52, 53, 54, 55, 56, 57, 58, 59, 60, 61, 62, 63] (by decide +kernel) (by decide +kernel)
set_option maxRecDepth 20000 in
theorem gX9_sensor_X9_ends : GoodIn wsX9_sensor (wsV RX9 73 RX9 yX9_ends wsX9_ends) := goodIn_app (goodIn_of _ (by decide +kernel)) ggX9_sensor_X9_ends
theorem dX9_sensor_0 : decode cX9_sensor 0 = .ok (.aload_n 0, 1) := by decide +kernel
theorem dX9_sensor_1 : decode cX9_sensor 1 = .ok (.invokevirtual 67, 3) := by decide +kernel
theorem dX9_sensor_4 : decode cX9_sensor 4 = .ok (.aload_n 0, 1) := by decide +kernel
theorem dX9_sensor_5 : decode cX9_sensor 5 = .ok (.aload_n 0, 1) := by decide +kernel
theorem dX9_sensor_6 : decode cX9_sensor 6 = .ok (.iload_n 1, 1) := by decide +kernel
theorem dX9_sensor_7 : decode cX9_sensor 7 = .ok (.iload_n 2, 1) := by decide +kernel
theorem dX9_sensor_8 : decode cX9_sensor 8 = .ok (.invokevirtual 85, 3) := by decide +kernel
theorem dX9_sensor_11 : decode cX9_sensor 11 = .ok (.invokevirtual 73, 3) := by decide +kernel
theorem dX9_sensor_14 : decode cX9_sensor 14 = .ok (.ireturn, 1) := by decide +kernel
set_option maxRecDepth 20000 in
theorem ggX9_oils_X9_isRope : GoodIn wsX9_oils wsX9_isRope := goodIn_r _ [6, 1, 7, 8, 5, 9, 24, 25, 26, 27, 28, 29, 30, 31, 32, 33, 34, 35, 36, 37, 38, 39, 40, 41] (by decide +kernel) (by decide +kernel)
set_option maxRecDepth 20000 in
theorem gX9_oils_X9_isRope : GoodIn wsX9_oils (wsV RX9 76 RX9 yX9_isRope wsX9_isRope) := goodIn_app (goodIn_of _ (by decide +kernel)) ggX9_oils_X9_isRope
set_option maxRecDepth 20000 in
theorem ggX9_oils_X9_fail : GoodIn wsX9_oils wsX9_fail := goodIn_r _ [13, 14, 24, 25, 26, 27, 28, 29, 30, 31, 32, 33, 34, 35, 36, 37, 38, 39, 40, 41] (by decide +kernel) (by decide +kernel)
set_option maxRecDepth 20000 in
theorem gX9_oils_X9_fail : GoodIn wsX9_oils (wsV RX9 41 RX9 yX9_fail wsX9_fail) := goodIn_app (goodIn_of _ (by decide +kernel)) ggX9_oils_X9_fail
set_option maxRecDepth 20000 in
theorem ggX9_oils_X9_isIn : GoodIn wsX9_oils wsX9_isIn := goodIn_r _ [9] (by decide +kernel) (by decide +kernel)
set_option maxRecDepth 20000 in
theorem gX9_oils_X9_isIn : GoodIn wsX9_oils (va_wsS RX9 52 yX9_isIn wsX9_isIn) := goodIn_app (goodIn_of _ (by decide +kernel)) ggX9_oils_X9_isIn
set_option maxRecDepth 20000 in
theorem ggX9_oils_X9_at : GoodIn wsX9_oils wsX9_at := goodIn_r _ [17] (by decide +kernel) (by decide +kernel)
set_option maxRecDepth 20000 in
theorem gX9_oils_X9_at : GoodIn wsX9_oils (va_wsS RX9 64 yX9_at wsX9_at) := goodIn_app (goodIn_of _ (by decide +kernel)) ggX9_oils_X9_at
set_option maxRecDepth 20000 in
theorem ggX9_oils_X9_refuses : GoodIn wsX9_oils wsX9_refuses := goodIn_r _ [21, 22, 23, 10, 11, 12, 5, 13, 14, 24, 25, 26, 27, 28, 29, 30, 31, 32, 33, 34, 35, 36, 37, 38, 39, 40, 41] (by decide +kernel) (by decide +kernel)
set_option maxRecDepth 20000 in
theorem gX9_oils_X9_refuses : GoodIn wsX9_oils (wsV RX9 60 RX9 yX9_refuses wsX9_refuses) := goodIn_app (goodIn_of _ (by decide +kernel)) ggX9_oils_X9_refuses
theorem dX9_oils_0 : decode cX9_oils 0 = .ok (.aload_n 0, 1) := by decide +kernel
theorem dX9_oils_1 : decode cX9_oils 1 = .ok (.iload_n 1, 1) := by decide +kernel
theorem dX9_oils_2 : decode cX9_oils 2 = .ok (.invokevirtual 76, 3) := by decide +kernel
theorem dX9_oils_5 : decode cX9_oils 5 = .ok (.ifCond .ne 11, 3) := by decide +kernel
theorem dX9_oils_8 : decode cX9_oils 8 = .ok (.aload_n 0, 1) := by decide +kernel
theorem dX9_oils_9 : decode cX9_oils 9 = .ok (.sipush (-1011), 3) := by decide +kernel
theorem dX9_oils_12 : decode cX9_oils 12 = .ok (.invokevirtual 41, 3) := by decide +kernel
theorem dX9_oils_15 : decode cX9_oils 15 = .ok (.ireturn, 1) := by decide +kernel
theorem dX9_oils_16 : decode cX9_oils 16 = .ok (.iload_n 2, 1) := by decide +kernel
theorem dX9_oils_17 : decode cX9_oils 17 = .ok (.iconst 1, 1) := by decide +kernel
theorem dX9_oils_18 : decode cX9_oils 18 = .ok (.bipush 9, 2) := by decide +kernel
theorem dX9_oils_20 : decode cX9_oils 20 = .ok (.invokestatic 52, 3) := by decide +kernel
theorem dX9_oils_23 : decode cX9_oils 23 = .ok (.ifCond .ne 11, 3) := by decide +kernel
theorem dX9_oils_26 : decode cX9_oils 26 = .ok (.aload_n 0, 1) := by decide +kernel
theorem dX9_oils_27 : decode cX9_oils 27 = .ok (.sipush (-1012), 3) := by decide +kernel
theorem dX9_oils_30 : decode cX9_oils 30 = .ok (.invokevirtual 41, 3) := by decide +kernel
theorem dX9_oils_33 : decode cX9_oils 33 = .ok (.ireturn, 1) := by decide +kernel
theorem dX9_oils_34 : decode cX9_oils 34 = .ok (.aload_n 0, 1) := by decide +kernel
theorem dX9_oils_35 : decode cX9_oils 35 = .ok (.getfield 7, 3) := by decide +kernel
theorem dX9_oils_38 : decode cX9_oils 38 = .ok (.iload_n 1, 1) := by decide +kernel
theorem dX9_oils_39 : decode cX9_oils 39 = .ok (.iconst 2, 1) := by decide +kernel
theorem dX9_oils_40 : decode cX9_oils 40 = .ok (.invokestatic 64, 3) := by decide +kernel
theorem dX9_oils_43 : decode cX9_oils 43 = .ok (.iaload, 1) := by decide +kernel
theorem dX9_oils_44 : decode cX9_oils 44 = .ok (.istore_n 3, 1) := by decide +kernel
theorem dX9_oils_45 : decode cX9_oils 45 = .ok (.iload_n 3, 1) := by decide +kernel
theorem dX9_oils_46 : decode cX9_oils 46 = .ok (.iload_n 2, 1) := by decide +kernel
theorem dX9_oils_47 : decode cX9_oils 47 = .ok (.if_icmp .ge 10, 3) := by decide +kernel
theorem dX9_oils_50 : decode cX9_oils 50 = .ok (.aload_n 0, 1) := by decide +kernel
theorem dX9_oils_51 : decode cX9_oils 51 = .ok (.iconst 5, 1) := by decide +kernel
theorem dX9_oils_52 : decode cX9_oils 52 = .ok (.iload_n 3, 1) := by decide +kernel
theorem dX9_oils_53 : decode cX9_oils 53 = .ok (.invokevirtual 60, 3) := by decide +kernel
theorem dX9_oils_56 : decode cX9_oils 56 = .ok (.ireturn, 1) := by decide +kernel
theorem dX9_oils_57 : decode cX9_oils 57 = .ok (.aload_n 0, 1) := by decide +kernel
theorem dX9_oils_58 : decode cX9_oils 58 = .ok (.getfield 7, 3) := by decide +kernel
theorem dX9_oils_61 : decode cX9_oils 61 = .ok (.iload_n 1, 1) := by decide +kernel
theorem dX9_oils_62 : decode cX9_oils 62 = .ok (.iconst 2, 1) := by decide +kernel
theorem dX9_oils_63 : decode cX9_oils 63 = .ok (.invokestatic 64, 3) := by decide +kernel
theorem dX9_oils_66 : decode cX9_oils 66 = .ok (.dup2, 1) := by decide +kernel
theorem dX9_oils_67 : decode cX9_oils 67 = .ok (.iaload, 1) := by decide +kernel
theorem dX9_oils_68 : decode cX9_oils 68 = .ok (.iload_n 2, 1) := by decide +kernel
theorem dX9_oils_69 : decode cX9_oils 69 = .ok (.isub, 1) := by decide +kernel
theorem dX9_oils_70 : decode cX9_oils 70 = .ok (.iastore, 1) := by decide +kernel
theorem dX9_oils_71 : decode cX9_oils 71 = .ok (.iload_n 3, 1) := by decide +kernel
theorem dX9_oils_72 : decode cX9_oils 72 = .ok (.iload_n 2, 1) := by decide +kernel
theorem dX9_oils_73 : decode cX9_oils 73 = .ok (.isub, 1) := by decide +kernel
theorem dX9_oils_74 : decode cX9_oils 74 = .ok (.ireturn, 1) := by decide +kernel
set_option maxRecDepth 20000 in
theorem ggX9_oil_X9_begins : GoodIn wsX9_oil wsX9_begins := goodIn_r _ [5, 6, 7, 8, 9, 10, 4, 11, 42, 43, 44, 45, 46, 47, 48, 49, 50, 51, 52, 53, 54, 55, 56, 57, 58, 59] (by decide +kernel) (by decide +kernel)
set_option maxRecDepth 20000 in
theorem gX9_oil_X9_begins : GoodIn wsX9_oil (wsV RX9 67 RX9 yX9_begins wsX9_begins) := goodIn_app (goodIn_of _ (by decide +kernel)) ggX9_oil_X9_begins
set_option maxRecDepth 20000 in
theorem ggX9_oil_X9_oils : GoodIn wsX9_oil wsX9_oils := goodIn_r _ [15, 8, 16, 17, 18, 4, 19, 20, 21, 22, 23, 24, 25, 26, 6, 27, 28, 29, 30, 31, 32, 33, 34, 35, 42, 43, 44, 45, 46, 47, 48, 49, 50, 51, 52, 53, 54, 55, 56, 57, 58, 59] (by decide +kernel) (by decide +kernel)
set_option maxRecDepth 20000 in
theorem gX9_oil_X9_oils : GoodIn wsX9_oil (wsV RX9 88 RX9 yX9_oils wsX9_oils) := goodIn_app (goodIn_of _ (by decide +kernel)) ggX9_oil_X9_oils
set_option maxRecDepth 20000 in
theorem ggX9_oil_X9_ends : GoodIn wsX9_oil wsX9_ends := goodIn_r _ [39, 6, 8, 7, 40, 41, 9, 10, 4, 11, 42, 43, 44, 45, 46, 47, 48, 49, 50, 51, 52, 53, 54, 55, 56, 57, 58, 59] (by decide +kernel) (by decide +kernel)
set_option maxRecDepth 20000 in
theorem gX9_oil_X9_ends : GoodIn wsX9_oil (wsV RX9 73 RX9 yX9_ends wsX9_ends) := goodIn_app (goodIn_of _ (by decide +kernel)) ggX9_oil_X9_ends
theorem dX9_oil_0 : decode cX9_oil 0 = .ok (.aload_n 0, 1) := by decide +kernel
theorem dX9_oil_1 : decode cX9_oil 1 = .ok (.invokevirtual 67, 3) := by decide +kernel
theorem dX9_oil_4 : decode cX9_oil 4 = .ok (.aload_n 0, 1) := by decide +kernel
theorem dX9_oil_5 : decode cX9_oil 5 = .ok (.aload_n 0, 1) := by decide +kernel
theorem dX9_oil_6 : decode cX9_oil 6 = .ok (.iload_n 1, 1) := by decide +kernel
theorem dX9_oil_7 : decode cX9_oil 7 = .ok (.iload_n 2, 1) := by decide +kernel
theorem dX9_oil_8 : decode cX9_oil 8 = .ok (.invokevirtual 88, 3) := by decide +kernel
theorem dX9_oil_11 : decode cX9_oil 11 = .ok (.invokevirtual 73, 3) := by decide +kernel
theorem dX9_oil_14 : decode cX9_oil 14 = .ok (.ireturn, 1) := by decide +kernel
set_option maxRecDepth 20000 in
theorem ggX9_waitingOf_X9_pulled : GoodIn wsX9_waitingOf wsX9_pulled := goodIn_r _ [6, 1, 7, 8, 9, 10, 11, 12, 13, 14, 15, 16, 17, 18, 19, 20, 21, 22, 23, 24] (by decide +kernel) (by decide +kernel)
set_option maxRecDepth 20000 in
theorem gX9_waitingOf_X9_pulled : GoodIn wsX9_waitingOf (wsV RX9 91 RX9 yX9_pulled wsX9_pulled) := goodIn_app (goodIn_of _ (by decide +kernel)) ggX9_waitingOf_X9_pulled
theorem dX9_waitingOf_0 : decode cX9_waitingOf 0 = .ok (.iconst 0, 1) := by decide +kernel
theorem dX9_waitingOf_1 : decode cX9_waitingOf 1 = .ok (.istore_n 2, 1) := by decide +kernel
theorem dX9_waitingOf_2 : decode cX9_waitingOf 2 = .ok (.iconst 0, 1) := by decide +kernel
theorem dX9_waitingOf_3 : decode cX9_waitingOf 3 = .ok (.istore_n 3, 1) := by decide +kernel
theorem dX9_waitingOf_4 : decode cX9_waitingOf 4 = .ok (.iload_n 3, 1) := by decide +kernel
theorem dX9_waitingOf_5 : decode cX9_waitingOf 5 = .ok (.aload_n 0, 1) := by decide +kernel
theorem dX9_waitingOf_6 : decode cX9_waitingOf 6 = .ok (.getfield 7, 3) := by decide +kernel
theorem dX9_waitingOf_9 : decode cX9_waitingOf 9 = .ok (.iconst 1, 1) := by decide +kernel
theorem dX9_waitingOf_10 : decode cX9_waitingOf 10 = .ok (.iaload, 1) := by decide +kernel
theorem dX9_waitingOf_11 : decode cX9_waitingOf 11 = .ok (.if_icmp .ge 27, 3) := by decide +kernel
theorem dX9_waitingOf_14 : decode cX9_waitingOf 14 = .ok (.iload_n 2, 1) := by decide +kernel
theorem dX9_waitingOf_15 : decode cX9_waitingOf 15 = .ok (.aload_n 0, 1) := by decide +kernel
theorem dX9_waitingOf_16 : decode cX9_waitingOf 16 = .ok (.iload_n 3, 1) := by decide +kernel
theorem dX9_waitingOf_17 : decode cX9_waitingOf 17 = .ok (.iconst 0, 1) := by decide +kernel
theorem dX9_waitingOf_18 : decode cX9_waitingOf 18 = .ok (.invokevirtual 91, 3) := by decide +kernel
theorem dX9_waitingOf_21 : decode cX9_waitingOf 21 = .ok (.iload_n 1, 1) := by decide +kernel
theorem dX9_waitingOf_22 : decode cX9_waitingOf 22 = .ok (.if_icmp .ne 7, 3) := by decide +kernel
theorem dX9_waitingOf_25 : decode cX9_waitingOf 25 = .ok (.iconst 1, 1) := by decide +kernel
theorem dX9_waitingOf_26 : decode cX9_waitingOf 26 = .ok (.goto 4, 3) := by decide +kernel
theorem dX9_waitingOf_29 : decode cX9_waitingOf 29 = .ok (.iconst 0, 1) := by decide +kernel
theorem dX9_waitingOf_30 : decode cX9_waitingOf 30 = .ok (.iadd, 1) := by decide +kernel
theorem dX9_waitingOf_31 : decode cX9_waitingOf 31 = .ok (.istore_n 2, 1) := by decide +kernel
theorem dX9_waitingOf_32 : decode cX9_waitingOf 32 = .ok (.iinc 3 1, 3) := by decide +kernel
theorem dX9_waitingOf_35 : decode cX9_waitingOf 35 = .ok (.goto (-31), 3) := by decide +kernel
theorem dX9_waitingOf_38 : decode cX9_waitingOf 38 = .ok (.iload_n 2, 1) := by decide +kernel
theorem dX9_waitingOf_39 : decode cX9_waitingOf 39 = .ok (.ireturn, 1) := by decide +kernel
set_option maxRecDepth 20000 in
theorem ggX9_ropeOf_X9_isRope : GoodIn wsX9_ropeOf wsX9_isRope := goodIn_r _ [6, 1, 7, 8, 5, 9, 21, 22, 23, 24, 25, 26, 27, 28, 29, 30, 31, 32, 33, 34, 35, 36, 37, 38] (by decide +kernel) (by decide +kernel)
set_option maxRecDepth 20000 in
theorem gX9_ropeOf_X9_isRope : GoodIn wsX9_ropeOf (wsV RX9 76 RX9 yX9_isRope wsX9_isRope) := goodIn_app (goodIn_of _ (by decide +kernel)) ggX9_ropeOf_X9_isRope
set_option maxRecDepth 20000 in
theorem ggX9_ropeOf_X9_isIn : GoodIn wsX9_ropeOf wsX9_isIn := goodIn_r _ [9] (by decide +kernel) (by decide +kernel)
set_option maxRecDepth 20000 in
theorem gX9_ropeOf_X9_isIn : GoodIn wsX9_ropeOf (va_wsS RX9 52 yX9_isIn wsX9_isIn) := goodIn_app (goodIn_of _ (by decide +kernel)) ggX9_ropeOf_X9_isIn
set_option maxRecDepth 20000 in
theorem ggX9_ropeOf_X9_at : GoodIn wsX9_ropeOf wsX9_at := goodIn_r _ [12] (by decide +kernel) (by decide +kernel)
set_option maxRecDepth 20000 in
theorem gX9_ropeOf_X9_at : GoodIn wsX9_ropeOf (va_wsS RX9 64 yX9_at wsX9_at) := goodIn_app (goodIn_of _ (by decide +kernel)) ggX9_ropeOf_X9_at
set_option maxRecDepth 20000 in
theorem ggX9_ropeOf_X9_waitingOf : GoodIn wsX9_ropeOf wsX9_waitingOf := goodIn_r _ [16, 1, 17, 18, 19, 5, 20, 21, 22, 23, 24, 25, 26, 27, 28, 29, 30, 31, 32, 33, 34, 35, 36, 37, 38] (by decide +kernel) (by decide +kernel)
set_option maxRecDepth 20000 in
theorem gX9_ropeOf_X9_waitingOf : GoodIn wsX9_ropeOf (wsV RX9 94 RX9 yX9_waitingOf wsX9_waitingOf) := goodIn_app (goodIn_of _ (by decide +kernel)) ggX9_ropeOf_X9_waitingOf
theorem dX9_ropeOf_0 : decode cX9_ropeOf 0 = .ok (.aload_n 0, 1) := by decide +kernel
theorem dX9_ropeOf_1 : decode cX9_ropeOf 1 = .ok (.iload_n 1, 1) := by decide +kernel
theorem dX9_ropeOf_2 : decode cX9_ropeOf 2 = .ok (.invokevirtual 76, 3) := by decide +kernel
theorem dX9_ropeOf_5 : decode cX9_ropeOf 5 = .ok (.ifCond .ne 7, 3) := by decide +kernel
theorem dX9_ropeOf_8 : decode cX9_ropeOf 8 = .ok (.sipush (-1011), 3) := by decide +kernel
theorem dX9_ropeOf_11 : decode cX9_ropeOf 11 = .ok (.ireturn, 1) := by decide +kernel
theorem dX9_ropeOf_12 : decode cX9_ropeOf 12 = .ok (.iload_n 2, 1) := by decide +kernel
theorem dX9_ropeOf_13 : decode cX9_ropeOf 13 = .ok (.iconst 0, 1) := by decide +kernel
theorem dX9_ropeOf_14 : decode cX9_ropeOf 14 = .ok (.iconst 5, 1) := by decide +kernel
theorem dX9_ropeOf_15 : decode cX9_ropeOf 15 = .ok (.invokestatic 52, 3) := by decide +kernel
theorem dX9_ropeOf_18 : decode cX9_ropeOf 18 = .ok (.ifCond .eq 16, 3) := by decide +kernel
theorem dX9_ropeOf_21 : decode cX9_ropeOf 21 = .ok (.aload_n 0, 1) := by decide +kernel
theorem dX9_ropeOf_22 : decode cX9_ropeOf 22 = .ok (.getfield 7, 3) := by decide +kernel
theorem dX9_ropeOf_25 : decode cX9_ropeOf 25 = .ok (.iload_n 1, 1) := by decide +kernel
theorem dX9_ropeOf_26 : decode cX9_ropeOf 26 = .ok (.iload_n 2, 1) := by decide +kernel
theorem dX9_ropeOf_27 : decode cX9_ropeOf 27 = .ok (.invokestatic 64, 3) := by decide +kernel
theorem dX9_ropeOf_30 : decode cX9_ropeOf 30 = .ok (.iaload, 1) := by decide +kernel
theorem dX9_ropeOf_31 : decode cX9_ropeOf 31 = .ok (.goto 20, 3) := by decide +kernel
theorem dX9_ropeOf_34 : decode cX9_ropeOf 34 = .ok (.iload_n 2, 1) := by decide +kernel
theorem dX9_ropeOf_35 : decode cX9_ropeOf 35 = .ok (.bipush 6, 2) := by decide +kernel
theorem dX9_ropeOf_37 : decode cX9_ropeOf 37 = .ok (.if_icmp .ne 11, 3) := by decide +kernel
theorem dX9_ropeOf_40 : decode cX9_ropeOf 40 = .ok (.aload_n 0, 1) := by decide +kernel
theorem dX9_ropeOf_41 : decode cX9_ropeOf 41 = .ok (.iload_n 1, 1) := by decide +kernel
theorem dX9_ropeOf_42 : decode cX9_ropeOf 42 = .ok (.invokevirtual 94, 3) := by decide +kernel
theorem dX9_ropeOf_45 : decode cX9_ropeOf 45 = .ok (.goto 6, 3) := by decide +kernel
theorem dX9_ropeOf_48 : decode cX9_ropeOf 48 = .ok (.sipush (-1012), 3) := by decide +kernel
theorem dX9_ropeOf_51 : decode cX9_ropeOf 51 = .ok (.ireturn, 1) := by decide +kernel
set_option maxRecDepth 20000 in
theorem ggX9_isAhead_X9_pulled : GoodIn wsX9_isAhead wsX9_pulled := goodIn_r _ [5, 6, 7, 8, 9, 10, 11, 12, 13, 14, 15, 16, 17, 18, 19, 20, 21, 22, 23, 24] (by decide +kernel) (by decide +kernel)
set_option maxRecDepth 20000 in
theorem gX9_isAhead_X9_pulled : GoodIn wsX9_isAhead (wsV RX9 91 RX9 yX9_pulled wsX9_pulled) := goodIn_app (goodIn_of _ (by decide +kernel)) ggX9_isAhead_X9_pulled
theorem dX9_isAhead_0 : decode cX9_isAhead 0 = .ok (.aload_n 0, 1) := by decide +kernel
theorem dX9_isAhead_1 : decode cX9_isAhead 1 = .ok (.iload_n 1, 1) := by decide +kernel
theorem dX9_isAhead_2 : decode cX9_isAhead 2 = .ok (.iconst 1, 1) := by decide +kernel
theorem dX9_isAhead_3 : decode cX9_isAhead 3 = .ok (.invokevirtual 91, 3) := by decide +kernel
theorem dX9_isAhead_6 : decode cX9_isAhead 6 = .ok (.iload_n 3, 1) := by decide +kernel
theorem dX9_isAhead_7 : decode cX9_isAhead 7 = .ok (.isub, 1) := by decide +kernel
theorem dX9_isAhead_8 : decode cX9_isAhead 8 = .ok (.istore 5, 2) := by decide +kernel
theorem dX9_isAhead_10 : decode cX9_isAhead 10 = .ok (.iload 5, 2) := by decide +kernel
theorem dX9_isAhead_12 : decode cX9_isAhead 12 = .ok (.ifCond .eq 8, 3) := by decide +kernel
theorem dX9_isAhead_15 : decode cX9_isAhead 15 = .ok (.iload 5, 2) := by decide +kernel
theorem dX9_isAhead_17 : decode cX9_isAhead 17 = .ok (.goto 12, 3) := by decide +kernel
theorem dX9_isAhead_20 : decode cX9_isAhead 20 = .ok (.iload 4, 2) := by decide +kernel
theorem dX9_isAhead_22 : decode cX9_isAhead 22 = .ok (.aload_n 0, 1) := by decide +kernel
theorem dX9_isAhead_23 : decode cX9_isAhead 23 = .ok (.iload_n 1, 1) := by decide +kernel
theorem dX9_isAhead_24 : decode cX9_isAhead 24 = .ok (.iconst 2, 1) := by decide +kernel
theorem dX9_isAhead_25 : decode cX9_isAhead 25 = .ok (.invokevirtual 91, 3) := by decide +kernel
theorem dX9_isAhead_28 : decode cX9_isAhead 28 = .ok (.isub, 1) := by decide +kernel
theorem dX9_isAhead_29 : decode cX9_isAhead 29 = .ok (.istore 5, 2) := by decide +kernel
theorem dX9_isAhead_31 : decode cX9_isAhead 31 = .ok (.iload 5, 2) := by decide +kernel
theorem dX9_isAhead_33 : decode cX9_isAhead 33 = .ok (.ifCond .eq 8, 3) := by decide +kernel
theorem dX9_isAhead_36 : decode cX9_isAhead 36 = .ok (.iload 5, 2) := by decide +kernel
theorem dX9_isAhead_38 : decode cX9_isAhead 38 = .ok (.goto 11, 3) := by decide +kernel
theorem dX9_isAhead_41 : decode cX9_isAhead 41 = .ok (.aload_n 0, 1) := by decide +kernel
theorem dX9_isAhead_42 : decode cX9_isAhead 42 = .ok (.iload_n 1, 1) := by decide +kernel
theorem dX9_isAhead_43 : decode cX9_isAhead 43 = .ok (.iconst 0, 1) := by decide +kernel
theorem dX9_isAhead_44 : decode cX9_isAhead 44 = .ok (.invokevirtual 91, 3) := by decide +kernel
theorem dX9_isAhead_47 : decode cX9_isAhead 47 = .ok (.iload_n 2, 1) := by decide +kernel
theorem dX9_isAhead_48 : decode cX9_isAhead 48 = .ok (.isub, 1) := by decide +kernel
theorem dX9_isAhead_49 : decode cX9_isAhead 49 = .ok (.istore 5, 2) := by decide +kernel
theorem dX9_isAhead_51 : decode cX9_isAhead 51 = .ok (.iload 5, 2) := by decide +kernel
theorem dX9_isAhead_53 : decode cX9_isAhead 53 = .ok (.ifCond .gt 7, 3) := by decide +kernel
theorem dX9_isAhead_56 : decode cX9_isAhead 56 = .ok (.iconst 1, 1) := by decide +kernel
theorem dX9_isAhead_57 : decode cX9_isAhead 57 = .ok (.goto 4, 3) := by decide +kernel
theorem dX9_isAhead_60 : decode cX9_isAhead 60 = .ok (.iconst 0, 1) := by decide +kernel
theorem dX9_isAhead_61 : decode cX9_isAhead 61 = .ok (.ireturn, 1) := by decide +kernel
set_option maxRecDepth 20000 in
theorem ggX9_waits_X9_isRope : GoodIn wsX9_waits wsX9_isRope := goodIn_r _ [6, 1, 7, 8, 5, 9, 29, 30, 31, 32, 33, 34, 35, 36, 37, 38, 39, 40, 41, 42, 43, 44, 45, 46] (by decide +kernel) (by decide +kernel)
set_option maxRecDepth 20000 in
theorem gX9_waits_X9_isRope : GoodIn wsX9_waits (wsV RX9 76 RX9 yX9_isRope wsX9_isRope) := goodIn_app (goodIn_of _ (by decide +kernel)) ggX9_waits_X9_isRope
set_option maxRecDepth 20000 in
theorem ggX9_waits_X9_fail : GoodIn wsX9_waits wsX9_fail := goodIn_r _ [13, 14, 29, 30, 31, 32, 33, 34, 35, 36, 37, 38, 39, 40, 41, 42, 43, 44, 45, 46] (by decide +kernel) (by decide +kernel)
set_option maxRecDepth 20000 in
theorem gX9_waits_X9_fail : GoodIn wsX9_waits (wsV RX9 41 RX9 yX9_fail wsX9_fail) := goodIn_app (goodIn_of _ (by decide +kernel)) ggX9_waits_X9_fail
set_option maxRecDepth 20000 in
theorem ggX9_waits_X9_isIn : GoodIn wsX9_waits wsX9_isIn := goodIn_r _ [9] (by decide +kernel) (by decide +kernel)
set_option maxRecDepth 20000 in
theorem gX9_waits_X9_isIn : GoodIn wsX9_waits (va_wsS RX9 52 yX9_isIn wsX9_isIn) := goodIn_app (goodIn_of _ (by decide +kernel)) ggX9_waits_X9_isIn
set_option maxRecDepth 20000 in
theorem ggX9_waits_X9_refuses : GoodIn wsX9_waits wsX9_refuses := goodIn_r _ [18, 19, 20, 10, 11, 12, 5, 13, 14, 29, 30, 31, 32, 33, 34, 35, 36, 37, 38, 39, 40, 41, 42, 43, 44, 45, 46] (by decide +kernel) (by decide +kernel)
set_option maxRecDepth 20000 in
theorem gX9_waits_X9_refuses : GoodIn wsX9_waits (wsV RX9 60 RX9 yX9_refuses wsX9_refuses) := goodIn_app (goodIn_of _ (by decide +kernel)) ggX9_waits_X9_refuses
set_option maxRecDepth 20000 in
theorem ggX9_waits_X9_isAhead : GoodIn wsX9_waits wsX9_isAhead := goodIn_r _ [24, 25, 26, 27, 5, 28, 1, 29, 30, 31, 32, 33, 34, 35, 36, 37, 38, 39, 40, 41, 42, 43, 44, 45, 46] (by decide +kernel) (by decide +kernel)
set_option maxRecDepth 20000 in
theorem gX9_waits_X9_isAhead : GoodIn wsX9_waits (wsV RX9 97 RX9 yX9_isAhead wsX9_isAhead) := goodIn_app (goodIn_of _ (by decide +kernel)) ggX9_waits_X9_isAhead
theorem dX9_waits_0 : decode cX9_waits 0 = .ok (.aload_n 0, 1) := by decide +kernel
theorem dX9_waits_1 : decode cX9_waits 1 = .ok (.iload_n 1, 1) := by decide +kernel
theorem dX9_waits_2 : decode cX9_waits 2 = .ok (.invokevirtual 76, 3) := by decide +kernel
theorem dX9_waits_5 : decode cX9_waits 5 = .ok (.ifCond .ne 11, 3) := by decide +kernel
theorem dX9_waits_8 : decode cX9_waits 8 = .ok (.aload_n 0, 1) := by decide +kernel
theorem dX9_waits_9 : decode cX9_waits 9 = .ok (.sipush (-1011), 3) := by decide +kernel
theorem dX9_waits_12 : decode cX9_waits 12 = .ok (.invokevirtual 41, 3) := by decide +kernel
theorem dX9_waits_15 : decode cX9_waits 15 = .ok (.ireturn, 1) := by decide +kernel
theorem dX9_waits_16 : decode cX9_waits 16 = .ok (.iload_n 2, 1) := by decide +kernel
theorem dX9_waits_17 : decode cX9_waits 17 = .ok (.iconst 0, 1) := by decide +kernel
theorem dX9_waits_18 : decode cX9_waits 18 = .ok (.bipush 23, 2) := by decide +kernel
theorem dX9_waits_20 : decode cX9_waits 20 = .ok (.invokestatic 52, 3) := by decide +kernel
theorem dX9_waits_23 : decode cX9_waits 23 = .ok (.ifCond .eq 13, 3) := by decide +kernel
theorem dX9_waits_26 : decode cX9_waits 26 = .ok (.iload_n 3, 1) := by decide +kernel
theorem dX9_waits_27 : decode cX9_waits 27 = .ok (.iconst 1, 1) := by decide +kernel
theorem dX9_waits_28 : decode cX9_waits 28 = .ok (.bipush 9, 2) := by decide +kernel
theorem dX9_waits_30 : decode cX9_waits 30 = .ok (.invokestatic 52, 3) := by decide +kernel
theorem dX9_waits_33 : decode cX9_waits 33 = .ok (.ifCond .ne 11, 3) := by decide +kernel
theorem dX9_waits_36 : decode cX9_waits 36 = .ok (.aload_n 0, 1) := by decide +kernel
theorem dX9_waits_37 : decode cX9_waits 37 = .ok (.sipush (-1012), 3) := by decide +kernel
theorem dX9_waits_40 : decode cX9_waits 40 = .ok (.invokevirtual 41, 3) := by decide +kernel
theorem dX9_waits_43 : decode cX9_waits 43 = .ok (.ireturn, 1) := by decide +kernel
theorem dX9_waits_44 : decode cX9_waits 44 = .ok (.iload_n 2, 1) := by decide +kernel
theorem dX9_waits_45 : decode cX9_waits 45 = .ok (.aload_n 0, 1) := by decide +kernel
theorem dX9_waits_46 : decode cX9_waits 46 = .ok (.getfield 7, 3) := by decide +kernel
theorem dX9_waits_49 : decode cX9_waits 49 = .ok (.iconst 2, 1) := by decide +kernel
theorem dX9_waits_50 : decode cX9_waits 50 = .ok (.iaload, 1) := by decide +kernel
theorem dX9_waits_51 : decode cX9_waits 51 = .ok (.if_icmp .ge 15, 3) := by decide +kernel
theorem dX9_waits_54 : decode cX9_waits 54 = .ok (.aload_n 0, 1) := by decide +kernel
theorem dX9_waits_55 : decode cX9_waits 55 = .ok (.iconst 2, 1) := by decide +kernel
theorem dX9_waits_56 : decode cX9_waits 56 = .ok (.aload_n 0, 1) := by decide +kernel
theorem dX9_waits_57 : decode cX9_waits 57 = .ok (.getfield 7, 3) := by decide +kernel
theorem dX9_waits_60 : decode cX9_waits 60 = .ok (.iconst 2, 1) := by decide +kernel
theorem dX9_waits_61 : decode cX9_waits 61 = .ok (.iaload, 1) := by decide +kernel
theorem dX9_waits_62 : decode cX9_waits 62 = .ok (.invokevirtual 60, 3) := by decide +kernel
theorem dX9_waits_65 : decode cX9_waits 65 = .ok (.ireturn, 1) := by decide +kernel
theorem dX9_waits_66 : decode cX9_waits 66 = .ok (.aload_n 0, 1) := by decide +kernel
theorem dX9_waits_67 : decode cX9_waits 67 = .ok (.getfield 7, 3) := by decide +kernel
theorem dX9_waits_70 : decode cX9_waits 70 = .ok (.iconst 1, 1) := by decide +kernel
theorem dX9_waits_71 : decode cX9_waits 71 = .ok (.iaload, 1) := by decide +kernel
theorem dX9_waits_72 : decode cX9_waits 72 = .ok (.istore 4, 2) := by decide +kernel
theorem dX9_waits_74 : decode cX9_waits 74 = .ok (.iload 4, 2) := by decide +kernel
theorem dX9_waits_76 : decode cX9_waits 76 = .ok (.bipush 16, 2) := by decide +kernel
theorem dX9_waits_78 : decode cX9_waits 78 = .ok (.if_icmp .ne 11, 3) := by decide +kernel
theorem dX9_waits_81 : decode cX9_waits 81 = .ok (.aload_n 0, 1) := by decide +kernel
theorem dX9_waits_82 : decode cX9_waits 82 = .ok (.iconst 1, 1) := by decide +kernel
theorem dX9_waits_83 : decode cX9_waits 83 = .ok (.bipush 16, 2) := by decide +kernel
theorem dX9_waits_85 : decode cX9_waits 85 = .ok (.invokevirtual 60, 3) := by decide +kernel
theorem dX9_waits_88 : decode cX9_waits 88 = .ok (.ireturn, 1) := by decide +kernel
theorem dX9_waits_89 : decode cX9_waits 89 = .ok (.iload 4, 2) := by decide +kernel
theorem dX9_waits_91 : decode cX9_waits 91 = .ok (.ifCond .le 70, 3) := by decide +kernel
theorem dX9_waits_94 : decode cX9_waits 94 = .ok (.aload_n 0, 1) := by decide +kernel
theorem dX9_waits_95 : decode cX9_waits 95 = .ok (.iload 4, 2) := by decide +kernel
theorem dX9_waits_97 : decode cX9_waits 97 = .ok (.iconst 1, 1) := by decide +kernel
theorem dX9_waits_98 : decode cX9_waits 98 = .ok (.isub, 1) := by decide +kernel
theorem dX9_waits_99 : decode cX9_waits 99 = .ok (.iload_n 1, 1) := by decide +kernel
theorem dX9_waits_100 : decode cX9_waits 100 = .ok (.iload_n 2, 1) := by decide +kernel
theorem dX9_waits_101 : decode cX9_waits 101 = .ok (.iload_n 3, 1) := by decide +kernel
theorem dX9_waits_102 : decode cX9_waits 102 = .ok (.invokevirtual 97, 3) := by decide +kernel
theorem dX9_waits_105 : decode cX9_waits 105 = .ok (.ifCond .ne 56, 3) := by decide +kernel
theorem dX9_waits_108 : decode cX9_waits 108 = .ok (.iconst 0, 1) := by decide +kernel
theorem dX9_waits_109 : decode cX9_waits 109 = .ok (.istore 5, 2) := by decide +kernel
theorem dX9_waits_111 : decode cX9_waits 111 = .ok (.iload 5, 2) := by decide +kernel
theorem dX9_waits_113 : decode cX9_waits 113 = .ok (.iconst 3, 1) := by decide +kernel
theorem dX9_waits_114 : decode cX9_waits 114 = .ok (.if_icmp .ge 41, 3) := by decide +kernel
theorem dX9_waits_117 : decode cX9_waits 117 = .ok (.aload_n 0, 1) := by decide +kernel
theorem dX9_waits_118 : decode cX9_waits 118 = .ok (.getfield 7, 3) := by decide +kernel
theorem dX9_waits_121 : decode cX9_waits 121 = .ok (.bipush 83, 2) := by decide +kernel
theorem dX9_waits_123 : decode cX9_waits 123 = .ok (.iconst 3, 1) := by decide +kernel
theorem dX9_waits_124 : decode cX9_waits 124 = .ok (.iload 4, 2) := by decide +kernel
theorem dX9_waits_126 : decode cX9_waits 126 = .ok (.imul, 1) := by decide +kernel
theorem dX9_waits_127 : decode cX9_waits 127 = .ok (.iadd, 1) := by decide +kernel
theorem dX9_waits_128 : decode cX9_waits 128 = .ok (.iload 5, 2) := by decide +kernel
theorem dX9_waits_130 : decode cX9_waits 130 = .ok (.iadd, 1) := by decide +kernel
theorem dX9_waits_131 : decode cX9_waits 131 = .ok (.aload_n 0, 1) := by decide +kernel
theorem dX9_waits_132 : decode cX9_waits 132 = .ok (.getfield 7, 3) := by decide +kernel
theorem dX9_waits_135 : decode cX9_waits 135 = .ok (.bipush 83, 2) := by decide +kernel
theorem dX9_waits_137 : decode cX9_waits 137 = .ok (.iconst 3, 1) := by decide +kernel
theorem dX9_waits_138 : decode cX9_waits 138 = .ok (.iload 4, 2) := by decide +kernel
theorem dX9_waits_140 : decode cX9_waits 140 = .ok (.imul, 1) := by decide +kernel
theorem dX9_waits_141 : decode cX9_waits 141 = .ok (.iadd, 1) := by decide +kernel
theorem dX9_waits_142 : decode cX9_waits 142 = .ok (.iconst 3, 1) := by decide +kernel
theorem dX9_waits_143 : decode cX9_waits 143 = .ok (.isub, 1) := by decide +kernel
theorem dX9_waits_144 : decode cX9_waits 144 = .ok (.iload 5, 2) := by decide +kernel
theorem dX9_waits_146 : decode cX9_waits 146 = .ok (.iadd, 1) := by decide +kernel
theorem dX9_waits_147 : decode cX9_waits 147 = .ok (.iaload, 1) := by decide +kernel
theorem dX9_waits_148 : decode cX9_waits 148 = .ok (.iastore, 1) := by decide +kernel
theorem dX9_waits_149 : decode cX9_waits 149 = .ok (.iinc 5 1, 3) := by decide +kernel
theorem dX9_waits_152 : decode cX9_waits 152 = .ok (.goto (-41), 3) := by decide +kernel
theorem dX9_waits_155 : decode cX9_waits 155 = .ok (.iinc 4 (-1), 3) := by decide +kernel
theorem dX9_waits_158 : decode cX9_waits 158 = .ok (.goto (-69), 3) := by decide +kernel
theorem dX9_waits_161 : decode cX9_waits 161 = .ok (.aload_n 0, 1) := by decide +kernel
theorem dX9_waits_162 : decode cX9_waits 162 = .ok (.getfield 7, 3) := by decide +kernel
theorem dX9_waits_165 : decode cX9_waits 165 = .ok (.bipush 83, 2) := by decide +kernel
theorem dX9_waits_167 : decode cX9_waits 167 = .ok (.iconst 3, 1) := by decide +kernel
theorem dX9_waits_168 : decode cX9_waits 168 = .ok (.iload 4, 2) := by decide +kernel
theorem dX9_waits_170 : decode cX9_waits 170 = .ok (.imul, 1) := by decide +kernel
theorem dX9_waits_171 : decode cX9_waits 171 = .ok (.iadd, 1) := by decide +kernel
theorem dX9_waits_172 : decode cX9_waits 172 = .ok (.iload_n 1, 1) := by decide +kernel
theorem dX9_waits_173 : decode cX9_waits 173 = .ok (.iastore, 1) := by decide +kernel
theorem dX9_waits_174 : decode cX9_waits 174 = .ok (.aload_n 0, 1) := by decide +kernel
theorem dX9_waits_175 : decode cX9_waits 175 = .ok (.getfield 7, 3) := by decide +kernel
theorem dX9_waits_178 : decode cX9_waits 178 = .ok (.bipush 83, 2) := by decide +kernel
theorem dX9_waits_180 : decode cX9_waits 180 = .ok (.iconst 3, 1) := by decide +kernel
theorem dX9_waits_181 : decode cX9_waits 181 = .ok (.iload 4, 2) := by decide +kernel
theorem dX9_waits_183 : decode cX9_waits 183 = .ok (.imul, 1) := by decide +kernel
theorem dX9_waits_184 : decode cX9_waits 184 = .ok (.iadd, 1) := by decide +kernel
theorem dX9_waits_185 : decode cX9_waits 185 = .ok (.iconst 1, 1) := by decide +kernel
theorem dX9_waits_186 : decode cX9_waits 186 = .ok (.iadd, 1) := by decide +kernel
theorem dX9_waits_187 : decode cX9_waits 187 = .ok (.iload_n 2, 1) := by decide +kernel
theorem dX9_waits_188 : decode cX9_waits 188 = .ok (.iastore, 1) := by decide +kernel
theorem dX9_waits_189 : decode cX9_waits 189 = .ok (.aload_n 0, 1) := by decide +kernel
theorem dX9_waits_190 : decode cX9_waits 190 = .ok (.getfield 7, 3) := by decide +kernel
theorem dX9_waits_193 : decode cX9_waits 193 = .ok (.bipush 83, 2) := by decide +kernel
theorem dX9_waits_195 : decode cX9_waits 195 = .ok (.iconst 3, 1) := by decide +kernel
theorem dX9_waits_196 : decode cX9_waits 196 = .ok (.iload 4, 2) := by decide +kernel
theorem dX9_waits_198 : decode cX9_waits 198 = .ok (.imul, 1) := by decide +kernel
theorem dX9_waits_199 : decode cX9_waits 199 = .ok (.iadd, 1) := by decide +kernel
theorem dX9_waits_200 : decode cX9_waits 200 = .ok (.iconst 2, 1) := by decide +kernel
theorem dX9_waits_201 : decode cX9_waits 201 = .ok (.iadd, 1) := by decide +kernel
theorem dX9_waits_202 : decode cX9_waits 202 = .ok (.iload_n 3, 1) := by decide +kernel
theorem dX9_waits_203 : decode cX9_waits 203 = .ok (.iastore, 1) := by decide +kernel
theorem dX9_waits_204 : decode cX9_waits 204 = .ok (.aload_n 0, 1) := by decide +kernel
theorem dX9_waits_205 : decode cX9_waits 205 = .ok (.getfield 7, 3) := by decide +kernel
theorem dX9_waits_208 : decode cX9_waits 208 = .ok (.iconst 1, 1) := by decide +kernel
theorem dX9_waits_209 : decode cX9_waits 209 = .ok (.dup2, 1) := by decide +kernel
theorem dX9_waits_210 : decode cX9_waits 210 = .ok (.iaload, 1) := by decide +kernel
theorem dX9_waits_211 : decode cX9_waits 211 = .ok (.iconst 1, 1) := by decide +kernel
theorem dX9_waits_212 : decode cX9_waits 212 = .ok (.iadd, 1) := by decide +kernel
theorem dX9_waits_213 : decode cX9_waits 213 = .ok (.iastore, 1) := by decide +kernel
theorem dX9_waits_214 : decode cX9_waits 214 = .ok (.aload_n 0, 1) := by decide +kernel
theorem dX9_waits_215 : decode cX9_waits 215 = .ok (.getfield 7, 3) := by decide +kernel
theorem dX9_waits_218 : decode cX9_waits 218 = .ok (.iconst 4, 1) := by decide +kernel
theorem dX9_waits_219 : decode cX9_waits 219 = .ok (.dup2, 1) := by decide +kernel
theorem dX9_waits_220 : decode cX9_waits 220 = .ok (.iaload, 1) := by decide +kernel
theorem dX9_waits_221 : decode cX9_waits 221 = .ok (.iconst 1, 1) := by decide +kernel
theorem dX9_waits_222 : decode cX9_waits 222 = .ok (.iadd, 1) := by decide +kernel
theorem dX9_waits_223 : decode cX9_waits 223 = .ok (.iastore, 1) := by decide +kernel
theorem dX9_waits_224 : decode cX9_waits 224 = .ok (.iload 4, 2) := by decide +kernel
theorem dX9_waits_226 : decode cX9_waits 226 = .ok (.ireturn, 1) := by decide +kernel
set_option maxRecDepth 20000 in
theorem ggX9_pull_X9_begins : GoodIn wsX9_pull wsX9_begins := goodIn_r _ [5, 6, 7, 8, 9, 10, 4, 11, 47, 48, 49, 50, 51, 52, 53, 54, 55, 56, 57, 58, 59, 60, 61, 62, 63, 64] (by decide +kernel) (by decide +kernel)
set_option maxRecDepth 20000 in
theorem gX9_pull_X9_begins : GoodIn wsX9_pull (wsV RX9 67 RX9 yX9_begins wsX9_begins) := goodIn_app (goodIn_of _ (by decide +kernel)) ggX9_pull_X9_begins
set_option maxRecDepth 20000 in
theorem ggX9_pull_X9_waits : GoodIn wsX9_pull wsX9_waits := goodIn_r _ [15, 8, 16, 17, 18, 4, 19, 20, 21, 22, 23, 24, 25, 26, 6, 27, 28, 29, 30, 31, 32, 33, 34, 35, 36, 37, 38, 39, 40, 47, 48, 49, 50, 51, 52, 53, 54, 55, 56, 57, 58, 59, 60, 61, 62, 63, 64] (by decide +kernel) (by decide +kernel)
set_option maxRecDepth 20000 in
theorem gX9_pull_X9_waits : GoodIn wsX9_pull (wsV RX9 101 RX9 yX9_waits wsX9_waits) := goodIn_app (goodIn_of _ (by decide +kernel)) ggX9_pull_X9_waits
set_option maxRecDepth 20000 in
theorem ggX9_pull_X9_ends : GoodIn wsX9_pull wsX9_ends := goodIn_r _ [44, 6, 8, 7, 45, 46, 9, 10, 4, 11, 47, 48, 49, 50, 51, 52, 53, 54, 55, 56, 57, 58, 59, 60, 61, 62, 63, 64] (by decide +kernel) (by decide +kernel)
set_option maxRecDepth 20000 in
theorem gX9_pull_X9_ends : GoodIn wsX9_pull (wsV RX9 73 RX9 yX9_ends wsX9_ends) := goodIn_app (goodIn_of _ (by decide +kernel)) ggX9_pull_X9_ends
theorem dX9_pull_0 : decode cX9_pull 0 = .ok (.aload_n 0, 1) := by decide +kernel
theorem dX9_pull_1 : decode cX9_pull 1 = .ok (.invokevirtual 67, 3) := by decide +kernel
theorem dX9_pull_4 : decode cX9_pull 4 = .ok (.aload_n 0, 1) := by decide +kernel
theorem dX9_pull_5 : decode cX9_pull 5 = .ok (.aload_n 0, 1) := by decide +kernel
theorem dX9_pull_6 : decode cX9_pull 6 = .ok (.iload_n 1, 1) := by decide +kernel
theorem dX9_pull_7 : decode cX9_pull 7 = .ok (.iload_n 2, 1) := by decide +kernel
theorem dX9_pull_8 : decode cX9_pull 8 = .ok (.iload_n 3, 1) := by decide +kernel
theorem dX9_pull_9 : decode cX9_pull 9 = .ok (.invokevirtual 101, 3) := by decide +kernel
theorem dX9_pull_12 : decode cX9_pull 12 = .ok (.invokevirtual 73, 3) := by decide +kernel
theorem dX9_pull_15 : decode cX9_pull 15 = .ok (.ireturn, 1) := by decide +kernel
theorem dX9_goes_0 : decode cX9_goes 0 = .ok (.bipush 83, 2) := by decide +kernel
theorem dX9_goes_2 : decode cX9_goes 2 = .ok (.iconst 3, 1) := by decide +kernel
theorem dX9_goes_3 : decode cX9_goes 3 = .ok (.iload_n 1, 1) := by decide +kernel
theorem dX9_goes_4 : decode cX9_goes 4 = .ok (.imul, 1) := by decide +kernel
theorem dX9_goes_5 : decode cX9_goes 5 = .ok (.iadd, 1) := by decide +kernel
theorem dX9_goes_6 : decode cX9_goes 6 = .ok (.istore_n 2, 1) := by decide +kernel
theorem dX9_goes_7 : decode cX9_goes 7 = .ok (.iload_n 2, 1) := by decide +kernel
theorem dX9_goes_8 : decode cX9_goes 8 = .ok (.sipush 131, 3) := by decide +kernel
theorem dX9_goes_11 : decode cX9_goes 11 = .ok (.if_icmp .ge 36, 3) := by decide +kernel
theorem dX9_goes_14 : decode cX9_goes 14 = .ok (.aload_n 0, 1) := by decide +kernel
theorem dX9_goes_15 : decode cX9_goes 15 = .ok (.getfield 7, 3) := by decide +kernel
theorem dX9_goes_18 : decode cX9_goes 18 = .ok (.iload_n 2, 1) := by decide +kernel
theorem dX9_goes_19 : decode cX9_goes 19 = .ok (.iload_n 2, 1) := by decide +kernel
theorem dX9_goes_20 : decode cX9_goes 20 = .ok (.iconst 3, 1) := by decide +kernel
theorem dX9_goes_21 : decode cX9_goes 21 = .ok (.iadd, 1) := by decide +kernel
theorem dX9_goes_22 : decode cX9_goes 22 = .ok (.sipush 131, 3) := by decide +kernel
theorem dX9_goes_25 : decode cX9_goes 25 = .ok (.if_icmp .ge 14, 3) := by decide +kernel
theorem dX9_goes_28 : decode cX9_goes 28 = .ok (.aload_n 0, 1) := by decide +kernel
theorem dX9_goes_29 : decode cX9_goes 29 = .ok (.getfield 7, 3) := by decide +kernel
theorem dX9_goes_32 : decode cX9_goes 32 = .ok (.iload_n 2, 1) := by decide +kernel
theorem dX9_goes_33 : decode cX9_goes 33 = .ok (.iconst 3, 1) := by decide +kernel
theorem dX9_goes_34 : decode cX9_goes 34 = .ok (.iadd, 1) := by decide +kernel
theorem dX9_goes_35 : decode cX9_goes 35 = .ok (.iaload, 1) := by decide +kernel
theorem dX9_goes_36 : decode cX9_goes 36 = .ok (.goto 4, 3) := by decide +kernel
theorem dX9_goes_39 : decode cX9_goes 39 = .ok (.iconst 0, 1) := by decide +kernel
theorem dX9_goes_40 : decode cX9_goes 40 = .ok (.iastore, 1) := by decide +kernel
theorem dX9_goes_41 : decode cX9_goes 41 = .ok (.iinc 2 1, 3) := by decide +kernel
theorem dX9_goes_44 : decode cX9_goes 44 = .ok (.goto (-37), 3) := by decide +kernel
theorem dX9_goes_47 : decode cX9_goes 47 = .ok (.aload_n 0, 1) := by decide +kernel
theorem dX9_goes_48 : decode cX9_goes 48 = .ok (.getfield 7, 3) := by decide +kernel
theorem dX9_goes_51 : decode cX9_goes 51 = .ok (.iconst 1, 1) := by decide +kernel
theorem dX9_goes_52 : decode cX9_goes 52 = .ok (.dup2, 1) := by decide +kernel
theorem dX9_goes_53 : decode cX9_goes 53 = .ok (.iaload, 1) := by decide +kernel
theorem dX9_goes_54 : decode cX9_goes 54 = .ok (.iconst 1, 1) := by decide +kernel
theorem dX9_goes_55 : decode cX9_goes 55 = .ok (.isub, 1) := by decide +kernel
theorem dX9_goes_56 : decode cX9_goes 56 = .ok (.iastore, 1) := by decide +kernel
theorem dX9_goes_57 : decode cX9_goes 57 = .ok (.return_, 1) := by decide +kernel
set_option maxRecDepth 20000 in
theorem ggX9_cancels_X9_isRope : GoodIn wsX9_cancels wsX9_isRope := goodIn_r _ [6, 1, 7, 8, 5, 9, 33, 34, 35, 36, 37, 38, 39, 40, 41, 42, 43, 44, 45, 46, 47, 48, 49, 50] (by decide +kernel) (by decide +kernel)
set_option maxRecDepth 20000 in
theorem gX9_cancels_X9_isRope : GoodIn wsX9_cancels (wsV RX9 76 RX9 yX9_isRope wsX9_isRope) := goodIn_app (goodIn_of _ (by decide +kernel)) ggX9_cancels_X9_isRope
set_option maxRecDepth 20000 in
theorem ggX9_cancels_X9_fail : GoodIn wsX9_cancels wsX9_fail := goodIn_r _ [13, 14, 33, 34, 35, 36, 37, 38, 39, 40, 41, 42, 43, 44, 45, 46, 47, 48, 49, 50] (by decide +kernel) (by decide +kernel)
set_option maxRecDepth 20000 in
theorem gX9_cancels_X9_fail : GoodIn wsX9_cancels (wsV RX9 41 RX9 yX9_fail wsX9_fail) := goodIn_app (goodIn_of _ (by decide +kernel)) ggX9_cancels_X9_fail
set_option maxRecDepth 20000 in
theorem ggX9_cancels_X9_waitingOf : GoodIn wsX9_cancels wsX9_waitingOf := goodIn_r _ [18, 1, 19, 20, 21, 5, 22, 33, 34, 35, 36, 37, 38, 39, 40, 41, 42, 43, 44, 45, 46, 47, 48, 49, 50] (by decide +kernel) (by decide +kernel)
set_option maxRecDepth 20000 in
theorem gX9_cancels_X9_waitingOf : GoodIn wsX9_cancels (wsV RX9 94 RX9 yX9_waitingOf wsX9_waitingOf) := goodIn_app (goodIn_of _ (by decide +kernel)) ggX9_cancels_X9_waitingOf
set_option maxRecDepth 20000 in
theorem ggX9_cancels_X9_refuses : GoodIn wsX9_cancels wsX9_refuses := goodIn_r _ [26, 27, 28, 10, 11, 12, 5, 13, 14, 33, 34, 35, 36, 37, 38, 39, 40, 41, 42, 43, 44, 45, 46, 47, 48, 49, 50] (by decide +kernel) (by decide +kernel)
set_option maxRecDepth 20000 in
theorem gX9_cancels_X9_refuses : GoodIn wsX9_cancels (wsV RX9 60 RX9 yX9_refuses wsX9_refuses) := goodIn_app (goodIn_of _ (by decide +kernel)) ggX9_cancels_X9_refuses
set_option maxRecDepth 20000 in
theorem ggX9_cancels_X9_pulled : GoodIn wsX9_cancels wsX9_pulled := goodIn_r _ [22, 1, 33, 34, 35, 36, 37, 38, 39, 40, 41, 42, 43, 44, 45, 46, 47, 48, 49, 50] (by decide +kernel) (by decide +kernel)
set_option maxRecDepth 20000 in
theorem gX9_cancels_X9_pulled : GoodIn wsX9_cancels (wsV RX9 91 RX9 yX9_pulled wsX9_pulled) := goodIn_app (goodIn_of _ (by decide +kernel)) ggX9_cancels_X9_pulled
set_option maxRecDepth 20000 in
theorem ggX9_cancels_X9_goes : GoodIn wsX9_cancels wsX9_goes := goodIn_r _ [32, 1, 33, 34, 35, 36, 37, 38, 39, 40, 41, 42, 43, 44, 45, 46, 47, 48, 49, 50] (by decide +kernel) (by decide +kernel)
set_option maxRecDepth 20000 in
theorem gX9_cancels_X9_goes : GoodIn wsX9_cancels (wsV RX9 105 RX9 yX9_goes wsX9_goes) := goodIn_app (goodIn_of _ (by decide +kernel)) ggX9_cancels_X9_goes
theorem dX9_cancels_0 : decode cX9_cancels 0 = .ok (.aload_n 0, 1) := by decide +kernel
theorem dX9_cancels_1 : decode cX9_cancels 1 = .ok (.iload_n 1, 1) := by decide +kernel
theorem dX9_cancels_2 : decode cX9_cancels 2 = .ok (.invokevirtual 76, 3) := by decide +kernel
theorem dX9_cancels_5 : decode cX9_cancels 5 = .ok (.ifCond .ne 11, 3) := by decide +kernel
theorem dX9_cancels_8 : decode cX9_cancels 8 = .ok (.aload_n 0, 1) := by decide +kernel
theorem dX9_cancels_9 : decode cX9_cancels 9 = .ok (.sipush (-1011), 3) := by decide +kernel
theorem dX9_cancels_12 : decode cX9_cancels 12 = .ok (.invokevirtual 41, 3) := by decide +kernel
theorem dX9_cancels_15 : decode cX9_cancels 15 = .ok (.ireturn, 1) := by decide +kernel
theorem dX9_cancels_16 : decode cX9_cancels 16 = .ok (.aload_n 0, 1) := by decide +kernel
theorem dX9_cancels_17 : decode cX9_cancels 17 = .ok (.iload_n 1, 1) := by decide +kernel
theorem dX9_cancels_18 : decode cX9_cancels 18 = .ok (.invokevirtual 94, 3) := by decide +kernel
theorem dX9_cancels_21 : decode cX9_cancels 21 = .ok (.istore_n 2, 1) := by decide +kernel
theorem dX9_cancels_22 : decode cX9_cancels 22 = .ok (.iload_n 2, 1) := by decide +kernel
theorem dX9_cancels_23 : decode cX9_cancels 23 = .ok (.ifCond .ne 16, 3) := by decide +kernel
theorem dX9_cancels_26 : decode cX9_cancels 26 = .ok (.aload_n 0, 1) := by decide +kernel
theorem dX9_cancels_27 : decode cX9_cancels 27 = .ok (.bipush 6, 2) := by decide +kernel
theorem dX9_cancels_29 : decode cX9_cancels 29 = .ok (.aload_n 0, 1) := by decide +kernel
theorem dX9_cancels_30 : decode cX9_cancels 30 = .ok (.getfield 7, 3) := by decide +kernel
theorem dX9_cancels_33 : decode cX9_cancels 33 = .ok (.iconst 1, 1) := by decide +kernel
theorem dX9_cancels_34 : decode cX9_cancels 34 = .ok (.iaload, 1) := by decide +kernel
theorem dX9_cancels_35 : decode cX9_cancels 35 = .ok (.invokevirtual 60, 3) := by decide +kernel
theorem dX9_cancels_38 : decode cX9_cancels 38 = .ok (.ireturn, 1) := by decide +kernel
theorem dX9_cancels_39 : decode cX9_cancels 39 = .ok (.aload_n 0, 1) := by decide +kernel
theorem dX9_cancels_40 : decode cX9_cancels 40 = .ok (.getfield 7, 3) := by decide +kernel
theorem dX9_cancels_43 : decode cX9_cancels 43 = .ok (.iconst 1, 1) := by decide +kernel
theorem dX9_cancels_44 : decode cX9_cancels 44 = .ok (.iaload, 1) := by decide +kernel
theorem dX9_cancels_45 : decode cX9_cancels 45 = .ok (.iconst 1, 1) := by decide +kernel
theorem dX9_cancels_46 : decode cX9_cancels 46 = .ok (.isub, 1) := by decide +kernel
theorem dX9_cancels_47 : decode cX9_cancels 47 = .ok (.istore_n 3, 1) := by decide +kernel
theorem dX9_cancels_48 : decode cX9_cancels 48 = .ok (.iload_n 3, 1) := by decide +kernel
theorem dX9_cancels_49 : decode cX9_cancels 49 = .ok (.ifCond .lt 24, 3) := by decide +kernel
theorem dX9_cancels_52 : decode cX9_cancels 52 = .ok (.aload_n 0, 1) := by decide +kernel
theorem dX9_cancels_53 : decode cX9_cancels 53 = .ok (.iload_n 3, 1) := by decide +kernel
theorem dX9_cancels_54 : decode cX9_cancels 54 = .ok (.iconst 0, 1) := by decide +kernel
theorem dX9_cancels_55 : decode cX9_cancels 55 = .ok (.invokevirtual 91, 3) := by decide +kernel
theorem dX9_cancels_58 : decode cX9_cancels 58 = .ok (.iload_n 1, 1) := by decide +kernel
theorem dX9_cancels_59 : decode cX9_cancels 59 = .ok (.if_icmp .ne 8, 3) := by decide +kernel
theorem dX9_cancels_62 : decode cX9_cancels 62 = .ok (.aload_n 0, 1) := by decide +kernel
theorem dX9_cancels_63 : decode cX9_cancels 63 = .ok (.iload_n 3, 1) := by decide +kernel
theorem dX9_cancels_64 : decode cX9_cancels 64 = .ok (.invokevirtual 105, 3) := by decide +kernel
theorem dX9_cancels_67 : decode cX9_cancels 67 = .ok (.iinc 3 (-1), 3) := by decide +kernel
theorem dX9_cancels_70 : decode cX9_cancels 70 = .ok (.goto (-22), 3) := by decide +kernel
theorem dX9_cancels_73 : decode cX9_cancels 73 = .ok (.aload_n 0, 1) := by decide +kernel
theorem dX9_cancels_74 : decode cX9_cancels 74 = .ok (.getfield 7, 3) := by decide +kernel
theorem dX9_cancels_77 : decode cX9_cancels 77 = .ok (.bipush 8, 2) := by decide +kernel
theorem dX9_cancels_79 : decode cX9_cancels 79 = .ok (.dup2, 1) := by decide +kernel
theorem dX9_cancels_80 : decode cX9_cancels 80 = .ok (.iaload, 1) := by decide +kernel
theorem dX9_cancels_81 : decode cX9_cancels 81 = .ok (.iload_n 2, 1) := by decide +kernel
theorem dX9_cancels_82 : decode cX9_cancels 82 = .ok (.iadd, 1) := by decide +kernel
theorem dX9_cancels_83 : decode cX9_cancels 83 = .ok (.iastore, 1) := by decide +kernel
theorem dX9_cancels_84 : decode cX9_cancels 84 = .ok (.aload_n 0, 1) := by decide +kernel
theorem dX9_cancels_85 : decode cX9_cancels 85 = .ok (.getfield 7, 3) := by decide +kernel
theorem dX9_cancels_88 : decode cX9_cancels 88 = .ok (.iconst 1, 1) := by decide +kernel
theorem dX9_cancels_89 : decode cX9_cancels 89 = .ok (.iaload, 1) := by decide +kernel
theorem dX9_cancels_90 : decode cX9_cancels 90 = .ok (.ireturn, 1) := by decide +kernel
set_option maxRecDepth 20000 in
theorem ggX9_cancel_X9_begins : GoodIn wsX9_cancel wsX9_begins := goodIn_r _ [5, 6, 7, 8, 9, 10, 4, 11, 51, 52, 53, 54, 55, 56, 57, 58, 59, 60, 61, 62, 63, 64, 65, 66, 67, 68] (by decide +kernel) (by decide +kernel)
set_option maxRecDepth 20000 in
theorem gX9_cancel_X9_begins : GoodIn wsX9_cancel (wsV RX9 67 RX9 yX9_begins wsX9_begins) := goodIn_app (goodIn_of _ (by decide +kernel)) ggX9_cancel_X9_begins
set_option maxRecDepth 20000 in
theorem ggX9_cancel_X9_cancels : GoodIn wsX9_cancel wsX9_cancels := goodIn_r _ [15, 8, 16, 17, 18, 4, 19, 20, 21, 22, 23, 24, 25, 26, 6, 27, 28, 29, 30, 31, 32, 33, 34, 35, 36, 37, 38, 39, 40, 41, 42, 43, 44, 51, 52, 53, 54, 55, 56, 57, 58, 59, 60, 61, 62, 63, 64, 65, 66, 67, 68] (by decide +kernel) (by decide +kernel)
set_option maxRecDepth 20000 in
theorem gX9_cancel_X9_cancels : GoodIn wsX9_cancel (wsV RX9 109 RX9 yX9_cancels wsX9_cancels) := goodIn_app (goodIn_of _ (by decide +kernel)) ggX9_cancel_X9_cancels
set_option maxRecDepth 20000 in
theorem ggX9_cancel_X9_ends : GoodIn wsX9_cancel wsX9_ends := goodIn_r _ [48, 6, 8, 7, 49, 50, 9, 10, 4, 11, 51, 52, 53, 54, 55, 56, 57, 58, 59, 60, 61, 62, 63, 64, 65, 66, 67, 68] (by decide +kernel) (by decide +kernel)
set_option maxRecDepth 20000 in
theorem gX9_cancel_X9_ends : GoodIn wsX9_cancel (wsV RX9 73 RX9 yX9_ends wsX9_ends) := goodIn_app (goodIn_of _ (by decide +kernel)) ggX9_cancel_X9_ends
theorem dX9_cancel_0 : decode cX9_cancel 0 = .ok (.aload_n 0, 1) := by decide +kernel
theorem dX9_cancel_1 : decode cX9_cancel 1 = .ok (.invokevirtual 67, 3) := by decide +kernel
theorem dX9_cancel_4 : decode cX9_cancel 4 = .ok (.aload_n 0, 1) := by decide +kernel
theorem dX9_cancel_5 : decode cX9_cancel 5 = .ok (.aload_n 0, 1) := by decide +kernel
theorem dX9_cancel_6 : decode cX9_cancel 6 = .ok (.iload_n 1, 1) := by decide +kernel
theorem dX9_cancel_7 : decode cX9_cancel 7 = .ok (.invokevirtual 109, 3) := by decide +kernel
theorem dX9_cancel_10 : decode cX9_cancel 10 = .ok (.invokevirtual 73, 3) := by decide +kernel
theorem dX9_cancel_13 : decode cX9_cancel 13 = .ok (.ireturn, 1) := by decide +kernel
set_option maxRecDepth 20000 in
theorem ggX9_isHeard_X9_at : GoodIn wsX9_isHeard wsX9_at := goodIn_r _ [5] (by decide +kernel) (by decide +kernel)
set_option maxRecDepth 20000 in
theorem gX9_isHeard_X9_at : GoodIn wsX9_isHeard (va_wsS RX9 64 yX9_at wsX9_at) := goodIn_app (goodIn_of _ (by decide +kernel)) ggX9_isHeard_X9_at
theorem dX9_isHeard_0 : decode cX9_isHeard 0 = .ok (.aload_n 0, 1) := by decide +kernel
theorem dX9_isHeard_1 : decode cX9_isHeard 1 = .ok (.getfield 7, 3) := by decide +kernel
theorem dX9_isHeard_4 : decode cX9_isHeard 4 = .ok (.iload_n 1, 1) := by decide +kernel
theorem dX9_isHeard_5 : decode cX9_isHeard 5 = .ok (.iconst 1, 1) := by decide +kernel
theorem dX9_isHeard_6 : decode cX9_isHeard 6 = .ok (.invokestatic 64, 3) := by decide +kernel
theorem dX9_isHeard_9 : decode cX9_isHeard 9 = .ok (.iaload, 1) := by decide +kernel
theorem dX9_isHeard_10 : decode cX9_isHeard 10 = .ok (.iconst 1, 1) := by decide +kernel
theorem dX9_isHeard_11 : decode cX9_isHeard 11 = .ok (.if_icmp .ne 21, 3) := by decide +kernel
theorem dX9_isHeard_14 : decode cX9_isHeard 14 = .ok (.iload_n 2, 1) := by decide +kernel
theorem dX9_isHeard_15 : decode cX9_isHeard 15 = .ok (.aload_n 0, 1) := by decide +kernel
theorem dX9_isHeard_16 : decode cX9_isHeard 16 = .ok (.getfield 7, 3) := by decide +kernel
theorem dX9_isHeard_19 : decode cX9_isHeard 19 = .ok (.iload_n 1, 1) := by decide +kernel
theorem dX9_isHeard_20 : decode cX9_isHeard 20 = .ok (.iconst 2, 1) := by decide +kernel
theorem dX9_isHeard_21 : decode cX9_isHeard 21 = .ok (.invokestatic 64, 3) := by decide +kernel
theorem dX9_isHeard_24 : decode cX9_isHeard 24 = .ok (.iaload, 1) := by decide +kernel
theorem dX9_isHeard_25 : decode cX9_isHeard 25 = .ok (.if_icmp .le 7, 3) := by decide +kernel
theorem dX9_isHeard_28 : decode cX9_isHeard 28 = .ok (.iconst 1, 1) := by decide +kernel
theorem dX9_isHeard_29 : decode cX9_isHeard 29 = .ok (.goto 4, 3) := by decide +kernel
theorem dX9_isHeard_32 : decode cX9_isHeard 32 = .ok (.iconst 0, 1) := by decide +kernel
theorem dX9_isHeard_33 : decode cX9_isHeard 33 = .ok (.ireturn, 1) := by decide +kernel
set_option maxRecDepth 20000 in
theorem ggX9_answers_X9_at : GoodIn wsX9_answers wsX9_at := goodIn_r _ [5] (by decide +kernel) (by decide +kernel)
set_option maxRecDepth 20000 in
theorem gX9_answers_X9_at : GoodIn wsX9_answers (va_wsS RX9 64 yX9_at wsX9_at) := goodIn_app (goodIn_of _ (by decide +kernel)) ggX9_answers_X9_at
theorem dX9_answers_0 : decode cX9_answers 0 = .ok (.aload_n 0, 1) := by decide +kernel
theorem dX9_answers_1 : decode cX9_answers 1 = .ok (.getfield 7, 3) := by decide +kernel
theorem dX9_answers_4 : decode cX9_answers 4 = .ok (.iload_n 1, 1) := by decide +kernel
theorem dX9_answers_5 : decode cX9_answers 5 = .ok (.iconst 2, 1) := by decide +kernel
theorem dX9_answers_6 : decode cX9_answers 6 = .ok (.invokestatic 64, 3) := by decide +kernel
theorem dX9_answers_9 : decode cX9_answers 9 = .ok (.iaload, 1) := by decide +kernel
theorem dX9_answers_10 : decode cX9_answers 10 = .ok (.bipush 9, 2) := by decide +kernel
theorem dX9_answers_12 : decode cX9_answers 12 = .ok (.if_icmp .ge 17, 3) := by decide +kernel
theorem dX9_answers_15 : decode cX9_answers 15 = .ok (.aload_n 0, 1) := by decide +kernel
theorem dX9_answers_16 : decode cX9_answers 16 = .ok (.getfield 7, 3) := by decide +kernel
theorem dX9_answers_19 : decode cX9_answers 19 = .ok (.iload_n 1, 1) := by decide +kernel
theorem dX9_answers_20 : decode cX9_answers 20 = .ok (.iconst 2, 1) := by decide +kernel
theorem dX9_answers_21 : decode cX9_answers 21 = .ok (.invokestatic 64, 3) := by decide +kernel
theorem dX9_answers_24 : decode cX9_answers 24 = .ok (.dup2, 1) := by decide +kernel
theorem dX9_answers_25 : decode cX9_answers 25 = .ok (.iaload, 1) := by decide +kernel
theorem dX9_answers_26 : decode cX9_answers 26 = .ok (.iconst 1, 1) := by decide +kernel
theorem dX9_answers_27 : decode cX9_answers 27 = .ok (.iadd, 1) := by decide +kernel
theorem dX9_answers_28 : decode cX9_answers 28 = .ok (.iastore, 1) := by decide +kernel
theorem dX9_answers_29 : decode cX9_answers 29 = .ok (.aload_n 0, 1) := by decide +kernel
theorem dX9_answers_30 : decode cX9_answers 30 = .ok (.getfield 7, 3) := by decide +kernel
theorem dX9_answers_33 : decode cX9_answers 33 = .ok (.iload_n 1, 1) := by decide +kernel
theorem dX9_answers_34 : decode cX9_answers 34 = .ok (.iconst 3, 1) := by decide +kernel
theorem dX9_answers_35 : decode cX9_answers 35 = .ok (.invokestatic 64, 3) := by decide +kernel
theorem dX9_answers_38 : decode cX9_answers 38 = .ok (.dup2, 1) := by decide +kernel
theorem dX9_answers_39 : decode cX9_answers 39 = .ok (.iaload, 1) := by decide +kernel
theorem dX9_answers_40 : decode cX9_answers 40 = .ok (.iconst 1, 1) := by decide +kernel
theorem dX9_answers_41 : decode cX9_answers 41 = .ok (.iadd, 1) := by decide +kernel
theorem dX9_answers_42 : decode cX9_answers 42 = .ok (.iastore, 1) := by decide +kernel
theorem dX9_answers_43 : decode cX9_answers 43 = .ok (.aload_n 0, 1) := by decide +kernel
theorem dX9_answers_44 : decode cX9_answers 44 = .ok (.getfield 7, 3) := by decide +kernel
theorem dX9_answers_47 : decode cX9_answers 47 = .ok (.iconst 5, 1) := by decide +kernel
theorem dX9_answers_48 : decode cX9_answers 48 = .ok (.dup2, 1) := by decide +kernel
theorem dX9_answers_49 : decode cX9_answers 49 = .ok (.iaload, 1) := by decide +kernel
theorem dX9_answers_50 : decode cX9_answers 50 = .ok (.iconst 1, 1) := by decide +kernel
theorem dX9_answers_51 : decode cX9_answers 51 = .ok (.iadd, 1) := by decide +kernel
theorem dX9_answers_52 : decode cX9_answers 52 = .ok (.iastore, 1) := by decide +kernel
theorem dX9_answers_53 : decode cX9_answers 53 = .ok (.aload_n 0, 1) := by decide +kernel
theorem dX9_answers_54 : decode cX9_answers 54 = .ok (.getfield 7, 3) := by decide +kernel
theorem dX9_answers_57 : decode cX9_answers 57 = .ok (.sipush 211, 3) := by decide +kernel
theorem dX9_answers_60 : decode cX9_answers 60 = .ok (.iload_n 2, 1) := by decide +kernel
theorem dX9_answers_61 : decode cX9_answers 61 = .ok (.iadd, 1) := by decide +kernel
theorem dX9_answers_62 : decode cX9_answers 62 = .ok (.dup2, 1) := by decide +kernel
theorem dX9_answers_63 : decode cX9_answers 63 = .ok (.iaload, 1) := by decide +kernel
theorem dX9_answers_64 : decode cX9_answers 64 = .ok (.iconst 1, 1) := by decide +kernel
theorem dX9_answers_65 : decode cX9_answers 65 = .ok (.iload_n 1, 1) := by decide +kernel
theorem dX9_answers_66 : decode cX9_answers 66 = .ok (.ishl, 1) := by decide +kernel
theorem dX9_answers_67 : decode cX9_answers 67 = .ok (.ior, 1) := by decide +kernel
theorem dX9_answers_68 : decode cX9_answers 68 = .ok (.iastore, 1) := by decide +kernel
theorem dX9_answers_69 : decode cX9_answers 69 = .ok (.sipush 210, 3) := by decide +kernel
theorem dX9_answers_72 : decode cX9_answers 72 = .ok (.istore 4, 2) := by decide +kernel
theorem dX9_answers_74 : decode cX9_answers 74 = .ok (.iload 4, 2) := by decide +kernel
theorem dX9_answers_76 : decode cX9_answers 76 = .ok (.sipush 135, 3) := by decide +kernel
theorem dX9_answers_79 : decode cX9_answers 79 = .ok (.if_icmp .lt 25, 3) := by decide +kernel
theorem dX9_answers_82 : decode cX9_answers 82 = .ok (.aload_n 0, 1) := by decide +kernel
theorem dX9_answers_83 : decode cX9_answers 83 = .ok (.getfield 7, 3) := by decide +kernel
theorem dX9_answers_86 : decode cX9_answers 86 = .ok (.iload 4, 2) := by decide +kernel
theorem dX9_answers_88 : decode cX9_answers 88 = .ok (.aload_n 0, 1) := by decide +kernel
