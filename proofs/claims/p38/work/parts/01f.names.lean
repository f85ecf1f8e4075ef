theorem dX7_init_1 : decode cX7_init 1 = .ok (.invokespecial 3, 3) := by decide +kernel
theorem dX7_init_4 : decode cX7_init 4 = .ok (.aload_n 0, 1) := by decide +kernel
theorem dX7_init_5 : decode cX7_init 5 = .ok (.new 9, 3) := by decide +kernel
theorem dX7_init_8 : decode cX7_init 8 = .ok (.dup, 1) := by decide +kernel
theorem dX7_init_9 : decode cX7_init 9 = .ok (.invokespecial 11, 3) := by decide +kernel
theorem dX7_init_12 : decode cX7_init 12 = .ok (.putfield 12, 3) := by decide +kernel
theorem dX7_init_15 : decode cX7_init 15 = .ok (.aload_n 0, 1) := by decide +kernel
theorem dX7_init_16 : decode cX7_init 16 = .ok (.new 18, 3) := by decide +kernel
theorem dX7_init_19 : decode cX7_init 19 = .ok (.dup, 1) := by decide +kernel
theorem dX7_init_20 : decode cX7_init 20 = .ok (.invokespecial 20, 3) := by decide +kernel
theorem dX7_init_23 : decode cX7_init 23 = .ok (.putfield 21, 3) := by decide +kernel
theorem dX7_init_26 : decode cX7_init 26 = .ok (.aload_n 0, 1) := by decide +kernel
theorem dX7_init_27 : decode cX7_init 27 = .ok (.new 25, 3) := by decide +kernel
theorem dX7_init_30 : decode cX7_init 30 = .ok (.dup, 1) := by decide +kernel
theorem dX7_init_31 : decode cX7_init 31 = .ok (.invokespecial 27, 3) := by decide +kernel
theorem dX7_init_34 : decode cX7_init 34 = .ok (.putfield 28, 3) := by decide +kernel
theorem dX7_init_37 : decode cX7_init 37 = .ok (.aload_n 0, 1) := by decide +kernel
theorem dX7_init_38 : decode cX7_init 38 = .ok (.bipush 24, 2) := by decide +kernel
theorem dX7_init_40 : decode cX7_init 40 = .ok (.newarray .int, 2) := by decide +kernel
theorem dX7_init_42 : decode cX7_init 42 = .ok (.putfield 32, 3) := by decide +kernel
theorem dX7_init_45 : decode cX7_init 45 = .ok (.return_, 1) := by decide +kernel
set_option maxRecDepth 20000 in
theorem ggX7_copyFrom_X5_copyFrom : GoodIn wsX7_copyFrom wsX5_copyFrom := goodIn_r _ [17, 18, 19, 20, 21, 22, 23, 24, 25, 26, 27, 28, 29, 30, 31, 32, 33, 34, 35, 68, 69, 70, 71, 72, 73, 74] (by decide +kernel) (by decide +kernel)
set_option maxRecDepth 20000 in
theorem gX7_copyFrom_X5_copyFrom : GoodIn wsX7_copyFrom (wsV RX7 36 RX5 yX5_copyFrom wsX5_copyFrom) := goodIn_app (goodIn_of _ (by decide +kernel)) ggX7_copyFrom_X5_copyFrom
set_option maxRecDepth 20000 in
theorem ggX7_copyFrom_X4_copyFrom : GoodIn wsX7_copyFrom wsX4_copyFrom := goodIn_r _ [40, 41, 42, 43, 44, 25, 26, 27, 28, 29, 30, 31, 32, 33, 34, 35, 75, 76, 77, 78] (by decide +kernel) (by decide +kernel)
set_option maxRecDepth 20000 in
theorem gX7_copyFrom_X4_copyFrom : GoodIn wsX7_copyFrom (wsV RX7 40 RX4 yX4_copyFrom wsX4_copyFrom) := goodIn_app (goodIn_of _ (by decide +kernel)) ggX7_copyFrom_X4_copyFrom
set_option maxRecDepth 20000 in
theorem ggX7_copyFrom_X0_copyFrom : GoodIn wsX7_copyFrom wsX0_copyFrom := goodIn_r _ [49, 50, 51, 52, 53, 54, 55, 25, 26, 27, 28, 29, 30, 31, 32, 33, 34, 35, 79, 80, 81, 82, 83, 84] (by decide +kernel) (by decide +kernel)
set_option maxRecDepth 20000 in
theorem gX7_copyFrom_X0_copyFrom : GoodIn wsX7_copyFrom (wsV RX7 43 RX0 yX0_copyFrom wsX0_copyFrom) := goodIn_app (goodIn_of _ (by decide +kernel)) ggX7_copyFrom_X0_copyFrom
set_option maxRecDepth 20000 in
theorem ggX7_copyFrom_X8_copy : GoodIn wsX7_copyFrom wsX8_copy := goodIn_r _ [27, 28, 29, 30, 31, 32, 33, 34, 35] (by decide +kernel) (by decide +kernel)
set_option maxRecDepth 20000 in
theorem gX7_copyFrom_X8_copy_n46 : GoodIn wsX7_copyFrom (wsX8_copy) := ggX7_copyFrom_X8_copy
theorem dX7_copyFrom_0 : decode cX7_copyFrom 0 = .ok (.aload_n 0, 1) := by decide +kernel
theorem dX7_copyFrom_1 : decode cX7_copyFrom 1 = .ok (.getfield 12, 3) := by decide +kernel
theorem dX7_copyFrom_4 : decode cX7_copyFrom 4 = .ok (.aload_n 1, 1) := by decide +kernel
theorem dX7_copyFrom_5 : decode cX7_copyFrom 5 = .ok (.getfield 12, 3) := by decide +kernel
theorem dX7_copyFrom_8 : decode cX7_copyFrom 8 = .ok (.invokevirtual 36, 3) := by decide +kernel
theorem dX7_copyFrom_11 : decode cX7_copyFrom 11 = .ok (.aload_n 0, 1) := by decide +kernel
theorem dX7_copyFrom_12 : decode cX7_copyFrom 12 = .ok (.getfield 21, 3) := by decide +kernel
theorem dX7_copyFrom_15 : decode cX7_copyFrom 15 = .ok (.aload_n 1, 1) := by decide +kernel
theorem dX7_copyFrom_16 : decode cX7_copyFrom 16 = .ok (.getfield 21, 3) := by decide +kernel
theorem dX7_copyFrom_19 : decode cX7_copyFrom 19 = .ok (.invokevirtual 40, 3) := by decide +kernel
theorem dX7_copyFrom_22 : decode cX7_copyFrom 22 = .ok (.aload_n 0, 1) := by decide +kernel
theorem dX7_copyFrom_23 : decode cX7_copyFrom 23 = .ok (.getfield 28, 3) := by decide +kernel
theorem dX7_copyFrom_26 : decode cX7_copyFrom 26 = .ok (.aload_n 1, 1) := by decide +kernel
theorem dX7_copyFrom_27 : decode cX7_copyFrom 27 = .ok (.getfield 28, 3) := by decide +kernel
theorem dX7_copyFrom_30 : decode cX7_copyFrom 30 = .ok (.invokevirtual 43, 3) := by decide +kernel
theorem dX7_copyFrom_33 : decode cX7_copyFrom 33 = .ok (.aload_n 1, 1) := by decide +kernel
theorem dX7_copyFrom_34 : decode cX7_copyFrom 34 = .ok (.getfield 32, 3) := by decide +kernel
theorem dX7_copyFrom_37 : decode cX7_copyFrom 37 = .ok (.aload_n 0, 1) := by decide +kernel
theorem dX7_copyFrom_38 : decode cX7_copyFrom 38 = .ok (.getfield 32, 3) := by decide +kernel
theorem dX7_copyFrom_41 : decode cX7_copyFrom 41 = .ok (.invokestatic 46, 3) := by decide +kernel
theorem dX7_copyFrom_44 : decode cX7_copyFrom 44 = .ok (.aload_n 0, 1) := by decide +kernel
theorem dX7_copyFrom_45 : decode cX7_copyFrom 45 = .ok (.aload_n 1, 1) := by decide +kernel
theorem dX7_copyFrom_46 : decode cX7_copyFrom 46 = .ok (.getfield 50, 3) := by decide +kernel
theorem dX7_copyFrom_49 : decode cX7_copyFrom 49 = .ok (.putfield 50, 3) := by decide +kernel
theorem dX7_copyFrom_52 : decode cX7_copyFrom 52 = .ok (.aload_n 0, 1) := by decide +kernel
theorem dX7_copyFrom_53 : decode cX7_copyFrom 53 = .ok (.aload_n 1, 1) := by decide +kernel
theorem dX7_copyFrom_54 : decode cX7_copyFrom 54 = .ok (.getfield 54, 3) := by decide +kernel
theorem dX7_copyFrom_57 : decode cX7_copyFrom 57 = .ok (.putfield 54, 3) := by decide +kernel
theorem dX7_copyFrom_60 : decode cX7_copyFrom 60 = .ok (.aload_n 0, 1) := by decide +kernel
theorem dX7_copyFrom_61 : decode cX7_copyFrom 61 = .ok (.aload_n 1, 1) := by decide +kernel
theorem dX7_copyFrom_62 : decode cX7_copyFrom 62 = .ok (.getfield 57, 3) := by decide +kernel
theorem dX7_copyFrom_65 : decode cX7_copyFrom 65 = .ok (.putfield 57, 3) := by decide +kernel
theorem dX7_copyFrom_68 : decode cX7_copyFrom 68 = .ok (.aload_n 0, 1) := by decide +kernel
theorem dX7_copyFrom_69 : decode cX7_copyFrom 69 = .ok (.aload_n 1, 1) := by decide +kernel
theorem dX7_copyFrom_70 : decode cX7_copyFrom 70 = .ok (.getfield 60, 3) := by decide +kernel
theorem dX7_copyFrom_73 : decode cX7_copyFrom 73 = .ok (.putfield 60, 3) := by decide +kernel
theorem dX7_copyFrom_76 : decode cX7_copyFrom 76 = .ok (.aload_n 0, 1) := by decide +kernel
theorem dX7_copyFrom_77 : decode cX7_copyFrom 77 = .ok (.aload_n 1, 1) := by decide +kernel
theorem dX7_copyFrom_78 : decode cX7_copyFrom 78 = .ok (.getfield 63, 3) := by decide +kernel
theorem dX7_copyFrom_81 : decode cX7_copyFrom 81 = .ok (.putfield 63, 3) := by decide +kernel
theorem dX7_copyFrom_84 : decode cX7_copyFrom 84 = .ok (.aload_n 0, 1) := by decide +kernel
theorem dX7_copyFrom_85 : decode cX7_copyFrom 85 = .ok (.aload_n 1, 1) := by decide +kernel
theorem dX7_copyFrom_86 : decode cX7_copyFrom 86 = .ok (.getfield 66, 3) := by decide +kernel
theorem dX7_copyFrom_89 : decode cX7_copyFrom 89 = .ok (.putfield 66, 3) := by decide +kernel
theorem dX7_copyFrom_92 : decode cX7_copyFrom 92 = .ok (.aload_n 0, 1) := by decide +kernel
theorem dX7_copyFrom_93 : decode cX7_copyFrom 93 = .ok (.aload_n 1, 1) := by decide +kernel
theorem dX7_copyFrom_94 : decode cX7_copyFrom 94 = .ok (.getfield 69, 3) := by decide +kernel
theorem dX7_copyFrom_97 : decode cX7_copyFrom 97 = .ok (.putfield 69, 3) := by decide +kernel
theorem dX7_copyFrom_100 : decode cX7_copyFrom 100 = .ok (.aload_n 0, 1) := by decide +kernel
theorem dX7_copyFrom_101 : decode cX7_copyFrom 101 = .ok (.aload_n 1, 1) := by decide +kernel
theorem dX7_copyFrom_102 : decode cX7_copyFrom 102 = .ok (.getfield 72, 3) := by decide +kernel
theorem dX7_copyFrom_105 : decode cX7_copyFrom 105 = .ok (.putfield 72, 3) := by decide +kernel
theorem dX7_copyFrom_108 : decode cX7_copyFrom 108 = .ok (.return_, 1) := by decide +kernel
set_option maxRecDepth 20000 in
theorem ggX7_ringFirst_X8_at : GoodIn wsX7_ringFirst wsX8_at := goodIn_r _ [13] (by decide +kernel) (by decide +kernel)
set_option maxRecDepth 20000 in
theorem gX7_ringFirst_X8_at_n78 : GoodIn wsX7_ringFirst (wsX8_at) := ggX7_ringFirst_X8_at
set_option maxRecDepth 20000 in
theorem ggX7_ringFirst_X4_removeFirst : GoodIn wsX7_ringFirst wsX4_removeFirst := goodIn_r _ [18, 19, 20, 21, 22, 23, 24, 25, 26, 17, 27, 28, 29, 30, 11, 12, 13, 31, 32, 98, 99, 100, 101] (by decide +kernel) (by decide +kernel)
set_option maxRecDepth 20000 in
theorem gX7_ringFirst_X4_removeFirst : GoodIn wsX7_ringFirst (wsV RX7 87 RX4 yX4_removeFirst wsX4_removeFirst) := goodIn_app (goodIn_of _ (by decide +kernel)) ggX7_ringFirst_X4_removeFirst
set_option maxRecDepth 20000 in
theorem ggX7_ringFirst_X8_isIn : GoodIn wsX7_ringFirst wsX8_isIn := goodIn_r _ [34] (by decide +kernel) (by decide +kernel)
set_option maxRecDepth 20000 in
theorem gX7_ringFirst_X8_isIn_n90 : GoodIn wsX7_ringFirst (wsX8_isIn) := ggX7_ringFirst_X8_isIn
set_option maxRecDepth 20000 in
theorem ggX7_ringFirst_X8_add : GoodIn wsX7_ringFirst wsX8_add := goodIn_r _ [36, 37, 11, 12, 13, 38, 31, 32] (by decide +kernel) (by decide +kernel)
set_option maxRecDepth 20000 in
theorem gX7_ringFirst_X8_add_n96 : GoodIn wsX7_ringFirst (wsX8_add) := ggX7_ringFirst_X8_add
set_option maxRecDepth 20000 in
theorem ggX7_ringFirst_X5_isEnough : GoodIn wsX7_ringFirst wsX5_isEnough := goodIn_r _ [43, 44, 45, 11, 12, 13, 102, 103, 104, 105, 106, 107, 108] (by decide +kernel) (by decide +kernel)
set_option maxRecDepth 20000 in
theorem gX7_ringFirst_X5_isEnough : GoodIn wsX7_ringFirst (wsV RX7 100 RX5 yX5_isEnough wsX5_isEnough) := goodIn_app (goodIn_of _ (by decide +kernel)) ggX7_ringFirst_X5_isEnough
set_option maxRecDepth 20000 in
theorem ggX7_ringFirst_X7_miss : GoodIn wsX7_ringFirst wsX7_miss := goodIn_r _ [50, 51, 9, 52, 35, 12, 36, 37, 11, 13, 38, 31, 32, 86, 87, 88, 89, 90, 91, 92, 93, 94, 95, 96, 97, 102, 103, 104, 105, 106, 107, 108] (by decide +kernel) (by decide +kernel)
set_option maxRecDepth 20000 in
theorem gX7_ringFirst_X7_miss : GoodIn wsX7_ringFirst (wsV RX7 103 RX7 yX7_miss wsX7_miss) := goodIn_app (goodIn_of _ (by decide +kernel)) ggX7_ringFirst_X7_miss
set_option maxRecDepth 20000 in
theorem ggX7_ringFirst_X7_answer : GoodIn wsX7_ringFirst wsX7_answer := goodIn_r _ [56, 57, 9, 58, 7, 5, 59, 60, 35, 12, 36, 37, 11, 13, 38, 31, 32, 61, 62, 63, 42, 64, 45, 65, 66, 22, 67, 68, 69, 70, 71, 72, 73, 74, 75, 76, 77, 78, 79, 80, 81, 82, 83, 84, 85, 86, 87, 88, 89, 90, 91, 92, 93, 94, 95, 96, 97, 102, 103, 104, 105, 106, 107, 108, 109, 110, 111, 112, 113, 114] (by decide +kernel) (by decide +kernel)
set_option maxRecDepth 20000 in
theorem gX7_ringFirst_X7_answer : GoodIn wsX7_ringFirst (wsV RX7 107 RX7 yX7_answer wsX7_answer) := goodIn_app (goodIn_of _ (by decide +kernel)) ggX7_ringFirst_X7_answer
theorem dX7_ringFirst_0 : decode cX7_ringFirst 0 = .ok (.aload_n 0, 1) := by decide +kernel
theorem dX7_ringFirst_1 : decode cX7_ringFirst 1 = .ok (.getfield 21, 3) := by decide +kernel
theorem dX7_ringFirst_4 : decode cX7_ringFirst 4 = .ok (.getfield 75, 3) := by decide +kernel
theorem dX7_ringFirst_7 : decode cX7_ringFirst 7 = .ok (.iconst 0, 1) := by decide +kernel
theorem dX7_ringFirst_8 : decode cX7_ringFirst 8 = .ok (.invokestatic 78, 3) := by decide +kernel
theorem dX7_ringFirst_11 : decode cX7_ringFirst 11 = .ok (.istore_n 1, 1) := by decide +kernel
theorem dX7_ringFirst_12 : decode cX7_ringFirst 12 = .ok (.aload_n 0, 1) := by decide +kernel
theorem dX7_ringFirst_13 : decode cX7_ringFirst 13 = .ok (.getfield 21, 3) := by decide +kernel
theorem dX7_ringFirst_16 : decode cX7_ringFirst 16 = .ok (.getfield 82, 3) := by decide +kernel
theorem dX7_ringFirst_19 : decode cX7_ringFirst 19 = .ok (.iconst 0, 1) := by decide +kernel
theorem dX7_ringFirst_20 : decode cX7_ringFirst 20 = .ok (.invokestatic 78, 3) := by decide +kernel
theorem dX7_ringFirst_23 : decode cX7_ringFirst 23 = .ok (.istore_n 2, 1) := by decide +kernel
theorem dX7_ringFirst_24 : decode cX7_ringFirst 24 = .ok (.aload_n 0, 1) := by decide +kernel
theorem dX7_ringFirst_25 : decode cX7_ringFirst 25 = .ok (.aload_n 0, 1) := by decide +kernel
theorem dX7_ringFirst_26 : decode cX7_ringFirst 26 = .ok (.getfield 21, 3) := by decide +kernel
theorem dX7_ringFirst_29 : decode cX7_ringFirst 29 = .ok (.getfield 85, 3) := by decide +kernel
theorem dX7_ringFirst_32 : decode cX7_ringFirst 32 = .ok (.iconst 0, 1) := by decide +kernel
theorem dX7_ringFirst_33 : decode cX7_ringFirst 33 = .ok (.invokestatic 78, 3) := by decide +kernel
theorem dX7_ringFirst_36 : decode cX7_ringFirst 36 = .ok (.putfield 50, 3) := by decide +kernel
theorem dX7_ringFirst_39 : decode cX7_ringFirst 39 = .ok (.aload_n 0, 1) := by decide +kernel
theorem dX7_ringFirst_40 : decode cX7_ringFirst 40 = .ok (.getfield 21, 3) := by decide +kernel
theorem dX7_ringFirst_43 : decode cX7_ringFirst 43 = .ok (.invokevirtual 87, 3) := by decide +kernel
theorem dX7_ringFirst_46 : decode cX7_ringFirst 46 = .ok (.aload_n 0, 1) := by decide +kernel
theorem dX7_ringFirst_47 : decode cX7_ringFirst 47 = .ok (.dup, 1) := by decide +kernel
theorem dX7_ringFirst_48 : decode cX7_ringFirst 48 = .ok (.getfield 60, 3) := by decide +kernel
theorem dX7_ringFirst_51 : decode cX7_ringFirst 51 = .ok (.iconst 1, 1) := by decide +kernel
theorem dX7_ringFirst_52 : decode cX7_ringFirst 52 = .ok (.iadd, 1) := by decide +kernel
theorem dX7_ringFirst_53 : decode cX7_ringFirst 53 = .ok (.putfield 60, 3) := by decide +kernel
theorem dX7_ringFirst_56 : decode cX7_ringFirst 56 = .ok (.aload_n 0, 1) := by decide +kernel
theorem dX7_ringFirst_57 : decode cX7_ringFirst 57 = .ok (.getfield 32, 3) := by decide +kernel
theorem dX7_ringFirst_60 : decode cX7_ringFirst 60 = .ok (.aload_n 0, 1) := by decide +kernel
theorem dX7_ringFirst_61 : decode cX7_ringFirst 61 = .ok (.getfield 50, 3) := by decide +kernel
theorem dX7_ringFirst_64 : decode cX7_ringFirst 64 = .ok (.invokestatic 78, 3) := by decide +kernel
theorem dX7_ringFirst_67 : decode cX7_ringFirst 67 = .ok (.iload_n 1, 1) := by decide +kernel
theorem dX7_ringFirst_68 : decode cX7_ringFirst 68 = .ok (.invokestatic 90, 3) := by decide +kernel
theorem dX7_ringFirst_71 : decode cX7_ringFirst 71 = .ok (.ifCond .eq 27, 3) := by decide +kernel
theorem dX7_ringFirst_74 : decode cX7_ringFirst 74 = .ok (.aload_n 0, 1) := by decide +kernel
theorem dX7_ringFirst_75 : decode cX7_ringFirst 75 = .ok (.dup, 1) := by decide +kernel
theorem dX7_ringFirst_76 : decode cX7_ringFirst 76 = .ok (.getfield 69, 3) := by decide +kernel
theorem dX7_ringFirst_79 : decode cX7_ringFirst 79 = .ok (.iconst 1, 1) := by decide +kernel
theorem dX7_ringFirst_80 : decode cX7_ringFirst 80 = .ok (.iadd, 1) := by decide +kernel
theorem dX7_ringFirst_81 : decode cX7_ringFirst 81 = .ok (.putfield 69, 3) := by decide +kernel
theorem dX7_ringFirst_84 : decode cX7_ringFirst 84 = .ok (.aload_n 0, 1) := by decide +kernel
theorem dX7_ringFirst_85 : decode cX7_ringFirst 85 = .ok (.getfield 12, 3) := by decide +kernel
theorem dX7_ringFirst_88 : decode cX7_ringFirst 88 = .ok (.getfield 94, 3) := by decide +kernel
theorem dX7_ringFirst_91 : decode cX7_ringFirst 91 = .ok (.iload_n 1, 1) := by decide +kernel
theorem dX7_ringFirst_92 : decode cX7_ringFirst 92 = .ok (.iconst 1, 1) := by decide +kernel
theorem dX7_ringFirst_93 : decode cX7_ringFirst 93 = .ok (.invokestatic 96, 3) := by decide +kernel
theorem dX7_ringFirst_96 : decode cX7_ringFirst 96 = .ok (.iconst 2, 1) := by decide +kernel
theorem dX7_ringFirst_97 : decode cX7_ringFirst 97 = .ok (.ireturn, 1) := by decide +kernel
theorem dX7_ringFirst_98 : decode cX7_ringFirst 98 = .ok (.aload_n 0, 1) := by decide +kernel
theorem dX7_ringFirst_99 : decode cX7_ringFirst 99 = .ok (.getfield 12, 3) := by decide +kernel
theorem dX7_ringFirst_102 : decode cX7_ringFirst 102 = .ok (.iload_n 1, 1) := by decide +kernel
theorem dX7_ringFirst_103 : decode cX7_ringFirst 103 = .ok (.iload_n 2, 1) := by decide +kernel
theorem dX7_ringFirst_104 : decode cX7_ringFirst 104 = .ok (.invokevirtual 100, 3) := by decide +kernel
theorem dX7_ringFirst_107 : decode cX7_ringFirst 107 = .ok (.ifCond .ne 10, 3) := by decide +kernel
theorem dX7_ringFirst_110 : decode cX7_ringFirst 110 = .ok (.aload_n 0, 1) := by decide +kernel
theorem dX7_ringFirst_111 : decode cX7_ringFirst 111 = .ok (.iload_n 1, 1) := by decide +kernel
theorem dX7_ringFirst_112 : decode cX7_ringFirst 112 = .ok (.invokevirtual 103, 3) := by decide +kernel
theorem dX7_ringFirst_115 : decode cX7_ringFirst 115 = .ok (.iconst 0, 1) := by decide +kernel
theorem dX7_ringFirst_116 : decode cX7_ringFirst 116 = .ok (.ireturn, 1) := by decide +kernel
theorem dX7_ringFirst_117 : decode cX7_ringFirst 117 = .ok (.aload_n 0, 1) := by decide +kernel
theorem dX7_ringFirst_118 : decode cX7_ringFirst 118 = .ok (.iload_n 1, 1) := by decide +kernel
theorem dX7_ringFirst_119 : decode cX7_ringFirst 119 = .ok (.iload_n 2, 1) := by decide +kernel
theorem dX7_ringFirst_120 : decode cX7_ringFirst 120 = .ok (.invokevirtual 107, 3) := by decide +kernel
theorem dX7_ringFirst_123 : decode cX7_ringFirst 123 = .ok (.iconst 1, 1) := by decide +kernel
theorem dX7_ringFirst_124 : decode cX7_ringFirst 124 = .ok (.ireturn, 1) := by decide +kernel
set_option maxRecDepth 20000 in
theorem ggX7_miss_X8_add : GoodIn wsX7_miss wsX8_add := goodIn_r _ [6, 7, 8, 5, 9, 10, 11, 12] (by decide +kernel) (by decide +kernel)
set_option maxRecDepth 20000 in
theorem gX7_miss_X8_add_n96 : GoodIn wsX7_miss (wsX8_add) := ggX7_miss_X8_add
theorem dX7_miss_0 : decode cX7_miss 0 = .ok (.aload_n 0, 1) := by decide +kernel
theorem dX7_miss_1 : decode cX7_miss 1 = .ok (.dup, 1) := by decide +kernel
theorem dX7_miss_2 : decode cX7_miss 2 = .ok (.getfield 66, 3) := by decide +kernel
theorem dX7_miss_5 : decode cX7_miss 5 = .ok (.iconst 1, 1) := by decide +kernel
theorem dX7_miss_6 : decode cX7_miss 6 = .ok (.iadd, 1) := by decide +kernel
theorem dX7_miss_7 : decode cX7_miss 7 = .ok (.putfield 66, 3) := by decide +kernel
theorem dX7_miss_10 : decode cX7_miss 10 = .ok (.aload_n 0, 1) := by decide +kernel
theorem dX7_miss_11 : decode cX7_miss 11 = .ok (.getfield 12, 3) := by decide +kernel
theorem dX7_miss_14 : decode cX7_miss 14 = .ok (.getfield 111, 3) := by decide +kernel
theorem dX7_miss_17 : decode cX7_miss 17 = .ok (.iload_n 1, 1) := by decide +kernel
theorem dX7_miss_18 : decode cX7_miss 18 = .ok (.iconst 1, 1) := by decide +kernel
theorem dX7_miss_19 : decode cX7_miss 19 = .ok (.invokestatic 96, 3) := by decide +kernel
theorem dX7_miss_22 : decode cX7_miss 22 = .ok (.return_, 1) := by decide +kernel
set_option maxRecDepth 20000 in
theorem ggX7_answer_X8_add : GoodIn wsX7_answer wsX8_add := goodIn_r _ [10, 11, 12, 9, 13, 14, 15, 16] (by decide +kernel) (by decide +kernel)
set_option maxRecDepth 20000 in
theorem gX7_answer_X8_add_n96 : GoodIn wsX7_answer (wsX8_add) := ggX7_answer_X8_add
set_option maxRecDepth 20000 in
theorem ggX7_answer_X5_becomeRustier : GoodIn wsX7_answer wsX5_becomeRustier := goodIn_r _ [21, 22, 23, 24, 25, 26, 12, 9, 13, 15, 16, 57, 58, 59, 60, 61, 62, 63] (by decide +kernel) (by decide +kernel)
set_option maxRecDepth 20000 in
theorem gX7_answer_X5_becomeRustier : GoodIn wsX7_answer (wsV RX7 115 RX5 yX5_becomeRustier wsX5_becomeRustier) := goodIn_app (goodIn_of _ (by decide +kernel)) ggX7_answer_X5_becomeRustier
set_option maxRecDepth 20000 in
theorem ggX7_answer_X8_at : GoodIn wsX7_answer wsX8_at := goodIn_r _ [13] (by decide +kernel) (by decide +kernel)
set_option maxRecDepth 20000 in
theorem gX7_answer_X8_at_n78 : GoodIn wsX7_answer (wsX8_at) := ggX7_answer_X8_at
set_option maxRecDepth 20000 in
theorem ggX7_answer_X8_bit : GoodIn wsX7_answer wsX8_bit := goodIn_r _ [28] (by decide +kernel) (by decide +kernel)
set_option maxRecDepth 20000 in
theorem gX7_answer_X8_bit_n118 : GoodIn wsX7_answer (wsX8_bit) := ggX7_answer_X8_bit
set_option maxRecDepth 20000 in
theorem ggX7_answer_X8_put : GoodIn wsX7_answer wsX8_put := goodIn_r _ [16] (by decide +kernel) (by decide +kernel)
set_option maxRecDepth 20000 in
theorem gX7_answer_X8_put_n122 : GoodIn wsX7_answer (wsX8_put) := ggX7_answer_X8_put
set_option maxRecDepth 20000 in
theorem ggX7_answer_X0_remember : GoodIn wsX7_answer wsX0_remember := goodIn_r _ [33, 34, 35, 36, 37, 38, 39, 40, 24, 25, 26, 41, 42, 43, 44, 15, 9, 16, 64, 65, 66, 67, 68, 69] (by decide +kernel) (by decide +kernel)
set_option maxRecDepth 20000 in
theorem gX7_answer_X0_remember : GoodIn wsX7_answer (wsV RX7 125 RX0 yX0_remember wsX0_remember) := goodIn_app (goodIn_of _ (by decide +kernel)) ggX7_answer_X0_remember
theorem dX7_answer_0 : decode cX7_answer 0 = .ok (.aload_n 0, 1) := by decide +kernel
theorem dX7_answer_1 : decode cX7_answer 1 = .ok (.dup, 1) := by decide +kernel
theorem dX7_answer_2 : decode cX7_answer 2 = .ok (.getfield 63, 3) := by decide +kernel
theorem dX7_answer_5 : decode cX7_answer 5 = .ok (.iconst 1, 1) := by decide +kernel
theorem dX7_answer_6 : decode cX7_answer 6 = .ok (.iadd, 1) := by decide +kernel
theorem dX7_answer_7 : decode cX7_answer 7 = .ok (.putfield 63, 3) := by decide +kernel
theorem dX7_answer_10 : decode cX7_answer 10 = .ok (.aload_n 0, 1) := by decide +kernel
theorem dX7_answer_11 : decode cX7_answer 11 = .ok (.getfield 12, 3) := by decide +kernel
theorem dX7_answer_14 : decode cX7_answer 14 = .ok (.getfield 113, 3) := by decide +kernel
theorem dX7_answer_17 : decode cX7_answer 17 = .ok (.iload_n 1, 1) := by decide +kernel
theorem dX7_answer_18 : decode cX7_answer 18 = .ok (.iconst 1, 1) := by decide +kernel
theorem dX7_answer_19 : decode cX7_answer 19 = .ok (.invokestatic 96, 3) := by decide +kernel
theorem dX7_answer_22 : decode cX7_answer 22 = .ok (.aload_n 0, 1) := by decide +kernel
theorem dX7_answer_23 : decode cX7_answer 23 = .ok (.getfield 12, 3) := by decide +kernel
theorem dX7_answer_26 : decode cX7_answer 26 = .ok (.iload_n 1, 1) := by decide +kernel
theorem dX7_answer_27 : decode cX7_answer 27 = .ok (.invokevirtual 115, 3) := by decide +kernel
theorem dX7_answer_30 : decode cX7_answer 30 = .ok (.aload_n 0, 1) := by decide +kernel
theorem dX7_answer_31 : decode cX7_answer 31 = .ok (.getfield 32, 3) := by decide +kernel
theorem dX7_answer_34 : decode cX7_answer 34 = .ok (.aload_n 0, 1) := by decide +kernel
theorem dX7_answer_35 : decode cX7_answer 35 = .ok (.getfield 50, 3) := by decide +kernel
theorem dX7_answer_38 : decode cX7_answer 38 = .ok (.aload_n 0, 1) := by decide +kernel
theorem dX7_answer_39 : decode cX7_answer 39 = .ok (.getfield 32, 3) := by decide +kernel
theorem dX7_answer_42 : decode cX7_answer 42 = .ok (.aload_n 0, 1) := by decide +kernel
theorem dX7_answer_43 : decode cX7_answer 43 = .ok (.getfield 50, 3) := by decide +kernel
theorem dX7_answer_46 : decode cX7_answer 46 = .ok (.invokestatic 78, 3) := by decide +kernel
theorem dX7_answer_49 : decode cX7_answer 49 = .ok (.iload_n 1, 1) := by decide +kernel
theorem dX7_answer_50 : decode cX7_answer 50 = .ok (.invokestatic 118, 3) := by decide +kernel
theorem dX7_answer_53 : decode cX7_answer 53 = .ok (.ior, 1) := by decide +kernel
theorem dX7_answer_54 : decode cX7_answer 54 = .ok (.invokestatic 122, 3) := by decide +kernel
theorem dX7_answer_57 : decode cX7_answer 57 = .ok (.aload_n 0, 1) := by decide +kernel
theorem dX7_answer_58 : decode cX7_answer 58 = .ok (.getfield 28, 3) := by decide +kernel
theorem dX7_answer_61 : decode cX7_answer 61 = .ok (.iload_n 1, 1) := by decide +kernel
theorem dX7_answer_62 : decode cX7_answer 62 = .ok (.aload_n 0, 1) := by decide +kernel
theorem dX7_answer_63 : decode cX7_answer 63 = .ok (.getfield 50, 3) := by decide +kernel
theorem dX7_answer_66 : decode cX7_answer 66 = .ok (.aload_n 0, 1) := by decide +kernel
theorem dX7_answer_67 : decode cX7_answer 67 = .ok (.getfield 54, 3) := by decide +kernel
theorem dX7_answer_70 : decode cX7_answer 70 = .ok (.iload_n 2, 1) := by decide +kernel
theorem dX7_answer_71 : decode cX7_answer 71 = .ok (.invokevirtual 125, 3) := by decide +kernel
theorem dX7_answer_74 : decode cX7_answer 74 = .ok (.return_, 1) := by decide +kernel
set_option maxRecDepth 20000 in
theorem ggX7_endDay_X8_at : GoodIn wsX7_endDay wsX8_at := goodIn_r _ [10] (by decide +kernel) (by decide +kernel)
set_option maxRecDepth 20000 in
theorem gX7_endDay_X8_at_n78 : GoodIn wsX7_endDay (wsX8_at) := ggX7_endDay_X8_at
set_option maxRecDepth 20000 in
theorem ggX7_endDay_X7_miss : GoodIn wsX7_endDay wsX7_miss := goodIn_r _ [15, 16, 4, 17, 18, 9, 19, 20, 8, 10, 21, 22, 23, 41, 42, 43, 44, 45, 46, 47, 48, 49, 50, 51, 52, 57, 58, 59, 60, 61, 62, 63] (by decide +kernel) (by decide +kernel)
set_option maxRecDepth 20000 in
theorem gX7_endDay_X7_miss : GoodIn wsX7_endDay (wsV RX7 103 RX7 yX7_miss wsX7_miss) := goodIn_app (goodIn_of _ (by decide +kernel)) ggX7_endDay_X7_miss
set_option maxRecDepth 20000 in
theorem ggX7_endDay_X7_heardToday : GoodIn wsX7_endDay wsX7_heardToday := goodIn_r _ [27, 5, 41, 42, 43, 44, 45, 46, 47, 48, 49, 50, 51, 52] (by decide +kernel) (by decide +kernel)
set_option maxRecDepth 20000 in
theorem gX7_endDay_X7_heardToday : GoodIn wsX7_endDay (wsV RX7 132 RX7 yX7_heardToday wsX7_heardToday) := goodIn_app (goodIn_of _ (by decide +kernel)) ggX7_endDay_X7_heardToday
set_option maxRecDepth 20000 in
theorem ggX7_endDay_X5_loseRust : GoodIn wsX7_endDay wsX5_loseRust := goodIn_r _ [32, 33, 34, 35, 36, 37, 38, 39, 9, 40, 8, 10, 22, 23, 57, 58, 59, 60, 61, 62, 63] (by decide +kernel) (by decide +kernel)
set_option maxRecDepth 20000 in
theorem gX7_endDay_X5_loseRust : GoodIn wsX7_endDay (wsV RX7 136 RX5 yX5_loseRust wsX5_loseRust) := goodIn_app (goodIn_of _ (by decide +kernel)) ggX7_endDay_X5_loseRust
set_option maxRecDepth 20000 in
theorem ggX7_endDay_X8_put : GoodIn wsX7_endDay wsX8_put := goodIn_r _ [23] (by decide +kernel) (by decide +kernel)
set_option maxRecDepth 20000 in
theorem gX7_endDay_X8_put_n122 : GoodIn wsX7_endDay (wsX8_put) := ggX7_endDay_X8_put
theorem dX7_endDay_0 : decode cX7_endDay 0 = .ok (.aload_n 0, 1) := by decide +kernel
theorem dX7_endDay_1 : decode cX7_endDay 1 = .ok (.getfield 21, 3) := by decide +kernel
theorem dX7_endDay_4 : decode cX7_endDay 4 = .ok (.getfield 129, 3) := by decide +kernel
theorem dX7_endDay_7 : decode cX7_endDay 7 = .ok (.istore_n 1, 1) := by decide +kernel
theorem dX7_endDay_8 : decode cX7_endDay 8 = .ok (.iconst 0, 1) := by decide +kernel
theorem dX7_endDay_9 : decode cX7_endDay 9 = .ok (.istore_n 2, 1) := by decide +kernel
theorem dX7_endDay_10 : decode cX7_endDay 10 = .ok (.iload_n 2, 1) := by decide +kernel
theorem dX7_endDay_11 : decode cX7_endDay 11 = .ok (.iload_n 1, 1) := by decide +kernel
theorem dX7_endDay_12 : decode cX7_endDay 12 = .ok (.if_icmp .ge 24, 3) := by decide +kernel
theorem dX7_endDay_15 : decode cX7_endDay 15 = .ok (.aload_n 0, 1) := by decide +kernel
theorem dX7_endDay_16 : decode cX7_endDay 16 = .ok (.aload_n 0, 1) := by decide +kernel
theorem dX7_endDay_17 : decode cX7_endDay 17 = .ok (.getfield 21, 3) := by decide +kernel
theorem dX7_endDay_20 : decode cX7_endDay 20 = .ok (.getfield 75, 3) := by decide +kernel
theorem dX7_endDay_23 : decode cX7_endDay 23 = .ok (.iload_n 2, 1) := by decide +kernel
theorem dX7_endDay_24 : decode cX7_endDay 24 = .ok (.invokestatic 78, 3) := by decide +kernel
theorem dX7_endDay_27 : decode cX7_endDay 27 = .ok (.invokevirtual 103, 3) := by decide +kernel
theorem dX7_endDay_30 : decode cX7_endDay 30 = .ok (.iinc 2 1, 3) := by decide +kernel
theorem dX7_endDay_33 : decode cX7_endDay 33 = .ok (.goto (-23), 3) := by decide +kernel
theorem dX7_endDay_36 : decode cX7_endDay 36 = .ok (.aload_n 0, 1) := by decide +kernel
theorem dX7_endDay_37 : decode cX7_endDay 37 = .ok (.getfield 21, 3) := by decide +kernel
theorem dX7_endDay_40 : decode cX7_endDay 40 = .ok (.iconst 0, 1) := by decide +kernel
theorem dX7_endDay_41 : decode cX7_endDay 41 = .ok (.putfield 129, 3) := by decide +kernel
theorem dX7_endDay_44 : decode cX7_endDay 44 = .ok (.aload_n 0, 1) := by decide +kernel
theorem dX7_endDay_45 : decode cX7_endDay 45 = .ok (.getfield 12, 3) := by decide +kernel
theorem dX7_endDay_48 : decode cX7_endDay 48 = .ok (.aload_n 0, 1) := by decide +kernel
theorem dX7_endDay_49 : decode cX7_endDay 49 = .ok (.invokevirtual 132, 3) := by decide +kernel
theorem dX7_endDay_52 : decode cX7_endDay 52 = .ok (.invokevirtual 136, 3) := by decide +kernel
theorem dX7_endDay_55 : decode cX7_endDay 55 = .ok (.iconst 0, 1) := by decide +kernel
theorem dX7_endDay_56 : decode cX7_endDay 56 = .ok (.istore_n 2, 1) := by decide +kernel
theorem dX7_endDay_57 : decode cX7_endDay 57 = .ok (.iload_n 2, 1) := by decide +kernel
theorem dX7_endDay_58 : decode cX7_endDay 58 = .ok (.bipush 24, 2) := by decide +kernel
theorem dX7_endDay_60 : decode cX7_endDay 60 = .ok (.if_icmp .ge 18, 3) := by decide +kernel
theorem dX7_endDay_63 : decode cX7_endDay 63 = .ok (.aload_n 0, 1) := by decide +kernel
theorem dX7_endDay_64 : decode cX7_endDay 64 = .ok (.getfield 32, 3) := by decide +kernel
theorem dX7_endDay_67 : decode cX7_endDay 67 = .ok (.iload_n 2, 1) := by decide +kernel
theorem dX7_endDay_68 : decode cX7_endDay 68 = .ok (.iconst 0, 1) := by decide +kernel
theorem dX7_endDay_69 : decode cX7_endDay 69 = .ok (.invokestatic 122, 3) := by decide +kernel
theorem dX7_endDay_72 : decode cX7_endDay 72 = .ok (.iinc 2 1, 3) := by decide +kernel
theorem dX7_endDay_75 : decode cX7_endDay 75 = .ok (.goto (-18), 3) := by decide +kernel
theorem dX7_endDay_78 : decode cX7_endDay 78 = .ok (.aload_n 0, 1) := by decide +kernel
theorem dX7_endDay_79 : decode cX7_endDay 79 = .ok (.iconst 0, 1) := by decide +kernel
theorem dX7_endDay_80 : decode cX7_endDay 80 = .ok (.putfield 50, 3) := by decide +kernel
theorem dX7_endDay_83 : decode cX7_endDay 83 = .ok (.aload_n 0, 1) := by decide +kernel
theorem dX7_endDay_84 : decode cX7_endDay 84 = .ok (.dup, 1) := by decide +kernel
theorem dX7_endDay_85 : decode cX7_endDay 85 = .ok (.getfield 54, 3) := by decide +kernel
theorem dX7_endDay_88 : decode cX7_endDay 88 = .ok (.iconst 1, 1) := by decide +kernel
theorem dX7_endDay_89 : decode cX7_endDay 89 = .ok (.iadd, 1) := by decide +kernel
theorem dX7_endDay_90 : decode cX7_endDay 90 = .ok (.putfield 54, 3) := by decide +kernel
theorem dX7_endDay_93 : decode cX7_endDay 93 = .ok (.iload_n 1, 1) := by decide +kernel
theorem dX7_endDay_94 : decode cX7_endDay 94 = .ok (.ireturn, 1) := by decide +kernel
theorem dX7_heardToday_0 : decode cX7_heardToday 0 = .ok (.iconst 0, 1) := by decide +kernel
theorem dX7_heardToday_1 : decode cX7_heardToday 1 = .ok (.istore_n 1, 1) := by decide +kernel
theorem dX7_heardToday_2 : decode cX7_heardToday 2 = .ok (.aload_n 0, 1) := by decide +kernel
theorem dX7_heardToday_3 : decode cX7_heardToday 3 = .ok (.getfield 32, 3) := by decide +kernel
theorem dX7_heardToday_6 : decode cX7_heardToday 6 = .ok (.astore_n 2, 1) := by decide +kernel
theorem dX7_heardToday_7 : decode cX7_heardToday 7 = .ok (.aload_n 2, 1) := by decide +kernel
theorem dX7_heardToday_8 : decode cX7_heardToday 8 = .ok (.arraylength, 1) := by decide +kernel
theorem dX7_heardToday_9 : decode cX7_heardToday 9 = .ok (.istore_n 3, 1) := by decide +kernel
theorem dX7_heardToday_10 : decode cX7_heardToday 10 = .ok (.iconst 0, 1) := by decide +kernel
theorem dX7_heardToday_11 : decode cX7_heardToday 11 = .ok (.istore 4, 2) := by decide +kernel
theorem dX7_heardToday_13 : decode cX7_heardToday 13 = .ok (.iload 4, 2) := by decide +kernel
theorem dX7_heardToday_15 : decode cX7_heardToday 15 = .ok (.iload_n 3, 1) := by decide +kernel
theorem dX7_heardToday_16 : decode cX7_heardToday 16 = .ok (.if_icmp .ge 20, 3) := by decide +kernel
theorem dX7_heardToday_19 : decode cX7_heardToday 19 = .ok (.aload_n 2, 1) := by decide +kernel
theorem dX7_heardToday_20 : decode cX7_heardToday 20 = .ok (.iload 4, 2) := by decide +kernel
theorem dX7_heardToday_22 : decode cX7_heardToday 22 = .ok (.iaload, 1) := by decide +kernel
theorem dX7_heardToday_23 : decode cX7_heardToday 23 = .ok (.istore 5, 2) := by decide +kernel
theorem dX7_heardToday_25 : decode cX7_heardToday 25 = .ok (.iload_n 1, 1) := by decide +kernel
theorem dX7_heardToday_26 : decode cX7_heardToday 26 = .ok (.iload 5, 2) := by decide +kernel
theorem dX7_heardToday_28 : decode cX7_heardToday 28 = .ok (.ior, 1) := by decide +kernel
theorem dX7_heardToday_29 : decode cX7_heardToday 29 = .ok (.istore_n 1, 1) := by decide +kernel
theorem dX7_heardToday_30 : decode cX7_heardToday 30 = .ok (.iinc 4 1, 3) := by decide +kernel
theorem dX7_heardToday_33 : decode cX7_heardToday 33 = .ok (.goto (-20), 3) := by decide +kernel
theorem dX7_heardToday_36 : decode cX7_heardToday 36 = .ok (.iload_n 1, 1) := by decide +kernel
theorem dX7_heardToday_37 : decode cX7_heardToday 37 = .ok (.ireturn, 1) := by decide +kernel
set_option maxRecDepth 20000 in
theorem ggX7_answersAhead_X8_at : GoodIn wsX7_answersAhead wsX8_at := goodIn_r _ [15] (by decide +kernel) (by decide +kernel)
set_option maxRecDepth 20000 in
theorem gX7_answersAhead_X8_at_n78 : GoodIn wsX7_answersAhead (wsX8_at) := ggX7_answersAhead_X8_at
set_option maxRecDepth 20000 in
theorem ggX7_answersAhead_X7_hoursOf : GoodIn wsX7_answersAhead wsX7_hoursOf := goodIn_r _ [20, 21, 13, 14, 15, 22, 23, 24, 25, 26, 27, 28, 29, 30, 31, 32, 33, 34, 35, 36, 37] (by decide +kernel) (by decide +kernel)
set_option maxRecDepth 20000 in
theorem gX7_answersAhead_X7_hoursOf : GoodIn wsX7_answersAhead (wsV RX7 145 RX7 yX7_hoursOf wsX7_hoursOf) := goodIn_app (goodIn_of _ (by decide +kernel)) ggX7_answersAhead_X7_hoursOf
set_option maxRecDepth 20000 in
theorem ggX7_answersAhead_X8_isIn : GoodIn wsX7_answersAhead wsX8_isIn := goodIn_r _ [23] (by decide +kernel) (by decide +kernel)
set_option maxRecDepth 20000 in
theorem gX7_answersAhead_X8_isIn_n90 : GoodIn wsX7_answersAhead (wsX8_isIn) := ggX7_answersAhead_X8_isIn
set_option maxRecDepth 20000 in
theorem ggX7_answersAhead_X8_bit : GoodIn wsX7_answersAhead wsX8_bit := goodIn_r _ [25] (by decide +kernel) (by decide +kernel)
set_option maxRecDepth 20000 in
theorem gX7_answersAhead_X8_bit_n118 : GoodIn wsX7_answersAhead (wsX8_bit) := ggX7_answersAhead_X8_bit
theorem dX7_answersAhead_0 : decode cX7_answersAhead 0 = .ok (.aload_n 0, 1) := by decide +kernel
theorem dX7_answersAhead_1 : decode cX7_answersAhead 1 = .ok (.getfield 12, 3) := by decide +kernel
theorem dX7_answersAhead_4 : decode cX7_answersAhead 4 = .ok (.getfield 139, 3) := by decide +kernel
theorem dX7_answersAhead_7 : decode cX7_answersAhead 7 = .ok (.iload_n 1, 1) := by decide +kernel
theorem dX7_answersAhead_8 : decode cX7_answersAhead 8 = .ok (.invokestatic 78, 3) := by decide +kernel
theorem dX7_answersAhead_11 : decode cX7_answersAhead 11 = .ok (.ifCond .ne 5, 3) := by decide +kernel
theorem dX7_answersAhead_14 : decode cX7_answersAhead 14 = .ok (.iconst 0, 1) := by decide +kernel
theorem dX7_answersAhead_15 : decode cX7_answersAhead 15 = .ok (.ireturn, 1) := by decide +kernel
theorem dX7_answersAhead_16 : decode cX7_answersAhead 16 = .ok (.iconst 0, 1) := by decide +kernel
theorem dX7_answersAhead_17 : decode cX7_answersAhead 17 = .ok (.istore_n 2, 1) := by decide +kernel
theorem dX7_answersAhead_18 : decode cX7_answersAhead 18 = .ok (.aload_n 0, 1) := by decide +kernel
theorem dX7_answersAhead_19 : decode cX7_answersAhead 19 = .ok (.getfield 12, 3) := by decide +kernel
theorem dX7_answersAhead_22 : decode cX7_answersAhead 22 = .ok (.getfield 142, 3) := by decide +kernel
theorem dX7_answersAhead_25 : decode cX7_answersAhead 25 = .ok (.iload_n 1, 1) := by decide +kernel
theorem dX7_answersAhead_26 : decode cX7_answersAhead 26 = .ok (.invokestatic 78, 3) := by decide +kernel
theorem dX7_answersAhead_29 : decode cX7_answersAhead 29 = .ok (.istore_n 3, 1) := by decide +kernel
theorem dX7_answersAhead_30 : decode cX7_answersAhead 30 = .ok (.aload_n 0, 1) := by decide +kernel
theorem dX7_answersAhead_31 : decode cX7_answersAhead 31 = .ok (.iload_n 1, 1) := by decide +kernel
theorem dX7_answersAhead_32 : decode cX7_answersAhead 32 = .ok (.invokevirtual 145, 3) := by decide +kernel
theorem dX7_answersAhead_35 : decode cX7_answersAhead 35 = .ok (.istore 4, 2) := by decide +kernel
theorem dX7_answersAhead_37 : decode cX7_answersAhead 37 = .ok (.iconst 0, 1) := by decide +kernel
theorem dX7_answersAhead_38 : decode cX7_answersAhead 38 = .ok (.istore 5, 2) := by decide +kernel
theorem dX7_answersAhead_40 : decode cX7_answersAhead 40 = .ok (.iload 5, 2) := by decide +kernel
theorem dX7_answersAhead_42 : decode cX7_answersAhead 42 = .ok (.aload_n 0, 1) := by decide +kernel
theorem dX7_answersAhead_43 : decode cX7_answersAhead 43 = .ok (.getfield 21, 3) := by decide +kernel
theorem dX7_answersAhead_46 : decode cX7_answersAhead 46 = .ok (.getfield 129, 3) := by decide +kernel
theorem dX7_answersAhead_49 : decode cX7_answersAhead 49 = .ok (.if_icmp .ge 99, 3) := by decide +kernel
theorem dX7_answersAhead_52 : decode cX7_answersAhead 52 = .ok (.aload_n 0, 1) := by decide +kernel
theorem dX7_answersAhead_53 : decode cX7_answersAhead 53 = .ok (.getfield 21, 3) := by decide +kernel
theorem dX7_answersAhead_56 : decode cX7_answersAhead 56 = .ok (.getfield 85, 3) := by decide +kernel
theorem dX7_answersAhead_59 : decode cX7_answersAhead 59 = .ok (.iload 5, 2) := by decide +kernel
theorem dX7_answersAhead_61 : decode cX7_answersAhead 61 = .ok (.invokestatic 78, 3) := by decide +kernel
theorem dX7_answersAhead_64 : decode cX7_answersAhead 64 = .ok (.istore 6, 2) := by decide +kernel
theorem dX7_answersAhead_66 : decode cX7_answersAhead 66 = .ok (.aload_n 0, 1) := by decide +kernel
theorem dX7_answersAhead_67 : decode cX7_answersAhead 67 = .ok (.getfield 21, 3) := by decide +kernel
theorem dX7_answersAhead_70 : decode cX7_answersAhead 70 = .ok (.getfield 75, 3) := by decide +kernel
theorem dX7_answersAhead_73 : decode cX7_answersAhead 73 = .ok (.iload 5, 2) := by decide +kernel
theorem dX7_answersAhead_75 : decode cX7_answersAhead 75 = .ok (.invokestatic 78, 3) := by decide +kernel
theorem dX7_answersAhead_78 : decode cX7_answersAhead 78 = .ok (.iload_n 1, 1) := by decide +kernel
theorem dX7_answersAhead_79 : decode cX7_answersAhead 79 = .ok (.if_icmp .ne 7, 3) := by decide +kernel
theorem dX7_answersAhead_82 : decode cX7_answersAhead 82 = .ok (.iconst 1, 1) := by decide +kernel
theorem dX7_answersAhead_83 : decode cX7_answersAhead 83 = .ok (.goto 4, 3) := by decide +kernel
theorem dX7_answersAhead_86 : decode cX7_answersAhead 86 = .ok (.iconst 0, 1) := by decide +kernel
theorem dX7_answersAhead_87 : decode cX7_answersAhead 87 = .ok (.istore 7, 2) := by decide +kernel
theorem dX7_answersAhead_89 : decode cX7_answersAhead 89 = .ok (.iload 7, 2) := by decide +kernel
theorem dX7_answersAhead_91 : decode cX7_answersAhead 91 = .ok (.ifCond .eq 51, 3) := by decide +kernel
theorem dX7_answersAhead_94 : decode cX7_answersAhead 94 = .ok (.iload 4, 2) := by decide +kernel
theorem dX7_answersAhead_96 : decode cX7_answersAhead 96 = .ok (.iload 6, 2) := by decide +kernel
theorem dX7_answersAhead_98 : decode cX7_answersAhead 98 = .ok (.invokestatic 90, 3) := by decide +kernel
theorem dX7_answersAhead_101 : decode cX7_answersAhead 101 = .ok (.ifCond .ne 41, 3) := by decide +kernel
theorem dX7_answersAhead_104 : decode cX7_answersAhead 104 = .ok (.aload_n 0, 1) := by decide +kernel
theorem dX7_answersAhead_105 : decode cX7_answersAhead 105 = .ok (.getfield 21, 3) := by decide +kernel
theorem dX7_answersAhead_108 : decode cX7_answersAhead 108 = .ok (.getfield 82, 3) := by decide +kernel
theorem dX7_answersAhead_111 : decode cX7_answersAhead 111 = .ok (.iload 5, 2) := by decide +kernel
theorem dX7_answersAhead_113 : decode cX7_answersAhead 113 = .ok (.invokestatic 78, 3) := by decide +kernel
theorem dX7_answersAhead_116 : decode cX7_answersAhead 116 = .ok (.iload_n 3, 1) := by decide +kernel
theorem dX7_answersAhead_117 : decode cX7_answersAhead 117 = .ok (.if_icmp .le 25, 3) := by decide +kernel
theorem dX7_answersAhead_120 : decode cX7_answersAhead 120 = .ok (.iload 4, 2) := by decide +kernel
theorem dX7_answersAhead_122 : decode cX7_answersAhead 122 = .ok (.iload 6, 2) := by decide +kernel
theorem dX7_answersAhead_124 : decode cX7_answersAhead 124 = .ok (.invokestatic 118, 3) := by decide +kernel
theorem dX7_answersAhead_127 : decode cX7_answersAhead 127 = .ok (.ior, 1) := by decide +kernel
theorem dX7_answersAhead_128 : decode cX7_answersAhead 128 = .ok (.istore 4, 2) := by decide +kernel
theorem dX7_answersAhead_130 : decode cX7_answersAhead 130 = .ok (.iload_n 3, 1) := by decide +kernel
theorem dX7_answersAhead_131 : decode cX7_answersAhead 131 = .ok (.iconst 1, 1) := by decide +kernel
theorem dX7_answersAhead_132 : decode cX7_answersAhead 132 = .ok (.iadd, 1) := by decide +kernel
theorem dX7_answersAhead_133 : decode cX7_answersAhead 133 = .ok (.bipush 9, 2) := by decide +kernel
theorem dX7_answersAhead_135 : decode cX7_answersAhead 135 = .ok (.invokestatic 148, 3) := by decide +kernel
theorem dX7_answersAhead_138 : decode cX7_answersAhead 138 = .ok (.istore_n 3, 1) := by decide +kernel
theorem dX7_answersAhead_139 : decode cX7_answersAhead 139 = .ok (.iinc 2 1, 3) := by decide +kernel
theorem dX7_answersAhead_142 : decode cX7_answersAhead 142 = .ok (.iinc 5 1, 3) := by decide +kernel
theorem dX7_answersAhead_145 : decode cX7_answersAhead 145 = .ok (.goto (-105), 3) := by decide +kernel
theorem dX7_answersAhead_148 : decode cX7_answersAhead 148 = .ok (.iload_n 2, 1) := by decide +kernel
theorem dX7_answersAhead_149 : decode cX7_answersAhead 149 = .ok (.ireturn, 1) := by decide +kernel
set_option maxRecDepth 20000 in
theorem ggX7_hoursOf_X8_at : GoodIn wsX7_hoursOf wsX8_at := goodIn_r _ [4] (by decide +kernel) (by decide +kernel)
set_option maxRecDepth 20000 in
theorem gX7_hoursOf_X8_at_n78 : GoodIn wsX7_hoursOf (wsX8_at) := ggX7_hoursOf_X8_at
set_option maxRecDepth 20000 in
theorem ggX7_hoursOf_X8_isIn : GoodIn wsX7_hoursOf wsX8_isIn := goodIn_r _ [6] (by decide +kernel) (by decide +kernel)
set_option maxRecDepth 20000 in
theorem gX7_hoursOf_X8_isIn_n90 : GoodIn wsX7_hoursOf (wsX8_isIn) := ggX7_hoursOf_X8_isIn
set_option maxRecDepth 20000 in
theorem ggX7_hoursOf_X8_bit : GoodIn wsX7_hoursOf wsX8_bit := goodIn_r _ [8] (by decide +kernel) (by decide +kernel)
set_option maxRecDepth 20000 in
theorem gX7_hoursOf_X8_bit_n118 : GoodIn wsX7_hoursOf (wsX8_bit) := ggX7_hoursOf_X8_bit
theorem dX7_hoursOf_0 : decode cX7_hoursOf 0 = .ok (.iconst 0, 1) := by decide +kernel
theorem dX7_hoursOf_1 : decode cX7_hoursOf 1 = .ok (.istore_n 2, 1) := by decide +kernel
theorem dX7_hoursOf_2 : decode cX7_hoursOf 2 = .ok (.iconst 0, 1) := by decide +kernel
theorem dX7_hoursOf_3 : decode cX7_hoursOf 3 = .ok (.istore_n 3, 1) := by decide +kernel
theorem dX7_hoursOf_4 : decode cX7_hoursOf 4 = .ok (.iload_n 3, 1) := by decide +kernel
theorem dX7_hoursOf_5 : decode cX7_hoursOf 5 = .ok (.bipush 24, 2) := by decide +kernel
theorem dX7_hoursOf_7 : decode cX7_hoursOf 7 = .ok (.if_icmp .ge 31, 3) := by decide +kernel
theorem dX7_hoursOf_10 : decode cX7_hoursOf 10 = .ok (.aload_n 0, 1) := by decide +kernel
theorem dX7_hoursOf_11 : decode cX7_hoursOf 11 = .ok (.getfield 32, 3) := by decide +kernel
theorem dX7_hoursOf_14 : decode cX7_hoursOf 14 = .ok (.iload_n 3, 1) := by decide +kernel
theorem dX7_hoursOf_15 : decode cX7_hoursOf 15 = .ok (.invokestatic 78, 3) := by decide +kernel
theorem dX7_hoursOf_18 : decode cX7_hoursOf 18 = .ok (.iload_n 1, 1) := by decide +kernel
theorem dX7_hoursOf_19 : decode cX7_hoursOf 19 = .ok (.invokestatic 90, 3) := by decide +kernel
theorem dX7_hoursOf_22 : decode cX7_hoursOf 22 = .ok (.ifCond .eq 10, 3) := by decide +kernel
theorem dX7_hoursOf_25 : decode cX7_hoursOf 25 = .ok (.iload_n 2, 1) := by decide +kernel
theorem dX7_hoursOf_26 : decode cX7_hoursOf 26 = .ok (.iload_n 3, 1) := by decide +kernel
theorem dX7_hoursOf_27 : decode cX7_hoursOf 27 = .ok (.invokestatic 118, 3) := by decide +kernel
theorem dX7_hoursOf_30 : decode cX7_hoursOf 30 = .ok (.ior, 1) := by decide +kernel
theorem dX7_hoursOf_31 : decode cX7_hoursOf 31 = .ok (.istore_n 2, 1) := by decide +kernel
theorem dX7_hoursOf_32 : decode cX7_hoursOf 32 = .ok (.iinc 3 1, 3) := by decide +kernel
theorem dX7_hoursOf_35 : decode cX7_hoursOf 35 = .ok (.goto (-31), 3) := by decide +kernel
theorem dX7_hoursOf_38 : decode cX7_hoursOf 38 = .ok (.iload_n 2, 1) := by decide +kernel
theorem dX7_hoursOf_39 : decode cX7_hoursOf 39 = .ok (.ireturn, 1) := by decide +kernel
set_option maxRecDepth 20000 in
theorem ggX8_init_X7_init : GoodIn wsX8_init wsX7_init := goodIn_r _ [28, 29, 2, 3, 30, 31, 32, 33, 34, 35, 36, 37, 38, 39, 40, 41, 42, 43, 44, 45, 46, 47, 48, 49, 50, 51, 52, 53, 54, 55, 56, 57, 58, 59, 60, 61, 62, 63, 64, 65, 116, 117, 118, 119, 120, 121, 122, 84, 85, 86, 87, 88, 89, 90, 91, 92, 93, 94, 95, 123, 124, 125, 126, 127, 128, 129, 130, 131, 132] (by decide +kernel) (by decide +kernel)
set_option maxRecDepth 20000 in
theorem gX8_init_X7_init_n11 : GoodIn wsX8_init (wsX7_init) := ggX8_init_X7_init
set_option maxRecDepth 20000 in
theorem ggX8_init_X1_init : GoodIn wsX8_init wsX1_init := goodIn_r _ [67, 68, 2, 3, 69, 70, 105, 106, 107] (by decide +kernel) (by decide +kernel)
set_option maxRecDepth 20000 in
theorem gX8_init_X1_init_n21 : GoodIn wsX8_init (wsX1_init) := ggX8_init_X1_init
set_option maxRecDepth 20000 in
theorem ggX8_init_X6_init : GoodIn wsX8_init wsX6_init := goodIn_r _ [72, 73, 2, 3, 42, 74, 108, 109] (by decide +kernel) (by decide +kernel)
set_option maxRecDepth 20000 in
theorem gX8_init_X6_init_n28 : GoodIn wsX8_init (wsX6_init) := ggX8_init_X6_init
set_option maxRecDepth 20000 in
theorem ggX8_init_X3_init : GoodIn wsX8_init wsX3_init := goodIn_r _ [76, 77, 2, 3, 42, 78, 79, 110, 111, 112, 113] (by decide +kernel) (by decide +kernel)
set_option maxRecDepth 20000 in
theorem gX8_init_X3_init_n35 : GoodIn wsX8_init (wsX3_init) := ggX8_init_X3_init
set_option maxRecDepth 20000 in
theorem ggX8_init_X2_init : GoodIn wsX8_init wsX2_init := goodIn_r _ [81, 82, 2, 3, 42, 83, 114, 115] (by decide +kernel) (by decide +kernel)
set_option maxRecDepth 20000 in
theorem gX8_init_X2_init_n42 : GoodIn wsX8_init (wsX2_init) := ggX8_init_X2_init
theorem dX8_init_0 : decode cX8_init 0 = .ok (.aload_n 0, 1) := by decide +kernel
theorem dX8_init_1 : decode cX8_init 1 = .ok (.invokespecial 3, 3) := by decide +kernel
theorem dX8_init_4 : decode cX8_init 4 = .ok (.aload_n 0, 1) := by decide +kernel
theorem dX8_init_5 : decode cX8_init 5 = .ok (.new 9, 3) := by decide +kernel
theorem dX8_init_8 : decode cX8_init 8 = .ok (.dup, 1) := by decide +kernel
theorem dX8_init_9 : decode cX8_init 9 = .ok (.invokespecial 11, 3) := by decide +kernel
theorem dX8_init_12 : decode cX8_init 12 = .ok (.putfield 12, 3) := by decide +kernel
theorem dX8_init_15 : decode cX8_init 15 = .ok (.aload_n 0, 1) := by decide +kernel
theorem dX8_init_16 : decode cX8_init 16 = .ok (.new 9, 3) := by decide +kernel
theorem dX8_init_19 : decode cX8_init 19 = .ok (.dup, 1) := by decide +kernel
theorem dX8_init_20 : decode cX8_init 20 = .ok (.invokespecial 11, 3) := by decide +kernel
theorem dX8_init_23 : decode cX8_init 23 = .ok (.putfield 16, 3) := by decide +kernel
theorem dX8_init_26 : decode cX8_init 26 = .ok (.aload_n 0, 1) := by decide +kernel
theorem dX8_init_27 : decode cX8_init 27 = .ok (.new 19, 3) := by decide +kernel
theorem dX8_init_30 : decode cX8_init 30 = .ok (.dup, 1) := by decide +kernel
theorem dX8_init_31 : decode cX8_init 31 = .ok (.invokespecial 21, 3) := by decide +kernel
theorem dX8_init_34 : decode cX8_init 34 = .ok (.putfield 22, 3) := by decide +kernel
theorem dX8_init_37 : decode cX8_init 37 = .ok (.aload_n 0, 1) := by decide +kernel
theorem dX8_init_38 : decode cX8_init 38 = .ok (.new 26, 3) := by decide +kernel
theorem dX8_init_41 : decode cX8_init 41 = .ok (.dup, 1) := by decide +kernel
theorem dX8_init_42 : decode cX8_init 42 = .ok (.invokespecial 28, 3) := by decide +kernel
theorem dX8_init_45 : decode cX8_init 45 = .ok (.putfield 29, 3) := by decide +kernel
theorem dX8_init_48 : decode cX8_init 48 = .ok (.aload_n 0, 1) := by decide +kernel
theorem dX8_init_49 : decode cX8_init 49 = .ok (.new 33, 3) := by decide +kernel
theorem dX8_init_52 : decode cX8_init 52 = .ok (.dup, 1) := by decide +kernel
theorem dX8_init_53 : decode cX8_init 53 = .ok (.invokespecial 35, 3) := by decide +kernel
theorem dX8_init_56 : decode cX8_init 56 = .ok (.putfield 36, 3) := by decide +kernel
theorem dX8_init_59 : decode cX8_init 59 = .ok (.aload_n 0, 1) := by decide +kernel
theorem dX8_init_60 : decode cX8_init 60 = .ok (.new 40, 3) := by decide +kernel
theorem dX8_init_63 : decode cX8_init 63 = .ok (.dup, 1) := by decide +kernel
theorem dX8_init_64 : decode cX8_init 64 = .ok (.invokespecial 42, 3) := by decide +kernel
theorem dX8_init_67 : decode cX8_init 67 = .ok (.putfield 43, 3) := by decide +kernel
theorem dX8_init_70 : decode cX8_init 70 = .ok (.aload_n 0, 1) := by decide +kernel
theorem dX8_init_71 : decode cX8_init 71 = .ok (.sipush (-1015), 3) := by decide +kernel
theorem dX8_init_74 : decode cX8_init 74 = .ok (.putfield 47, 3) := by decide +kernel
theorem dX8_init_77 : decode cX8_init 77 = .ok (.aload_n 0, 1) := by decide +kernel
theorem dX8_init_78 : decode cX8_init 78 = .ok (.sipush (-1015), 3) := by decide +kernel
theorem dX8_init_81 : decode cX8_init 81 = .ok (.putfield 51, 3) := by decide +kernel
theorem dX8_init_84 : decode cX8_init 84 = .ok (.return_, 1) := by decide +kernel
set_option maxRecDepth 20000 in
theorem ggX8_rope_X1_note : GoodIn wsX8_rope wsX1_note := goodIn_r _ [7, 8, 9, 10, 11, 6, 12, 13, 14, 15, 16, 17, 18, 19, 20, 21, 22, 23, 24, 25, 26, 27, 28, 29, 30, 31, 32, 33, 34, 35, 36, 37, 38, 39, 40, 41, 42, 43, 44, 45, 46, 47, 48, 49, 50, 51, 52, 53, 54, 55, 56, 57, 58, 59, 60, 61, 62, 63, 64, 65, 66, 67, 68, 69, 70, 71, 72, 73, 74, 75, 76, 77, 78, 79, 80, 81, 82, 83, 84, 85, 86, 87, 88, 89, 90, 91, 92, 93, 94, 95, 96, 97, 98, 99, 100, 141, 142, 143, 144, 145, 146, 147, 148, 149, 150, 151, 152, 153, 154, 155, 156, 157, 158, 159, 160, 161, 162, 163, 164, 165, 166, 167, 168, 169, 170, 171, 172] (by decide +kernel) (by decide +kernel)
set_option maxRecDepth 20000 in
theorem gX8_rope_X1_note : GoodIn wsX8_rope (wsV RX8 54 RX1 yX1_note wsX1_note) := goodIn_app (goodIn_of _ (by decide +kernel)) ggX8_rope_X1_note
set_option maxRecDepth 20000 in
theorem ggX8_rope_X8_bringRope : GoodIn wsX8_rope wsX8_bringRope := goodIn_r _ [104, 2, 105, 106, 107, 108, 80, 109, 110, 111, 112, 113, 114, 115, 116, 117, 118, 28, 119, 78, 43, 44, 120, 121, 132, 133, 134, 135, 136, 137, 138, 139, 140, 144, 145, 146, 147, 148, 149, 150, 151, 152, 153, 154, 155, 156, 157, 158, 159, 160, 161, 162] (by decide +kernel) (by decide +kernel)
set_option maxRecDepth 20000 in
theorem gX8_rope_X8_bringRope : GoodIn wsX8_rope (wsV RX8 58 RX8 yX8_bringRope wsX8_bringRope) := goodIn_app (goodIn_of _ (by decide +kernel)) ggX8_rope_X8_bringRope
set_option maxRecDepth 20000 in
theorem ggX8_rope_X8_settle : GoodIn wsX8_rope wsX8_settle := goodIn_r _ [125, 1, 126, 127, 128, 6, 129, 8, 130, 131, 83, 84, 85, 17, 18, 19, 20, 132, 133, 134, 135, 136, 137, 138, 139, 140, 141, 142, 143] (by decide +kernel) (by decide +kernel)
set_option maxRecDepth 20000 in
theorem gX8_rope_X8_settle : GoodIn wsX8_rope (wsV RX8 62 RX8 yX8_settle wsX8_settle) := goodIn_app (goodIn_of _ (by decide +kernel)) ggX8_rope_X8_settle
theorem dX8_rope_0 : decode cX8_rope 0 = .ok (.aload_n 0, 1) := by decide +kernel
theorem dX8_rope_1 : decode cX8_rope 1 = .ok (.getfield 22, 3) := by decide +kernel
theorem dX8_rope_4 : decode cX8_rope 4 = .ok (.aload_n 0, 1) := by decide +kernel
theorem dX8_rope_5 : decode cX8_rope 5 = .ok (.getfield 12, 3) := by decide +kernel
theorem dX8_rope_8 : decode cX8_rope 8 = .ok (.invokevirtual 54, 3) := by decide +kernel
theorem dX8_rope_11 : decode cX8_rope 11 = .ok (.aload_n 0, 1) := by decide +kernel
theorem dX8_rope_12 : decode cX8_rope 12 = .ok (.aload_n 0, 1) := by decide +kernel
theorem dX8_rope_13 : decode cX8_rope 13 = .ok (.iload_n 1, 1) := by decide +kernel
theorem dX8_rope_14 : decode cX8_rope 14 = .ok (.invokevirtual 58, 3) := by decide +kernel
theorem dX8_rope_17 : decode cX8_rope 17 = .ok (.invokevirtual 62, 3) := by decide +kernel
theorem dX8_rope_20 : decode cX8_rope 20 = .ok (.ireturn, 1) := by decide +kernel
set_option maxRecDepth 20000 in
theorem ggX8_move_X1_note : GoodIn wsX8_move wsX1_note := goodIn_r _ [7, 8, 9, 10, 11, 6, 12, 13, 14, 15, 16, 17, 18, 19, 20, 21, 22, 23, 24, 25, 26, 27, 28, 29, 30, 31, 32, 33, 34, 35, 36, 37, 38, 39, 40, 41, 42, 43, 44, 45, 46, 47, 48, 49, 50, 51, 52, 53, 54, 55, 56, 57, 58, 59, 60, 61, 62, 63, 64, 65, 66, 67, 68, 69, 70, 71, 72, 73, 74, 75, 76, 77, 78, 79, 80, 81, 82, 83, 84, 85, 86, 87, 88, 89, 90, 91, 92, 93, 94, 95, 96, 97, 98, 99, 100, 145, 146, 147, 148, 149, 150, 151, 152, 153, 154, 155, 156, 157, 158, 159, 160, 161, 162, 163, 164, 165, 166, 167, 168, 169, 170, 171, 172, 173, 174, 175, 176] (by decide +kernel) (by decide +kernel)
set_option maxRecDepth 20000 in
theorem gX8_move_X1_note : GoodIn wsX8_move (wsV RX8 54 RX1 yX1_note wsX1_note) := goodIn_app (goodIn_of _ (by decide +kernel)) ggX8_move_X1_note
set_option maxRecDepth 20000 in
theorem ggX8_move_X8_giveRope : GoodIn wsX8_move wsX8_giveRope := goodIn_r _ [104, 2, 105, 106, 107, 108, 109, 28, 110, 78, 111, 112, 80, 113, 114, 115, 116, 117, 118, 119, 120, 121, 122, 123, 124, 125, 136, 137, 138, 139, 140, 141, 142, 143, 144, 148, 149, 150, 151, 152, 153, 154, 155, 156, 157, 158, 159, 160, 161, 162, 163, 164, 165, 166] (by decide +kernel) (by decide +kernel)
set_option maxRecDepth 20000 in
theorem gX8_move_X8_giveRope : GoodIn wsX8_move (wsV RX8 65 RX8 yX8_giveRope wsX8_giveRope) := goodIn_app (goodIn_of _ (by decide +kernel)) ggX8_move_X8_giveRope
set_option maxRecDepth 20000 in
theorem ggX8_move_X8_settle : GoodIn wsX8_move wsX8_settle := goodIn_r _ [129, 1, 130, 131, 132, 6, 133, 8, 134, 135, 83, 84, 85, 17, 18, 19, 20, 136, 137, 138, 139, 140, 141, 142, 143, 144, 145, 146, 147] (by decide +kernel) (by decide +kernel)
set_option maxRecDepth 20000 in
theorem gX8_move_X8_settle : GoodIn wsX8_move (wsV RX8 62 RX8 yX8_settle wsX8_settle) := goodIn_app (goodIn_of _ (by decide +kernel)) ggX8_move_X8_settle
theorem dX8_move_0 : decode cX8_move 0 = .ok (.aload_n 0, 1) := by decide +kernel
theorem dX8_move_1 : decode cX8_move 1 = .ok (.getfield 22, 3) := by decide +kernel
theorem dX8_move_4 : decode cX8_move 4 = .ok (.aload_n 0, 1) := by decide +kernel
theorem dX8_move_5 : decode cX8_move 5 = .ok (.getfield 12, 3) := by decide +kernel
theorem dX8_move_8 : decode cX8_move 8 = .ok (.invokevirtual 54, 3) := by decide +kernel
theorem dX8_move_11 : decode cX8_move 11 = .ok (.aload_n 0, 1) := by decide +kernel
theorem dX8_move_12 : decode cX8_move 12 = .ok (.aload_n 0, 1) := by decide +kernel
theorem dX8_move_13 : decode cX8_move 13 = .ok (.iload_n 1, 1) := by decide +kernel
theorem dX8_move_14 : decode cX8_move 14 = .ok (.iload_n 2, 1) := by decide +kernel
theorem dX8_move_15 : decode cX8_move 15 = .ok (.invokevirtual 65, 3) := by decide +kernel
theorem dX8_move_18 : decode cX8_move 18 = .ok (.invokevirtual 62, 3) := by decide +kernel
theorem dX8_move_21 : decode cX8_move 21 = .ok (.ireturn, 1) := by decide +kernel
set_option maxRecDepth 20000 in
theorem ggX8_sensor_X1_note : GoodIn wsX8_sensor wsX1_note := goodIn_r _ [7, 8, 9, 10, 11, 6, 12, 13, 14, 15, 16, 17, 18, 19, 20, 21, 22, 23, 24, 25, 26, 27, 28, 29, 30, 31, 32, 33, 34, 35, 36, 37, 38, 39, 40, 41, 42, 43, 44, 45, 46, 47, 48, 49, 50, 51, 52, 53, 54, 55, 56, 57, 58, 59, 60, 61, 62, 63, 64, 65, 66, 67, 68, 69, 70, 71, 72, 73, 74, 75, 76, 77, 78, 79, 80, 81, 82, 83, 84, 85, 86, 87, 88, 89, 90, 91, 92, 93, 94, 95, 96, 97, 98, 99, 100, 145, 146, 147, 148, 149, 150, 151, 152, 153, 154, 155, 156, 157, 158, 159, 160, 161, 162, 163, 164, 165, 166, 167, 168, 169, 170, 171, 172, 173, 174, 175, 176] (by decide +kernel) (by decide +kernel)
set_option maxRecDepth 20000 in
theorem gX8_sensor_X1_note : GoodIn wsX8_sensor (wsV RX8 54 RX1 yX1_note wsX1_note) := goodIn_app (goodIn_of _ (by decide +kernel)) ggX8_sensor_X1_note
set_option maxRecDepth 20000 in
theorem ggX8_sensor_X8_switchSensor : GoodIn wsX8_sensor wsX8_switchSensor := goodIn_r _ [104, 2, 105, 106, 107, 108, 109, 28, 110, 78, 111, 112, 80, 113, 114, 115, 116, 117, 118, 119, 120, 121, 122, 123, 124, 125, 136, 137, 138, 139, 140, 141, 142, 143, 144, 148, 149, 150, 151, 152, 153, 154, 155, 156, 157, 158, 159, 160, 161, 162, 163, 164, 165, 166] (by decide +kernel) (by decide +kernel)
set_option maxRecDepth 20000 in
theorem gX8_sensor_X8_switchSensor : GoodIn wsX8_sensor (wsV RX8 69 RX8 yX8_switchSensor wsX8_switchSensor) := goodIn_app (goodIn_of _ (by decide +kernel)) ggX8_sensor_X8_switchSensor
set_option maxRecDepth 20000 in
theorem ggX8_sensor_X8_settle : GoodIn wsX8_sensor wsX8_settle := goodIn_r _ [129, 1, 130, 131, 132, 6, 133, 8, 134, 135, 83, 84, 85, 17, 18, 19, 20, 136, 137, 138, 139, 140, 141, 142, 143, 144, 145, 146, 147] (by decide +kernel) (by decide +kernel)
set_option maxRecDepth 20000 in
theorem gX8_sensor_X8_settle : GoodIn wsX8_sensor (wsV RX8 62 RX8 yX8_settle wsX8_settle) := goodIn_app (goodIn_of _ (by decide +kernel)) ggX8_sensor_X8_settle
theorem dX8_sensor_0 : decode cX8_sensor 0 = .ok (.aload_n 0, 1) := by decide +kernel
theorem dX8_sensor_1 : decode cX8_sensor 1 = .ok (.getfield 22, 3) := by decide +kernel
theorem dX8_sensor_4 : decode cX8_sensor 4 = .ok (.aload_n 0, 1) := by decide +kernel
theorem dX8_sensor_5 : decode cX8_sensor 5 = .ok (.getfield 12, 3) := by decide +kernel
theorem dX8_sensor_8 : decode cX8_sensor 8 = .ok (.invokevirtual 54, 3) := by decide +kernel
theorem dX8_sensor_11 : decode cX8_sensor 11 = .ok (.aload_n 0, 1) := by decide +kernel
theorem dX8_sensor_12 : decode cX8_sensor 12 = .ok (.aload_n 0, 1) := by decide +kernel
theorem dX8_sensor_13 : decode cX8_sensor 13 = .ok (.iload_n 1, 1) := by decide +kernel
theorem dX8_sensor_14 : decode cX8_sensor 14 = .ok (.iload_n 2, 1) := by decide +kernel
theorem dX8_sensor_15 : decode cX8_sensor 15 = .ok (.invokevirtual 69, 3) := by decide +kernel
theorem dX8_sensor_18 : decode cX8_sensor 18 = .ok (.invokevirtual 62, 3) := by decide +kernel
theorem dX8_sensor_21 : decode cX8_sensor 21 = .ok (.ireturn, 1) := by decide +kernel
set_option maxRecDepth 20000 in
theorem ggX8_oil_X1_note : GoodIn wsX8_oil wsX1_note := goodIn_r _ [7, 8, 9, 10, 11, 6, 12, 13, 14, 15, 16, 17, 18, 19, 20, 21, 22, 23, 24, 25, 26, 27, 28, 29, 30, 31, 32, 33, 34, 35, 36, 37, 38, 39, 40, 41, 42, 43, 44, 45, 46, 47, 48, 49, 50, 51, 52, 53, 54, 55, 56, 57, 58, 59, 60, 61, 62, 63, 64, 65, 66, 67, 68, 69, 70, 71, 72, 73, 74, 75, 76, 77, 78, 79, 80, 81, 82, 83, 84, 85, 86, 87, 88, 89, 90, 91, 92, 93, 94, 95, 96, 97, 98, 99, 100, 142, 143, 144, 145, 146, 147, 148, 149, 150, 151, 152, 153, 154, 155, 156, 157, 158, 159, 160, 161, 162, 163, 164, 165, 166, 167, 168, 169, 170, 171, 172, 173] (by decide +kernel) (by decide +kernel)
set_option maxRecDepth 20000 in
theorem gX8_oil_X1_note : GoodIn wsX8_oil (wsV RX8 54 RX1 yX1_note wsX1_note) := goodIn_app (goodIn_of _ (by decide +kernel)) ggX8_oil_X1_note
set_option maxRecDepth 20000 in
theorem ggX8_oil_X8_oilRope : GoodIn wsX8_oil wsX8_oilRope := goodIn_r _ [104, 2, 105, 106, 107, 108, 109, 28, 110, 78, 111, 112, 80, 113, 114, 115, 116, 117, 118, 119, 120, 121, 122, 133, 134, 135, 136, 137, 138, 139, 140, 141, 145, 146, 147, 148, 149, 150, 151, 152, 153, 154, 155, 156, 157, 158, 159, 160, 161, 162, 163] (by decide +kernel) (by decide +kernel)
set_option maxRecDepth 20000 in
theorem gX8_oil_X8_oilRope : GoodIn wsX8_oil (wsV RX8 72 RX8 yX8_oilRope wsX8_oilRope) := goodIn_app (goodIn_of _ (by decide +kernel)) ggX8_oil_X8_oilRope
set_option maxRecDepth 20000 in
theorem ggX8_oil_X8_settle : GoodIn wsX8_oil wsX8_settle := goodIn_r _ [126, 1, 127, 128, 129, 6, 130, 8, 131, 132, 83, 84, 85, 17, 18, 19, 20, 133, 134, 135, 136, 137, 138, 139, 140, 141, 142, 143, 144] (by decide +kernel) (by decide +kernel)
set_option maxRecDepth 20000 in
theorem gX8_oil_X8_settle : GoodIn wsX8_oil (wsV RX8 62 RX8 yX8_settle wsX8_settle) := goodIn_app (goodIn_of _ (by decide +kernel)) ggX8_oil_X8_settle
theorem dX8_oil_0 : decode cX8_oil 0 = .ok (.aload_n 0, 1) := by decide +kernel
theorem dX8_oil_1 : decode cX8_oil 1 = .ok (.getfield 22, 3) := by decide +kernel
theorem dX8_oil_4 : decode cX8_oil 4 = .ok (.aload_n 0, 1) := by decide +kernel
theorem dX8_oil_5 : decode cX8_oil 5 = .ok (.getfield 12, 3) := by decide +kernel
theorem dX8_oil_8 : decode cX8_oil 8 = .ok (.invokevirtual 54, 3) := by decide +kernel
theorem dX8_oil_11 : decode cX8_oil 11 = .ok (.aload_n 0, 1) := by decide +kernel
theorem dX8_oil_12 : decode cX8_oil 12 = .ok (.aload_n 0, 1) := by decide +kernel
theorem dX8_oil_13 : decode cX8_oil 13 = .ok (.iload_n 1, 1) := by decide +kernel
theorem dX8_oil_14 : decode cX8_oil 14 = .ok (.iload_n 2, 1) := by decide +kernel
theorem dX8_oil_15 : decode cX8_oil 15 = .ok (.invokevirtual 72, 3) := by decide +kernel
theorem dX8_oil_18 : decode cX8_oil 18 = .ok (.invokevirtual 62, 3) := by decide +kernel
theorem dX8_oil_21 : decode cX8_oil 21 = .ok (.ireturn, 1) := by decide +kernel
set_option maxRecDepth 20000 in
theorem ggX8_ropeOf_X5_has : GoodIn wsX8_ropeOf wsX5_has := goodIn_r _ [14, 15, 56, 57, 58, 59, 60, 61, 62] (by decide +kernel) (by decide +kernel)
set_option maxRecDepth 20000 in
theorem gX8_ropeOf_X5_has : GoodIn wsX8_ropeOf (wsV RX8 79 RX5 yX5_has wsX5_has) := goodIn_app (goodIn_of _ (by decide +kernel)) ggX8_ropeOf_X5_has
set_option maxRecDepth 20000 in
theorem ggX8_ropeOf_X8_at : GoodIn wsX8_ropeOf wsX8_at := goodIn_r _ [19] (by decide +kernel) (by decide +kernel)
set_option maxRecDepth 20000 in
theorem gX8_ropeOf_X8_at : GoodIn wsX8_ropeOf (va_wsS RX8 89 yX8_at wsX8_at) := goodIn_app (goodIn_of _ (by decide +kernel)) ggX8_ropeOf_X8_at
set_option maxRecDepth 20000 in
theorem ggX8_ropeOf_X4_numberOf : GoodIn wsX8_ropeOf wsX4_numberOf := goodIn_r _ [24, 25, 18, 26, 27, 28, 29, 23, 30, 31, 32, 17, 19, 33, 34, 63, 64, 65, 66] (by decide +kernel) (by decide +kernel)
set_option maxRecDepth 20000 in
theorem gX8_ropeOf_X4_numberOf : GoodIn wsX8_ropeOf (wsV RX8 112 RX4 yX4_numberOf wsX4_numberOf) := goodIn_app (goodIn_of _ (by decide +kernel)) ggX8_ropeOf_X4_numberOf
theorem dX8_ropeOf_0 : decode cX8_ropeOf 0 = .ok (.aload_n 0, 1) := by decide +kernel
theorem dX8_ropeOf_1 : decode cX8_ropeOf 1 = .ok (.getfield 12, 3) := by decide +kernel
theorem dX8_ropeOf_4 : decode cX8_ropeOf 4 = .ok (.getfield 75, 3) := by decide +kernel
theorem dX8_ropeOf_7 : decode cX8_ropeOf 7 = .ok (.iload_n 1, 1) := by decide +kernel
theorem dX8_ropeOf_8 : decode cX8_ropeOf 8 = .ok (.invokevirtual 79, 3) := by decide +kernel
theorem dX8_ropeOf_11 : decode cX8_ropeOf 11 = .ok (.ifCond .ne 7, 3) := by decide +kernel
theorem dX8_ropeOf_14 : decode cX8_ropeOf 14 = .ok (.sipush (-1011), 3) := by decide +kernel
theorem dX8_ropeOf_17 : decode cX8_ropeOf 17 = .ok (.ireturn, 1) := by decide +kernel
theorem dX8_ropeOf_18 : decode cX8_ropeOf 18 = .ok (.iload_n 2, 1) := by decide +kernel
theorem dX8_ropeOf_19 : decode cX8_ropeOf 19 = .ok (.tableswitch 143 0 6 #[41, 56, 71, 86, 101, 116, 131], 41) := by decide +kernel
theorem dX8_ropeOf_60 : decode cX8_ropeOf 60 = .ok (.aload_n 0, 1) := by decide +kernel
theorem dX8_ropeOf_61 : decode cX8_ropeOf 61 = .ok (.getfield 12, 3) := by decide +kernel
theorem dX8_ropeOf_64 : decode cX8_ropeOf 64 = .ok (.getfield 75, 3) := by decide +kernel
theorem dX8_ropeOf_67 : decode cX8_ropeOf 67 = .ok (.getfield 85, 3) := by decide +kernel
theorem dX8_ropeOf_70 : decode cX8_ropeOf 70 = .ok (.iload_n 1, 1) := by decide +kernel
theorem dX8_ropeOf_71 : decode cX8_ropeOf 71 = .ok (.invokestatic 89, 3) := by decide +kernel
theorem dX8_ropeOf_74 : decode cX8_ropeOf 74 = .ok (.ireturn, 1) := by decide +kernel
theorem dX8_ropeOf_75 : decode cX8_ropeOf 75 = .ok (.aload_n 0, 1) := by decide +kernel
theorem dX8_ropeOf_76 : decode cX8_ropeOf 76 = .ok (.getfield 12, 3) := by decide +kernel
theorem dX8_ropeOf_79 : decode cX8_ropeOf 79 = .ok (.getfield 75, 3) := by decide +kernel
theorem dX8_ropeOf_82 : decode cX8_ropeOf 82 = .ok (.getfield 93, 3) := by decide +kernel
theorem dX8_ropeOf_85 : decode cX8_ropeOf 85 = .ok (.iload_n 1, 1) := by decide +kernel
theorem dX8_ropeOf_86 : decode cX8_ropeOf 86 = .ok (.invokestatic 89, 3) := by decide +kernel
theorem dX8_ropeOf_89 : decode cX8_ropeOf 89 = .ok (.ireturn, 1) := by decide +kernel
theorem dX8_ropeOf_90 : decode cX8_ropeOf 90 = .ok (.aload_n 0, 1) := by decide +kernel
theorem dX8_ropeOf_91 : decode cX8_ropeOf 91 = .ok (.getfield 12, 3) := by decide +kernel
theorem dX8_ropeOf_94 : decode cX8_ropeOf 94 = .ok (.getfield 75, 3) := by decide +kernel
theorem dX8_ropeOf_97 : decode cX8_ropeOf 97 = .ok (.getfield 96, 3) := by decide +kernel
theorem dX8_ropeOf_100 : decode cX8_ropeOf 100 = .ok (.iload_n 1, 1) := by decide +kernel
theorem dX8_ropeOf_101 : decode cX8_ropeOf 101 = .ok (.invokestatic 89, 3) := by decide +kernel
theorem dX8_ropeOf_104 : decode cX8_ropeOf 104 = .ok (.ireturn, 1) := by decide +kernel
theorem dX8_ropeOf_105 : decode cX8_ropeOf 105 = .ok (.aload_n 0, 1) := by decide +kernel
theorem dX8_ropeOf_106 : decode cX8_ropeOf 106 = .ok (.getfield 12, 3) := by decide +kernel
theorem dX8_ropeOf_109 : decode cX8_ropeOf 109 = .ok (.getfield 75, 3) := by decide +kernel
theorem dX8_ropeOf_112 : decode cX8_ropeOf 112 = .ok (.getfield 99, 3) := by decide +kernel
theorem dX8_ropeOf_115 : decode cX8_ropeOf 115 = .ok (.iload_n 1, 1) := by decide +kernel
theorem dX8_ropeOf_116 : decode cX8_ropeOf 116 = .ok (.invokestatic 89, 3) := by decide +kernel
theorem dX8_ropeOf_119 : decode cX8_ropeOf 119 = .ok (.ireturn, 1) := by decide +kernel
theorem dX8_ropeOf_120 : decode cX8_ropeOf 120 = .ok (.aload_n 0, 1) := by decide +kernel
theorem dX8_ropeOf_121 : decode cX8_ropeOf 121 = .ok (.getfield 12, 3) := by decide +kernel
theorem dX8_ropeOf_124 : decode cX8_ropeOf 124 = .ok (.getfield 75, 3) := by decide +kernel
theorem dX8_ropeOf_127 : decode cX8_ropeOf 127 = .ok (.getfield 102, 3) := by decide +kernel
theorem dX8_ropeOf_130 : decode cX8_ropeOf 130 = .ok (.iload_n 1, 1) := by decide +kernel
theorem dX8_ropeOf_131 : decode cX8_ropeOf 131 = .ok (.invokestatic 89, 3) := by decide +kernel
theorem dX8_ropeOf_134 : decode cX8_ropeOf 134 = .ok (.ireturn, 1) := by decide +kernel
theorem dX8_ropeOf_135 : decode cX8_ropeOf 135 = .ok (.aload_n 0, 1) := by decide +kernel
theorem dX8_ropeOf_136 : decode cX8_ropeOf 136 = .ok (.getfield 12, 3) := by decide +kernel
theorem dX8_ropeOf_139 : decode cX8_ropeOf 139 = .ok (.getfield 75, 3) := by decide +kernel
theorem dX8_ropeOf_142 : decode cX8_ropeOf 142 = .ok (.getfield 105, 3) := by decide +kernel
theorem dX8_ropeOf_145 : decode cX8_ropeOf 145 = .ok (.iload_n 1, 1) := by decide +kernel
theorem dX8_ropeOf_146 : decode cX8_ropeOf 146 = .ok (.invokestatic 89, 3) := by decide +kernel
theorem dX8_ropeOf_149 : decode cX8_ropeOf 149 = .ok (.ireturn, 1) := by decide +kernel
theorem dX8_ropeOf_150 : decode cX8_ropeOf 150 = .ok (.aload_n 0, 1) := by decide +kernel
theorem dX8_ropeOf_151 : decode cX8_ropeOf 151 = .ok (.getfield 12, 3) := by decide +kernel
theorem dX8_ropeOf_154 : decode cX8_ropeOf 154 = .ok (.getfield 108, 3) := by decide +kernel
theorem dX8_ropeOf_157 : decode cX8_ropeOf 157 = .ok (.iload_n 1, 1) := by decide +kernel
theorem dX8_ropeOf_158 : decode cX8_ropeOf 158 = .ok (.invokevirtual 112, 3) := by decide +kernel
theorem dX8_ropeOf_161 : decode cX8_ropeOf 161 = .ok (.ireturn, 1) := by decide +kernel
theorem dX8_ropeOf_162 : decode cX8_ropeOf 162 = .ok (.sipush (-1012), 3) := by decide +kernel
theorem dX8_ropeOf_165 : decode cX8_ropeOf 165 = .ok (.ireturn, 1) := by decide +kernel
set_option maxRecDepth 20000 in
theorem ggX8_pull_X1_note : GoodIn wsX8_pull wsX1_note := goodIn_r _ [7, 8, 9, 10, 11, 6, 12, 13, 14, 15, 16, 17, 18, 19, 20, 21, 22, 23, 24, 25, 26, 27, 28, 29, 30, 31, 32, 33, 34, 35, 36, 37, 38, 39, 40, 41, 42, 43, 44, 45, 46, 47, 48, 49, 50, 51, 52, 53, 54, 55, 56, 57, 58, 59, 60, 61, 62, 63, 64, 65, 66, 67, 68, 69, 70, 71, 72, 73, 74, 75, 76, 77, 78, 79, 80, 81, 82, 83, 84, 85, 86, 87, 88, 89, 90, 91, 92, 93, 94, 95, 96, 97, 98, 99, 100, 161, 162, 163, 164, 165, 166, 167, 168, 169, 170, 171, 172, 173, 174, 175, 176, 177, 178, 179, 180, 181, 182, 183, 184, 185, 186, 187, 188, 189, 190, 191, 192] (by decide +kernel) (by decide +kernel)
set_option maxRecDepth 20000 in
theorem gX8_pull_X1_note : GoodIn wsX8_pull (wsV RX8 54 RX1 yX1_note wsX1_note) := goodIn_app (goodIn_of _ (by decide +kernel)) ggX8_pull_X1_note
set_option maxRecDepth 20000 in
theorem ggX8_pull_X8_letWait : GoodIn wsX8_pull wsX8_letWait := goodIn_r _ [104, 2, 105, 106, 107, 108, 109, 110, 111, 112, 28, 113, 78, 114, 115, 80, 116, 117, 118, 119, 120, 121, 122, 123, 124, 125, 126, 127, 128, 32, 129, 94, 52, 53, 54, 130, 131, 132, 133, 134, 135, 136, 137, 138, 139, 140, 141, 152, 153, 154, 155, 156, 157, 158, 159, 160, 164, 165, 166, 167, 168, 169, 170, 171, 172, 173, 174, 175, 183, 184, 185, 186, 176, 177, 178, 179, 180, 181, 182] (by decide +kernel) (by decide +kernel)
set_option maxRecDepth 20000 in
theorem gX8_pull_X8_letWait : GoodIn wsX8_pull (wsV RX8 117 RX8 yX8_letWait wsX8_letWait) := goodIn_app (goodIn_of _ (by decide +kernel)) ggX8_pull_X8_letWait
set_option maxRecDepth 20000 in
theorem ggX8_pull_X8_settle : GoodIn wsX8_pull wsX8_settle := goodIn_r _ [145, 1, 146, 147, 148, 6, 149, 8, 150, 151, 83, 84, 85, 17, 18, 19, 20, 152, 153, 154, 155, 156, 157, 158, 159, 160, 161, 162, 163] (by decide +kernel) (by decide +kernel)
set_option maxRecDepth 20000 in
theorem gX8_pull_X8_settle : GoodIn wsX8_pull (wsV RX8 62 RX8 yX8_settle wsX8_settle) := goodIn_app (goodIn_of _ (by decide +kernel)) ggX8_pull_X8_settle
theorem dX8_pull_0 : decode cX8_pull 0 = .ok (.aload_n 0, 1) := by decide +kernel
theorem dX8_pull_1 : decode cX8_pull 1 = .ok (.getfield 22, 3) := by decide +kernel
theorem dX8_pull_4 : decode cX8_pull 4 = .ok (.aload_n 0, 1) := by decide +kernel
theorem dX8_pull_5 : decode cX8_pull 5 = .ok (.getfield 12, 3) := by decide +kernel
theorem dX8_pull_8 : decode cX8_pull 8 = .ok (.invokevirtual 54, 3) := by decide +kernel
theorem dX8_pull_11 : decode cX8_pull 11 = .ok (.aload_n 0, 1) := by decide +kernel
theorem dX8_pull_12 : decode cX8_pull 12 = .ok (.aload_n 0, 1) := by decide +kernel
theorem dX8_pull_13 : decode cX8_pull 13 = .ok (.iload_n 1, 1) := by decide +kernel
theorem dX8_pull_14 : decode cX8_pull 14 = .ok (.iload_n 2, 1) := by decide +kernel
theorem dX8_pull_15 : decode cX8_pull 15 = .ok (.iload_n 3, 1) := by decide +kernel
theorem dX8_pull_16 : decode cX8_pull 16 = .ok (.invokevirtual 117, 3) := by decide +kernel
theorem dX8_pull_19 : decode cX8_pull 19 = .ok (.invokevirtual 62, 3) := by decide +kernel
theorem dX8_pull_22 : decode cX8_pull 22 = .ok (.ireturn, 1) := by decide +kernel
set_option maxRecDepth 20000 in
theorem ggX8_cancel_X1_note : GoodIn wsX8_cancel wsX1_note := goodIn_r _ [7, 8, 9, 10, 11, 6, 12, 13, 14, 15, 16, 17, 18, 19, 20, 21, 22, 23, 24, 25, 26, 27, 28, 29, 30, 31, 32, 33, 34, 35, 36, 37, 38, 39, 40, 41, 42, 43, 44, 45, 46, 47, 48, 49, 50, 51, 52, 53, 54, 55, 56, 57, 58, 59, 60, 61, 62, 63, 64, 65, 66, 67, 68, 69, 70, 71, 72, 73, 74, 75, 76, 77, 78, 79, 80, 81, 82, 83, 84, 85, 86, 87, 88, 89, 90, 91, 92, 93, 94, 95, 96, 97, 98, 99, 100, 162, 163, 164, 165, 166, 167, 168, 169, 170, 171, 172, 173, 174, 175, 176, 177, 178, 179, 180, 181, 182, 183, 184, 185, 186, 187, 188, 189, 190, 191, 192, 193] (by decide +kernel) (by decide +kernel)
set_option maxRecDepth 20000 in
theorem gX8_cancel_X1_note : GoodIn wsX8_cancel (wsV RX8 54 RX1 yX1_note wsX1_note) := goodIn_app (goodIn_of _ (by decide +kernel)) ggX8_cancel_X1_note
set_option maxRecDepth 20000 in
theorem ggX8_cancel_X8_takeAway : GoodIn wsX8_cancel wsX8_takeAway := goodIn_r _ [104, 2, 105, 106, 107, 108, 109, 110, 111, 28, 112, 78, 113, 114, 115, 32, 116, 117, 80, 118, 119, 120, 121, 122, 94, 52, 123, 124, 125, 126, 127, 128, 129, 130, 131, 132, 133, 134, 135, 136, 137, 138, 139, 140, 53, 54, 141, 142, 153, 154, 155, 156, 157, 158, 159, 160, 161, 165, 166, 167, 168, 169, 170, 171, 172, 173, 174, 175, 176, 184, 185, 186, 187, 177, 178, 179, 180, 181, 182, 183] (by decide +kernel) (by decide +kernel)
set_option maxRecDepth 20000 in
theorem gX8_cancel_X8_takeAway : GoodIn wsX8_cancel (wsV RX8 121 RX8 yX8_takeAway wsX8_takeAway) := goodIn_app (goodIn_of _ (by decide +kernel)) ggX8_cancel_X8_takeAway
set_option maxRecDepth 20000 in
theorem ggX8_cancel_X8_settle : GoodIn wsX8_cancel wsX8_settle := goodIn_r _ [146, 1, 147, 148, 149, 6, 150, 8, 151, 152, 83, 84, 85, 17, 18, 19, 20, 153, 154, 155, 156, 157, 158, 159, 160, 161, 162, 163, 164] (by decide +kernel) (by decide +kernel)
set_option maxRecDepth 20000 in
theorem gX8_cancel_X8_settle : GoodIn wsX8_cancel (wsV RX8 62 RX8 yX8_settle wsX8_settle) := goodIn_app (goodIn_of _ (by decide +kernel)) ggX8_cancel_X8_settle
theorem dX8_cancel_0 : decode cX8_cancel 0 = .ok (.aload_n 0, 1) := by decide +kernel
theorem dX8_cancel_1 : decode cX8_cancel 1 = .ok (.getfield 22, 3) := by decide +kernel
theorem dX8_cancel_4 : decode cX8_cancel 4 = .ok (.aload_n 0, 1) := by decide +kernel
theorem dX8_cancel_5 : decode cX8_cancel 5 = .ok (.getfield 12, 3) := by decide +kernel
theorem dX8_cancel_8 : decode cX8_cancel 8 = .ok (.invokevirtual 54, 3) := by decide +kernel
theorem dX8_cancel_11 : decode cX8_cancel 11 = .ok (.aload_n 0, 1) := by decide +kernel
theorem dX8_cancel_12 : decode cX8_cancel 12 = .ok (.aload_n 0, 1) := by decide +kernel
theorem dX8_cancel_13 : decode cX8_cancel 13 = .ok (.iload_n 1, 1) := by decide +kernel
theorem dX8_cancel_14 : decode cX8_cancel 14 = .ok (.invokevirtual 121, 3) := by decide +kernel
theorem dX8_cancel_17 : decode cX8_cancel 17 = .ok (.invokevirtual 62, 3) := by decide +kernel
theorem dX8_cancel_20 : decode cX8_cancel 20 = .ok (.ireturn, 1) := by decide +kernel
set_option maxRecDepth 20000 in
theorem ggX8_ring_X1_note : GoodIn wsX8_ring wsX1_note := goodIn_r _ [7, 8, 9, 10, 11, 6, 12, 13, 14, 15, 16, 17, 18, 19, 20, 21, 22, 23, 24, 25, 26, 27, 28, 29, 30, 31, 32, 33, 34, 35, 36, 37, 38, 39, 40, 41, 42, 43, 44, 45, 46, 47, 48, 49, 50, 51, 52, 53, 54, 55, 56, 57, 58, 59, 60, 61, 62, 63, 64, 65, 66, 67, 68, 69, 70, 71, 72, 73, 74, 75, 76, 77, 78, 79, 80, 81, 82, 83, 84, 85, 86, 87, 88, 89, 90, 91, 92, 93, 94, 95, 96, 97, 98, 99, 100, 189, 190, 191, 192, 193, 194, 195, 196, 197, 198, 199, 200, 201, 202, 203, 204, 205, 206, 207, 208, 209, 210, 211, 212, 213, 214, 215, 216, 217, 218, 219, 220] (by decide +kernel) (by decide +kernel)
set_option maxRecDepth 20000 in
theorem gX8_ring_X1_note : GoodIn wsX8_ring (wsV RX8 54 RX1 yX1_note wsX1_note) := goodIn_app (goodIn_of _ (by decide +kernel)) ggX8_ring_X1_note
set_option maxRecDepth 20000 in
theorem ggX8_ring_X8_ringNext : GoodIn wsX8_ring wsX8_ringNext := goodIn_r _ [104, 2, 105, 106, 107, 108, 109, 110, 16, 111, 33, 112, 113, 114, 66, 69, 39, 72, 29, 115, 116, 80, 117, 118, 119, 120, 32, 121, 94, 122, 123, 84, 124, 125, 126, 127, 128, 52, 53, 54, 129, 130, 131, 132, 133, 134, 135, 136, 137, 138, 139, 28, 140, 44, 45, 141, 142, 143, 144, 71, 145, 146, 147, 148, 149, 70, 150, 37, 67, 151, 152, 153, 154, 155, 83, 85, 156, 157, 158, 159, 160, 36, 161, 100, 58, 59, 60, 61, 99, 162, 163, 18, 19, 20, 164, 165, 166, 167, 168, 169, 180, 181, 182, 183, 184, 185, 186, 187, 188, 192, 193, 194, 195, 196, 197, 198, 199, 200, 201, 202, 203, 211, 212, 213, 214, 204, 205, 206, 207, 208, 209, 210, 215, 216, 217, 218, 219, 220] (by decide +kernel) (by decide +kernel)
set_option maxRecDepth 20000 in
theorem gX8_ring_X8_ringNext : GoodIn wsX8_ring (wsV RX8 124 RX8 yX8_ringNext wsX8_ringNext) := goodIn_app (goodIn_of _ (by decide +kernel)) ggX8_ring_X8_ringNext
set_option maxRecDepth 20000 in
theorem ggX8_ring_X8_settle : GoodIn wsX8_ring wsX8_settle := goodIn_r _ [173, 1, 174, 175, 176, 6, 177, 8, 178, 179, 83, 84, 85, 17, 18, 19, 20, 180, 181, 182, 183, 184, 185, 186, 187, 188, 189, 190, 191] (by decide +kernel) (by decide +kernel)
set_option maxRecDepth 20000 in
theorem gX8_ring_X8_settle : GoodIn wsX8_ring (wsV RX8 62 RX8 yX8_settle wsX8_settle) := goodIn_app (goodIn_of _ (by decide +kernel)) ggX8_ring_X8_settle
theorem dX8_ring_0 : decode cX8_ring 0 = .ok (.aload_n 0, 1) := by decide +kernel
theorem dX8_ring_1 : decode cX8_ring 1 = .ok (.getfield 22, 3) := by decide +kernel
theorem dX8_ring_4 : decode cX8_ring 4 = .ok (.aload_n 0, 1) := by decide +kernel
theorem dX8_ring_5 : decode cX8_ring 5 = .ok (.getfield 12, 3) := by decide +kernel
theorem dX8_ring_8 : decode cX8_ring 8 = .ok (.invokevirtual 54, 3) := by decide +kernel
theorem dX8_ring_11 : decode cX8_ring 11 = .ok (.aload_n 0, 1) := by decide +kernel
theorem dX8_ring_12 : decode cX8_ring 12 = .ok (.aload_n 0, 1) := by decide +kernel
theorem dX8_ring_13 : decode cX8_ring 13 = .ok (.invokevirtual 124, 3) := by decide +kernel
theorem dX8_ring_16 : decode cX8_ring 16 = .ok (.invokevirtual 62, 3) := by decide +kernel
theorem dX8_ring_19 : decode cX8_ring 19 = .ok (.ireturn, 1) := by decide +kernel
set_option maxRecDepth 20000 in
theorem ggX8_hour_X1_note : GoodIn wsX8_hour wsX1_note := goodIn_r _ [7, 8, 9, 10, 11, 6, 12, 13, 14, 15, 16, 17, 18, 19, 20, 21, 22, 23, 24, 25, 26, 27, 28, 29, 30, 31, 32, 33, 34, 35, 36, 37, 38, 39, 40, 41, 42, 43, 44, 45, 46, 47, 48, 49, 50, 51, 52, 53, 54, 55, 56, 57, 58, 59, 60, 61, 62, 63, 64, 65, 66, 67, 68, 69, 70, 71, 72, 73, 74, 75, 76, 77, 78, 79, 80, 81, 82, 83, 84, 85, 86, 87, 88, 89, 90, 91, 92, 93, 94, 95, 96, 97, 98, 99, 100, 194, 195, 196, 197, 198, 199, 200, 201, 202, 203, 204, 205, 206, 207, 208, 209, 210, 211, 212, 213, 214, 215, 216, 217, 218, 219, 220, 221, 222, 223, 224, 225] (by decide +kernel) (by decide +kernel)
set_option maxRecDepth 20000 in
theorem gX8_hour_X1_note : GoodIn wsX8_hour (wsV RX8 54 RX1 yX1_note wsX1_note) := goodIn_app (goodIn_of _ (by decide +kernel)) ggX8_hour_X1_note
set_option maxRecDepth 20000 in
theorem ggX8_hour_X8_ringHour : GoodIn wsX8_hour wsX8_ringHour := goodIn_r _ [104, 2, 105, 106, 107, 108, 109, 110, 111, 80, 112, 113, 114, 115, 116, 117, 118, 119, 120, 32, 121, 94, 53, 122, 123, 124, 16, 125, 33, 126, 127, 128, 66, 69, 39, 72, 29, 129, 130, 131, 132, 133, 134, 135, 84, 136, 137, 138, 139, 140, 52, 54, 141, 142, 143, 144, 145, 146, 147, 148, 149, 150, 28, 151, 44, 45, 152, 153, 154, 155, 71, 156, 157, 158, 159, 160, 70, 161, 37, 67, 162, 163, 164, 165, 166, 83, 85, 167, 168, 169, 170, 171, 36, 172, 100, 58, 59, 60, 61, 99, 173, 174, 18, 19, 20, 185, 186, 187, 188, 189, 190, 191, 192, 193, 197, 198, 199, 200, 201, 202, 203, 204, 205, 206, 207, 208, 216, 217, 218, 219, 209, 210, 211, 212, 213, 214, 215, 220, 221, 222, 223, 224, 225] (by decide +kernel) (by decide +kernel)
set_option maxRecDepth 20000 in
theorem gX8_hour_X8_ringHour : GoodIn wsX8_hour (wsV RX8 128 RX8 yX8_ringHour wsX8_ringHour) := goodIn_app (goodIn_of _ (by decide +kernel)) ggX8_hour_X8_ringHour
set_option maxRecDepth 20000 in
theorem ggX8_hour_X8_settle : GoodIn wsX8_hour wsX8_settle := goodIn_r _ [178, 1, 179, 180, 181, 6, 182, 8, 183, 184, 83, 84, 85, 17, 18, 19, 20, 185, 186, 187, 188, 189, 190, 191, 192, 193, 194, 195, 196] (by decide +kernel) (by decide +kernel)
set_option maxRecDepth 20000 in
theorem gX8_hour_X8_settle : GoodIn wsX8_hour (wsV RX8 62 RX8 yX8_settle wsX8_settle) := goodIn_app (goodIn_of _ (by decide +kernel)) ggX8_hour_X8_settle
theorem dX8_hour_0 : decode cX8_hour 0 = .ok (.aload_n 0, 1) := by decide +kernel
theorem dX8_hour_1 : decode cX8_hour 1 = .ok (.getfield 22, 3) := by decide +kernel
theorem dX8_hour_4 : decode cX8_hour 4 = .ok (.aload_n 0, 1) := by decide +kernel
theorem dX8_hour_5 : decode cX8_hour 5 = .ok (.getfield 12, 3) := by decide +kernel
theorem dX8_hour_8 : decode cX8_hour 8 = .ok (.invokevirtual 54, 3) := by decide +kernel
theorem dX8_hour_11 : decode cX8_hour 11 = .ok (.aload_n 0, 1) := by decide +kernel
theorem dX8_hour_12 : decode cX8_hour 12 = .ok (.aload_n 0, 1) := by decide +kernel
theorem dX8_hour_13 : decode cX8_hour 13 = .ok (.invokevirtual 128, 3) := by decide +kernel
theorem dX8_hour_16 : decode cX8_hour 16 = .ok (.invokevirtual 62, 3) := by decide +kernel
theorem dX8_hour_19 : decode cX8_hour 19 = .ok (.ireturn, 1) := by decide +kernel
set_option maxRecDepth 20000 in
theorem ggX8_end_X1_note : GoodIn wsX8_end wsX1_note := goodIn_r _ [7, 8, 9, 10, 11, 6, 12, 13, 14, 15, 16, 17, 18, 19, 20, 21, 22, 23, 24, 25, 26, 27, 28, 29, 30, 31, 32, 33, 34, 35, 36, 37, 38, 39, 40, 41, 42, 43, 44, 45, 46, 47, 48, 49, 50, 51, 52, 53, 54, 55, 56, 57, 58, 59, 60, 61, 62, 63, 64, 65, 66, 67, 68, 69, 70, 71, 72, 73, 74, 75, 76, 77, 78, 79, 80, 81, 82, 83, 84, 85, 86, 87, 88, 89, 90, 91, 92, 93, 94, 95, 96, 97, 98, 99, 100, 152, 153, 154, 155, 156, 157, 158, 159, 160, 161, 162, 163, 164, 165, 166, 167, 168, 169, 170, 171, 172, 173, 174, 175, 176, 177, 178, 179, 180, 181, 182, 183] (by decide +kernel) (by decide +kernel)
set_option maxRecDepth 20000 in
theorem gX8_end_X1_note : GoodIn wsX8_end (wsV RX8 54 RX1 yX1_note wsX1_note) := goodIn_app (goodIn_of _ (by decide +kernel)) ggX8_end_X1_note
set_option maxRecDepth 20000 in
theorem ggX8_end_X7_endDay : GoodIn wsX8_end wsX7_endDay := goodIn_r _ [104, 33, 105, 106, 29, 39, 66, 67, 107, 80, 108, 109, 110, 111, 16, 112, 71, 113, 114, 115, 116, 117, 118, 119, 120, 121, 122, 123, 124, 125, 126, 28, 127, 78, 45, 128, 129, 84, 130, 131, 132, 155, 156, 157, 158, 159, 160, 161, 162, 163, 164, 165, 166, 174, 175, 176, 177, 167, 168, 169, 170, 171, 172, 173] (by decide +kernel) (by decide +kernel)
set_option maxRecDepth 20000 in
theorem gX8_end_X7_endDay : GoodIn wsX8_end (wsV RX8 131 RX7 yX7_endDay wsX7_endDay) := goodIn_app (goodIn_of _ (by decide +kernel)) ggX8_end_X7_endDay
set_option maxRecDepth 20000 in
theorem ggX8_end_X8_settle : GoodIn wsX8_end wsX8_settle := goodIn_r _ [136, 1, 137, 138, 139, 6, 140, 8, 141, 142, 83, 84, 85, 17, 18, 19, 20, 143, 144, 145, 146, 147, 148, 149, 150, 151, 152, 153, 154] (by decide +kernel) (by decide +kernel)
set_option maxRecDepth 20000 in
theorem gX8_end_X8_settle : GoodIn wsX8_end (wsV RX8 62 RX8 yX8_settle wsX8_settle) := goodIn_app (goodIn_of _ (by decide +kernel)) ggX8_end_X8_settle
theorem dX8_end_0 : decode cX8_end 0 = .ok (.aload_n 0, 1) := by decide +kernel
theorem dX8_end_1 : decode cX8_end 1 = .ok (.getfield 22, 3) := by decide +kernel
theorem dX8_end_4 : decode cX8_end 4 = .ok (.aload_n 0, 1) := by decide +kernel
theorem dX8_end_5 : decode cX8_end 5 = .ok (.getfield 12, 3) := by decide +kernel
theorem dX8_end_8 : decode cX8_end 8 = .ok (.invokevirtual 54, 3) := by decide +kernel
theorem dX8_end_11 : decode cX8_end 11 = .ok (.aload_n 0, 1) := by decide +kernel
theorem dX8_end_12 : decode cX8_end 12 = .ok (.aload_n 0, 1) := by decide +kernel
theorem dX8_end_13 : decode cX8_end 13 = .ok (.getfield 12, 3) := by decide +kernel
theorem dX8_end_16 : decode cX8_end 16 = .ok (.invokevirtual 131, 3) := by decide +kernel
theorem dX8_end_19 : decode cX8_end 19 = .ok (.invokevirtual 62, 3) := by decide +kernel
theorem dX8_end_22 : decode cX8_end 22 = .ok (.ireturn, 1) := by decide +kernel
set_option maxRecDepth 20000 in
theorem ggX8_waiting_X4_has : GoodIn wsX8_waiting wsX4_has := goodIn_r _ [10, 11, 37, 38, 39, 40] (by decide +kernel) (by decide +kernel)
set_option maxRecDepth 20000 in
theorem gX8_waiting_X4_has : GoodIn wsX8_waiting (wsV RX8 134 RX4 yX4_has wsX4_has) := goodIn_app (goodIn_of _ (by decide +kernel)) ggX8_waiting_X4_has
set_option maxRecDepth 20000 in
theorem ggX8_waiting_X8_at : GoodIn wsX8_waiting wsX8_at := goodIn_r _ [15] (by decide +kernel) (by decide +kernel)
set_option maxRecDepth 20000 in
theorem gX8_waiting_X8_at : GoodIn wsX8_waiting (va_wsS RX8 89 yX8_at wsX8_at) := goodIn_app (goodIn_of _ (by decide +kernel)) ggX8_waiting_X8_at
theorem dX8_waiting_0 : decode cX8_waiting 0 = .ok (.aload_n 0, 1) := by decide +kernel
theorem dX8_waiting_1 : decode cX8_waiting 1 = .ok (.getfield 12, 3) := by decide +kernel
theorem dX8_waiting_4 : decode cX8_waiting 4 = .ok (.getfield 108, 3) := by decide +kernel
theorem dX8_waiting_7 : decode cX8_waiting 7 = .ok (.iload_n 1, 1) := by decide +kernel
theorem dX8_waiting_8 : decode cX8_waiting 8 = .ok (.invokevirtual 134, 3) := by decide +kernel
theorem dX8_waiting_11 : decode cX8_waiting 11 = .ok (.ifCond .ne 7, 3) := by decide +kernel
theorem dX8_waiting_14 : decode cX8_waiting 14 = .ok (.sipush (-1011), 3) := by decide +kernel
theorem dX8_waiting_17 : decode cX8_waiting 17 = .ok (.ireturn, 1) := by decide +kernel
theorem dX8_waiting_18 : decode cX8_waiting 18 = .ok (.iload_n 2, 1) := by decide +kernel
theorem dX8_waiting_19 : decode cX8_waiting 19 = .ok (.tableswitch 70 0 2 #[25, 40, 55], 25) := by decide +kernel
theorem dX8_waiting_44 : decode cX8_waiting 44 = .ok (.aload_n 0, 1) := by decide +kernel
theorem dX8_waiting_45 : decode cX8_waiting 45 = .ok (.getfield 12, 3) := by decide +kernel
theorem dX8_waiting_48 : decode cX8_waiting 48 = .ok (.getfield 108, 3) := by decide +kernel
theorem dX8_waiting_51 : decode cX8_waiting 51 = .ok (.getfield 135, 3) := by decide +kernel
theorem dX8_waiting_54 : decode cX8_waiting 54 = .ok (.iload_n 1, 1) := by decide +kernel
theorem dX8_waiting_55 : decode cX8_waiting 55 = .ok (.invokestatic 89, 3) := by decide +kernel
theorem dX8_waiting_58 : decode cX8_waiting 58 = .ok (.ireturn, 1) := by decide +kernel
theorem dX8_waiting_59 : decode cX8_waiting 59 = .ok (.aload_n 0, 1) := by decide +kernel
theorem dX8_waiting_60 : decode cX8_waiting 60 = .ok (.getfield 12, 3) := by decide +kernel
theorem dX8_waiting_63 : decode cX8_waiting 63 = .ok (.getfield 108, 3) := by decide +kernel
theorem dX8_waiting_66 : decode cX8_waiting 66 = .ok (.getfield 138, 3) := by decide +kernel
theorem dX8_waiting_69 : decode cX8_waiting 69 = .ok (.iload_n 1, 1) := by decide +kernel
theorem dX8_waiting_70 : decode cX8_waiting 70 = .ok (.invokestatic 89, 3) := by decide +kernel
theorem dX8_waiting_73 : decode cX8_waiting 73 = .ok (.ireturn, 1) := by decide +kernel
theorem dX8_waiting_74 : decode cX8_waiting 74 = .ok (.aload_n 0, 1) := by decide +kernel
theorem dX8_waiting_75 : decode cX8_waiting 75 = .ok (.getfield 12, 3) := by decide +kernel
theorem dX8_waiting_78 : decode cX8_waiting 78 = .ok (.getfield 108, 3) := by decide +kernel
theorem dX8_waiting_81 : decode cX8_waiting 81 = .ok (.getfield 141, 3) := by decide +kernel
theorem dX8_waiting_84 : decode cX8_waiting 84 = .ok (.iload_n 1, 1) := by decide +kernel
theorem dX8_waiting_85 : decode cX8_waiting 85 = .ok (.invokestatic 89, 3) := by decide +kernel
theorem dX8_waiting_88 : decode cX8_waiting 88 = .ok (.ireturn, 1) := by decide +kernel
theorem dX8_waiting_89 : decode cX8_waiting 89 = .ok (.sipush (-1012), 3) := by decide +kernel
theorem dX8_waiting_92 : decode cX8_waiting 92 = .ok (.ireturn, 1) := by decide +kernel
set_option maxRecDepth 20000 in
theorem ggX8_would_X5_has : GoodIn wsX8_would wsX5_has := goodIn_r _ [7, 8, 42, 43, 44, 45, 46, 47, 48] (by decide +kernel) (by decide +kernel)
set_option maxRecDepth 20000 in
theorem gX8_would_X5_has : GoodIn wsX8_would (wsV RX8 79 RX5 yX5_has wsX5_has) := goodIn_app (goodIn_of _ (by decide +kernel)) ggX8_would_X5_has
set_option maxRecDepth 20000 in
theorem ggX8_would_X8_isStrength : GoodIn wsX8_would wsX8_isStrength := goodIn_r _ [12] (by decide +kernel) (by decide +kernel)
set_option maxRecDepth 20000 in
theorem gX8_would_X8_isStrength : GoodIn wsX8_would (va_wsS RX8 144 yX8_isStrength wsX8_isStrength) := goodIn_app (goodIn_of _ (by decide +kernel)) ggX8_would_X8_isStrength
set_option maxRecDepth 20000 in
theorem ggX8_would_X5_isEnough : GoodIn wsX8_would wsX5_isEnough := goodIn_r _ [16, 17, 18, 19, 11, 20, 42, 43, 44, 45, 46, 47, 48] (by decide +kernel) (by decide +kernel)
set_option maxRecDepth 20000 in
theorem gX8_would_X5_isEnough : GoodIn wsX8_would (wsV RX8 147 RX5 yX5_isEnough wsX5_isEnough) := goodIn_app (goodIn_of _ (by decide +kernel)) ggX8_would_X5_isEnough
theorem dX8_would_0 : decode cX8_would 0 = .ok (.aload_n 0, 1) := by decide +kernel
theorem dX8_would_1 : decode cX8_would 1 = .ok (.getfield 12, 3) := by decide +kernel
theorem dX8_would_4 : decode cX8_would 4 = .ok (.getfield 75, 3) := by decide +kernel
theorem dX8_would_7 : decode cX8_would 7 = .ok (.iload_n 1, 1) := by decide +kernel
theorem dX8_would_8 : decode cX8_would 8 = .ok (.invokevirtual 79, 3) := by decide +kernel
theorem dX8_would_11 : decode cX8_would 11 = .ok (.ifCond .ne 7, 3) := by decide +kernel
theorem dX8_would_14 : decode cX8_would 14 = .ok (.sipush (-1011), 3) := by decide +kernel
theorem dX8_would_17 : decode cX8_would 17 = .ok (.ireturn, 1) := by decide +kernel
theorem dX8_would_18 : decode cX8_would 18 = .ok (.iload_n 2, 1) := by decide +kernel
theorem dX8_would_19 : decode cX8_would 19 = .ok (.invokestatic 144, 3) := by decide +kernel
theorem dX8_would_22 : decode cX8_would 22 = .ok (.ifCond .ne 7, 3) := by decide +kernel
theorem dX8_would_25 : decode cX8_would 25 = .ok (.sipush (-1012), 3) := by decide +kernel
theorem dX8_would_28 : decode cX8_would 28 = .ok (.ireturn, 1) := by decide +kernel
theorem dX8_would_29 : decode cX8_would 29 = .ok (.aload_n 0, 1) := by decide +kernel
theorem dX8_would_30 : decode cX8_would 30 = .ok (.getfield 12, 3) := by decide +kernel
theorem dX8_would_33 : decode cX8_would 33 = .ok (.getfield 75, 3) := by decide +kernel
theorem dX8_would_36 : decode cX8_would 36 = .ok (.iload_n 1, 1) := by decide +kernel
theorem dX8_would_37 : decode cX8_would 37 = .ok (.iload_n 2, 1) := by decide +kernel
theorem dX8_would_38 : decode cX8_would 38 = .ok (.invokevirtual 147, 3) := by decide +kernel
theorem dX8_would_41 : decode cX8_would 41 = .ok (.ifCond .eq 7, 3) := by decide +kernel
theorem dX8_would_44 : decode cX8_would 44 = .ok (.iconst 1, 1) := by decide +kernel
theorem dX8_would_45 : decode cX8_would 45 = .ok (.goto 4, 3) := by decide +kernel
theorem dX8_would_48 : decode cX8_would 48 = .ok (.iconst 0, 1) := by decide +kernel
theorem dX8_would_49 : decode cX8_would 49 = .ok (.ireturn, 1) := by decide +kernel
set_option maxRecDepth 20000 in
theorem ggX8_forecast_X7_copyFrom : GoodIn wsX8_forecast wsX7_copyFrom := goodIn_r _ [9, 10, 11, 12, 13, 14, 15, 16, 17, 18, 19, 20, 21, 22, 23, 24, 25, 26, 27, 28, 29, 30, 31, 32, 33, 34, 35, 36, 37, 38, 39, 40, 41, 42, 43, 44, 45, 46, 47, 48, 49, 50, 51, 52, 53, 54, 55, 56, 57, 58, 59, 60, 61, 62, 63, 64, 133, 134, 135, 136, 137, 138, 139, 140, 141, 142, 143, 144, 149, 150, 151, 152, 153, 154, 155, 145, 146, 147, 148, 156, 157, 158, 159, 160, 161] (by decide +kernel) (by decide +kernel)
set_option maxRecDepth 20000 in
theorem gX8_forecast_X7_copyFrom : GoodIn wsX8_forecast (wsV RX8 151 RX7 yX7_copyFrom wsX7_copyFrom) := goodIn_app (goodIn_of _ (by decide +kernel)) ggX8_forecast_X7_copyFrom
set_option maxRecDepth 20000 in
theorem ggX8_forecast_X7_ringFirst : GoodIn wsX8_forecast wsX7_ringFirst := goodIn_r _ [68, 11, 69, 70, 71, 14, 17, 13, 20, 10, 72, 73, 35, 74, 75, 76, 77, 48, 78, 50, 79, 80, 39, 81, 82, 83, 84, 85, 51, 52, 53, 86, 87, 88, 89, 90, 91, 92, 93, 94, 95, 96, 25, 97, 29, 30, 98, 99, 100, 8, 101, 19, 102, 103, 104, 105, 106, 18, 107, 12, 15, 108, 109, 110, 111, 112, 38, 40, 113, 114, 115, 116, 117, 57, 118, 60, 61, 62, 63, 64, 59, 119, 120, 121, 122, 123, 133, 134, 135, 136, 137, 138, 139, 140, 141, 142, 143, 144, 145, 146, 147, 148, 149, 150, 151, 152, 153, 154, 155, 156, 157, 158, 159, 160, 161] (by decide +kernel) (by decide +kernel)
set_option maxRecDepth 20000 in
theorem gX8_forecast_X7_ringFirst : GoodIn wsX8_forecast (wsV RX8 157 RX7 yX7_ringFirst wsX7_ringFirst) := goodIn_app (goodIn_of _ (by decide +kernel)) ggX8_forecast_X7_ringFirst
theorem dX8_forecast_0 : decode cX8_forecast 0 = .ok (.aload_n 0, 1) := by decide +kernel
theorem dX8_forecast_1 : decode cX8_forecast 1 = .ok (.getfield 16, 3) := by decide +kernel
theorem dX8_forecast_4 : decode cX8_forecast 4 = .ok (.aload_n 0, 1) := by decide +kernel
theorem dX8_forecast_5 : decode cX8_forecast 5 = .ok (.getfield 12, 3) := by decide +kernel
theorem dX8_forecast_8 : decode cX8_forecast 8 = .ok (.invokevirtual 151, 3) := by decide +kernel
theorem dX8_forecast_11 : decode cX8_forecast 11 = .ok (.iconst 0, 1) := by decide +kernel
theorem dX8_forecast_12 : decode cX8_forecast 12 = .ok (.istore_n 1, 1) := by decide +kernel
theorem dX8_forecast_13 : decode cX8_forecast 13 = .ok (.iconst 0, 1) := by decide +kernel
theorem dX8_forecast_14 : decode cX8_forecast 14 = .ok (.istore_n 2, 1) := by decide +kernel
theorem dX8_forecast_15 : decode cX8_forecast 15 = .ok (.iload_n 2, 1) := by decide +kernel
theorem dX8_forecast_16 : decode cX8_forecast 16 = .ok (.bipush 16, 2) := by decide +kernel
theorem dX8_forecast_18 : decode cX8_forecast 18 = .ok (.if_icmp .ge 36, 3) := by decide +kernel
theorem dX8_forecast_21 : decode cX8_forecast 21 = .ok (.aload_n 0, 1) := by decide +kernel
theorem dX8_forecast_22 : decode cX8_forecast 22 = .ok (.getfield 16, 3) := by decide +kernel
theorem dX8_forecast_25 : decode cX8_forecast 25 = .ok (.getfield 108, 3) := by decide +kernel
theorem dX8_forecast_28 : decode cX8_forecast 28 = .ok (.getfield 154, 3) := by decide +kernel
theorem dX8_forecast_31 : decode cX8_forecast 31 = .ok (.ifCond .le 23, 3) := by decide +kernel
theorem dX8_forecast_34 : decode cX8_forecast 34 = .ok (.aload_n 0, 1) := by decide +kernel
theorem dX8_forecast_35 : decode cX8_forecast 35 = .ok (.getfield 16, 3) := by decide +kernel
theorem dX8_forecast_38 : decode cX8_forecast 38 = .ok (.invokevirtual 157, 3) := by decide +kernel
theorem dX8_forecast_41 : decode cX8_forecast 41 = .ok (.iconst 1, 1) := by decide +kernel
theorem dX8_forecast_42 : decode cX8_forecast 42 = .ok (.if_icmp .ne 6, 3) := by decide +kernel
theorem dX8_forecast_45 : decode cX8_forecast 45 = .ok (.iinc 1 1, 3) := by decide +kernel
theorem dX8_forecast_48 : decode cX8_forecast 48 = .ok (.iinc 2 1, 3) := by decide +kernel
theorem dX8_forecast_51 : decode cX8_forecast 51 = .ok (.goto (-36), 3) := by decide +kernel
theorem dX8_forecast_54 : decode cX8_forecast 54 = .ok (.iload_n 1, 1) := by decide +kernel
theorem dX8_forecast_55 : decode cX8_forecast 55 = .ok (.ireturn, 1) := by decide +kernel
set_option maxRecDepth 20000 in
theorem ggX8_forecastAgain_X7_answersAhead : GoodIn wsX8_forecastAgain wsX7_answersAhead := goodIn_r _ [8, 9, 10, 11, 12, 13, 14, 15, 16, 17, 18, 19, 20, 21, 22, 23, 24, 25, 26, 7, 27, 28, 29, 30, 31, 32, 42, 43, 44, 45, 46, 47, 48, 49, 50, 51, 52, 53, 54, 55, 56, 57, 58, 59, 60, 61, 62, 63, 64] (by decide +kernel) (by decide +kernel)
set_option maxRecDepth 20000 in
theorem gX8_forecastAgain_X7_answersAhead : GoodIn wsX8_forecastAgain (wsV RX8 161 RX7 yX7_answersAhead wsX7_answersAhead) := goodIn_app (goodIn_of _ (by decide +kernel)) ggX8_forecastAgain_X7_answersAhead
theorem dX8_forecastAgain_0 : decode cX8_forecastAgain 0 = .ok (.iconst 0, 1) := by decide +kernel
theorem dX8_forecastAgain_1 : decode cX8_forecastAgain 1 = .ok (.istore_n 1, 1) := by decide +kernel
theorem dX8_forecastAgain_2 : decode cX8_forecastAgain 2 = .ok (.iconst 0, 1) := by decide +kernel
theorem dX8_forecastAgain_3 : decode cX8_forecastAgain 3 = .ok (.istore_n 2, 1) := by decide +kernel
theorem dX8_forecastAgain_4 : decode cX8_forecastAgain 4 = .ok (.iload_n 2, 1) := by decide +kernel
theorem dX8_forecastAgain_5 : decode cX8_forecastAgain 5 = .ok (.aload_n 0, 1) := by decide +kernel
theorem dX8_forecastAgain_6 : decode cX8_forecastAgain 6 = .ok (.getfield 12, 3) := by decide +kernel
theorem dX8_forecastAgain_9 : decode cX8_forecastAgain 9 = .ok (.getfield 75, 3) := by decide +kernel
theorem dX8_forecastAgain_12 : decode cX8_forecastAgain 12 = .ok (.getfield 160, 3) := by decide +kernel
theorem dX8_forecastAgain_15 : decode cX8_forecastAgain 15 = .ok (.if_icmp .ge 20, 3) := by decide +kernel
theorem dX8_forecastAgain_18 : decode cX8_forecastAgain 18 = .ok (.iload_n 1, 1) := by decide +kernel
theorem dX8_forecastAgain_19 : decode cX8_forecastAgain 19 = .ok (.aload_n 0, 1) := by decide +kernel
theorem dX8_forecastAgain_20 : decode cX8_forecastAgain 20 = .ok (.getfield 12, 3) := by decide +kernel
theorem dX8_forecastAgain_23 : decode cX8_forecastAgain 23 = .ok (.iload_n 2, 1) := by decide +kernel
theorem dX8_forecastAgain_24 : decode cX8_forecastAgain 24 = .ok (.invokevirtual 161, 3) := by decide +kernel
theorem dX8_forecastAgain_27 : decode cX8_forecastAgain 27 = .ok (.iadd, 1) := by decide +kernel
theorem dX8_forecastAgain_28 : decode cX8_forecastAgain 28 = .ok (.istore_n 1, 1) := by decide +kernel
theorem dX8_forecastAgain_29 : decode cX8_forecastAgain 29 = .ok (.iinc 2 1, 3) := by decide +kernel
theorem dX8_forecastAgain_32 : decode cX8_forecastAgain 32 = .ok (.goto (-28), 3) := by decide +kernel
theorem dX8_forecastAgain_35 : decode cX8_forecastAgain 35 = .ok (.iload_n 1, 1) := by decide +kernel
theorem dX8_forecastAgain_36 : decode cX8_forecastAgain 36 = .ok (.ireturn, 1) := by decide +kernel
set_option maxRecDepth 20000 in
theorem ggX8_answerOf_X0_has : GoodIn wsX8_answerOf wsX0_has := goodIn_r _ [11, 12, 47, 48, 49, 50, 51, 52] (by decide +kernel) (by decide +kernel)
set_option maxRecDepth 20000 in
theorem gX8_answerOf_X0_has : GoodIn wsX8_answerOf (wsV RX8 168 RX0 yX0_has wsX0_has) := goodIn_app (goodIn_of _ (by decide +kernel)) ggX8_answerOf_X0_has
set_option maxRecDepth 20000 in
theorem ggX8_answerOf_X0_indexOf : GoodIn wsX8_answerOf wsX0_indexOf := goodIn_r _ [16, 17, 18, 19, 20, 21, 47, 48, 49, 50, 51, 52] (by decide +kernel) (by decide +kernel)
set_option maxRecDepth 20000 in
theorem gX8_answerOf_X0_indexOf : GoodIn wsX8_answerOf (wsV RX8 171 RX0 yX0_indexOf wsX0_indexOf) := goodIn_app (goodIn_of _ (by decide +kernel)) ggX8_answerOf_X0_indexOf
set_option maxRecDepth 20000 in
theorem ggX8_answerOf_X8_at : GoodIn wsX8_answerOf wsX8_at := goodIn_r _ [25] (by decide +kernel) (by decide +kernel)
set_option maxRecDepth 20000 in
theorem gX8_answerOf_X8_at : GoodIn wsX8_answerOf (va_wsS RX8 89 yX8_at wsX8_at) := goodIn_app (goodIn_of _ (by decide +kernel)) ggX8_answerOf_X8_at
theorem dX8_answerOf_0 : decode cX8_answerOf 0 = .ok (.aload_n 0, 1) := by decide +kernel
theorem dX8_answerOf_1 : decode cX8_answerOf 1 = .ok (.getfield 12, 3) := by decide +kernel
theorem dX8_answerOf_4 : decode cX8_answerOf 4 = .ok (.getfield 164, 3) := by decide +kernel
theorem dX8_answerOf_7 : decode cX8_answerOf 7 = .ok (.iload_n 1, 1) := by decide +kernel
theorem dX8_answerOf_8 : decode cX8_answerOf 8 = .ok (.invokevirtual 168, 3) := by decide +kernel
theorem dX8_answerOf_11 : decode cX8_answerOf 11 = .ok (.ifCond .ne 7, 3) := by decide +kernel
theorem dX8_answerOf_14 : decode cX8_answerOf 14 = .ok (.sipush (-1011), 3) := by decide +kernel
theorem dX8_answerOf_17 : decode cX8_answerOf 17 = .ok (.ireturn, 1) := by decide +kernel
theorem dX8_answerOf_18 : decode cX8_answerOf 18 = .ok (.aload_n 0, 1) := by decide +kernel
theorem dX8_answerOf_19 : decode cX8_answerOf 19 = .ok (.getfield 12, 3) := by decide +kernel
theorem dX8_answerOf_22 : decode cX8_answerOf 22 = .ok (.getfield 164, 3) := by decide +kernel
theorem dX8_answerOf_25 : decode cX8_answerOf 25 = .ok (.iload_n 1, 1) := by decide +kernel
theorem dX8_answerOf_26 : decode cX8_answerOf 26 = .ok (.invokevirtual 171, 3) := by decide +kernel
theorem dX8_answerOf_29 : decode cX8_answerOf 29 = .ok (.istore_n 3, 1) := by decide +kernel
theorem dX8_answerOf_30 : decode cX8_answerOf 30 = .ok (.iload_n 2, 1) := by decide +kernel
theorem dX8_answerOf_31 : decode cX8_answerOf 31 = .ok (.tableswitch 89 0 3 #[29, 44, 59, 74], 29) := by decide +kernel
theorem dX8_answerOf_60 : decode cX8_answerOf 60 = .ok (.aload_n 0, 1) := by decide +kernel
theorem dX8_answerOf_61 : decode cX8_answerOf 61 = .ok (.getfield 12, 3) := by decide +kernel
theorem dX8_answerOf_64 : decode cX8_answerOf 64 = .ok (.getfield 164, 3) := by decide +kernel
theorem dX8_answerOf_67 : decode cX8_answerOf 67 = .ok (.getfield 174, 3) := by decide +kernel
theorem dX8_answerOf_70 : decode cX8_answerOf 70 = .ok (.iload_n 3, 1) := by decide +kernel
theorem dX8_answerOf_71 : decode cX8_answerOf 71 = .ok (.invokestatic 89, 3) := by decide +kernel
theorem dX8_answerOf_74 : decode cX8_answerOf 74 = .ok (.ireturn, 1) := by decide +kernel
theorem dX8_answerOf_75 : decode cX8_answerOf 75 = .ok (.aload_n 0, 1) := by decide +kernel
theorem dX8_answerOf_76 : decode cX8_answerOf 76 = .ok (.getfield 12, 3) := by decide +kernel
theorem dX8_answerOf_79 : decode cX8_answerOf 79 = .ok (.getfield 164, 3) := by decide +kernel
