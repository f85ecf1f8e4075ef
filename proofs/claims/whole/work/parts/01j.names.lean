theorem dX9_answers_89 : decode cX9_answers 89 = .ok (.getfield 7, 3) := by decide +kernel
theorem dX9_answers_92 : decode cX9_answers 92 = .ok (.iload 4, 2) := by decide +kernel
theorem dX9_answers_94 : decode cX9_answers 94 = .ok (.iconst 4, 1) := by decide +kernel
theorem dX9_answers_95 : decode cX9_answers 95 = .ok (.isub, 1) := by decide +kernel
theorem dX9_answers_96 : decode cX9_answers 96 = .ok (.iaload, 1) := by decide +kernel
theorem dX9_answers_97 : decode cX9_answers 97 = .ok (.iastore, 1) := by decide +kernel
theorem dX9_answers_98 : decode cX9_answers 98 = .ok (.iinc 4 (-1), 3) := by decide +kernel
theorem dX9_answers_101 : decode cX9_answers 101 = .ok (.goto (-27), 3) := by decide +kernel
theorem dX9_answers_104 : decode cX9_answers 104 = .ok (.aload_n 0, 1) := by decide +kernel
theorem dX9_answers_105 : decode cX9_answers 105 = .ok (.getfield 7, 3) := by decide +kernel
theorem dX9_answers_108 : decode cX9_answers 108 = .ok (.sipush 131, 3) := by decide +kernel
theorem dX9_answers_111 : decode cX9_answers 111 = .ok (.iload_n 1, 1) := by decide +kernel
theorem dX9_answers_112 : decode cX9_answers 112 = .ok (.iastore, 1) := by decide +kernel
theorem dX9_answers_113 : decode cX9_answers 113 = .ok (.aload_n 0, 1) := by decide +kernel
theorem dX9_answers_114 : decode cX9_answers 114 = .ok (.getfield 7, 3) := by decide +kernel
theorem dX9_answers_117 : decode cX9_answers 117 = .ok (.sipush 132, 3) := by decide +kernel
theorem dX9_answers_120 : decode cX9_answers 120 = .ok (.iload_n 2, 1) := by decide +kernel
theorem dX9_answers_121 : decode cX9_answers 121 = .ok (.iastore, 1) := by decide +kernel
theorem dX9_answers_122 : decode cX9_answers 122 = .ok (.aload_n 0, 1) := by decide +kernel
theorem dX9_answers_123 : decode cX9_answers 123 = .ok (.getfield 7, 3) := by decide +kernel
theorem dX9_answers_126 : decode cX9_answers 126 = .ok (.sipush 133, 3) := by decide +kernel
theorem dX9_answers_129 : decode cX9_answers 129 = .ok (.aload_n 0, 1) := by decide +kernel
theorem dX9_answers_130 : decode cX9_answers 130 = .ok (.getfield 7, 3) := by decide +kernel
theorem dX9_answers_133 : decode cX9_answers 133 = .ok (.iconst 3, 1) := by decide +kernel
theorem dX9_answers_134 : decode cX9_answers 134 = .ok (.iaload, 1) := by decide +kernel
theorem dX9_answers_135 : decode cX9_answers 135 = .ok (.iastore, 1) := by decide +kernel
theorem dX9_answers_136 : decode cX9_answers 136 = .ok (.aload_n 0, 1) := by decide +kernel
theorem dX9_answers_137 : decode cX9_answers 137 = .ok (.getfield 7, 3) := by decide +kernel
theorem dX9_answers_140 : decode cX9_answers 140 = .ok (.sipush 134, 3) := by decide +kernel
theorem dX9_answers_143 : decode cX9_answers 143 = .ok (.iload_n 3, 1) := by decide +kernel
theorem dX9_answers_144 : decode cX9_answers 144 = .ok (.iastore, 1) := by decide +kernel
theorem dX9_answers_145 : decode cX9_answers 145 = .ok (.aload_n 0, 1) := by decide +kernel
theorem dX9_answers_146 : decode cX9_answers 146 = .ok (.getfield 7, 3) := by decide +kernel
theorem dX9_answers_149 : decode cX9_answers 149 = .ok (.bipush 9, 2) := by decide +kernel
theorem dX9_answers_151 : decode cX9_answers 151 = .ok (.aload_n 0, 1) := by decide +kernel
theorem dX9_answers_152 : decode cX9_answers 152 = .ok (.getfield 7, 3) := by decide +kernel
theorem dX9_answers_155 : decode cX9_answers 155 = .ok (.bipush 9, 2) := by decide +kernel
theorem dX9_answers_157 : decode cX9_answers 157 = .ok (.iaload, 1) := by decide +kernel
theorem dX9_answers_158 : decode cX9_answers 158 = .ok (.bipush 20, 2) := by decide +kernel
theorem dX9_answers_160 : decode cX9_answers 160 = .ok (.if_icmp .ge 15, 3) := by decide +kernel
theorem dX9_answers_163 : decode cX9_answers 163 = .ok (.aload_n 0, 1) := by decide +kernel
theorem dX9_answers_164 : decode cX9_answers 164 = .ok (.getfield 7, 3) := by decide +kernel
theorem dX9_answers_167 : decode cX9_answers 167 = .ok (.bipush 9, 2) := by decide +kernel
theorem dX9_answers_169 : decode cX9_answers 169 = .ok (.iaload, 1) := by decide +kernel
theorem dX9_answers_170 : decode cX9_answers 170 = .ok (.iconst 1, 1) := by decide +kernel
theorem dX9_answers_171 : decode cX9_answers 171 = .ok (.iadd, 1) := by decide +kernel
theorem dX9_answers_172 : decode cX9_answers 172 = .ok (.goto 5, 3) := by decide +kernel
theorem dX9_answers_175 : decode cX9_answers 175 = .ok (.bipush 20, 2) := by decide +kernel
theorem dX9_answers_177 : decode cX9_answers 177 = .ok (.iastore, 1) := by decide +kernel
theorem dX9_answers_178 : decode cX9_answers 178 = .ok (.return_, 1) := by decide +kernel
set_option maxRecDepth 20000 in
theorem ggX9_ringsNext_X9_pulled : GoodIn wsX9_ringsNext wsX9_pulled := goodIn_r _ [6, 1, 22, 23, 24, 25, 26, 27, 28, 29, 30, 31, 32, 33, 34, 35, 36, 37, 38, 39] (by decide +kernel) (by decide +kernel)
set_option maxRecDepth 20000 in
theorem gX9_ringsNext_X9_pulled : GoodIn wsX9_ringsNext (wsV RX9 91 RX9 yX9_pulled wsX9_pulled) := goodIn_app (goodIn_of _ (by decide +kernel)) ggX9_ringsNext_X9_pulled
set_option maxRecDepth 20000 in
theorem ggX9_ringsNext_X9_goes : GoodIn wsX9_ringsNext wsX9_goes := goodIn_r _ [10, 1, 22, 23, 24, 25, 26, 27, 28, 29, 30, 31, 32, 33, 34, 35, 36, 37, 38, 39] (by decide +kernel) (by decide +kernel)
set_option maxRecDepth 20000 in
theorem gX9_ringsNext_X9_goes : GoodIn wsX9_ringsNext (wsV RX9 105 RX9 yX9_goes wsX9_goes) := goodIn_app (goodIn_of _ (by decide +kernel)) ggX9_ringsNext_X9_goes
set_option maxRecDepth 20000 in
theorem ggX9_ringsNext_X9_at : GoodIn wsX9_ringsNext wsX9_at := goodIn_r _ [13] (by decide +kernel) (by decide +kernel)
set_option maxRecDepth 20000 in
theorem gX9_ringsNext_X9_at : GoodIn wsX9_ringsNext (va_wsS RX9 64 yX9_at wsX9_at) := goodIn_app (goodIn_of _ (by decide +kernel)) ggX9_ringsNext_X9_at
set_option maxRecDepth 20000 in
theorem ggX9_ringsNext_X9_isHeard : GoodIn wsX9_ringsNext wsX9_isHeard := goodIn_r _ [17, 1, 11, 12, 5, 13, 22, 23, 24, 25, 26, 27, 28, 29, 30, 31, 32, 33, 34, 35, 36, 37, 38, 39] (by decide +kernel) (by decide +kernel)
set_option maxRecDepth 20000 in
theorem gX9_ringsNext_X9_isHeard : GoodIn wsX9_ringsNext (wsV RX9 112 RX9 yX9_isHeard wsX9_isHeard) := goodIn_app (goodIn_of _ (by decide +kernel)) ggX9_ringsNext_X9_isHeard
set_option maxRecDepth 20000 in
theorem ggX9_ringsNext_X9_answers : GoodIn wsX9_ringsNext wsX9_answers := goodIn_r _ [21, 1, 11, 12, 5, 13, 22, 23, 24, 25, 26, 27, 28, 29, 30, 31, 32, 33, 34, 35, 36, 37, 38, 39] (by decide +kernel) (by decide +kernel)
set_option maxRecDepth 20000 in
theorem gX9_ringsNext_X9_answers : GoodIn wsX9_ringsNext (wsV RX9 116 RX9 yX9_answers wsX9_answers) := goodIn_app (goodIn_of _ (by decide +kernel)) ggX9_ringsNext_X9_answers
theorem dX9_ringsNext_0 : decode cX9_ringsNext 0 = .ok (.aload_n 0, 1) := by decide +kernel
theorem dX9_ringsNext_1 : decode cX9_ringsNext 1 = .ok (.iconst 0, 1) := by decide +kernel
theorem dX9_ringsNext_2 : decode cX9_ringsNext 2 = .ok (.iconst 0, 1) := by decide +kernel
theorem dX9_ringsNext_3 : decode cX9_ringsNext 3 = .ok (.invokevirtual 91, 3) := by decide +kernel
theorem dX9_ringsNext_6 : decode cX9_ringsNext 6 = .ok (.istore_n 1, 1) := by decide +kernel
theorem dX9_ringsNext_7 : decode cX9_ringsNext 7 = .ok (.aload_n 0, 1) := by decide +kernel
theorem dX9_ringsNext_8 : decode cX9_ringsNext 8 = .ok (.iconst 0, 1) := by decide +kernel
theorem dX9_ringsNext_9 : decode cX9_ringsNext 9 = .ok (.iconst 1, 1) := by decide +kernel
theorem dX9_ringsNext_10 : decode cX9_ringsNext 10 = .ok (.invokevirtual 91, 3) := by decide +kernel
theorem dX9_ringsNext_13 : decode cX9_ringsNext 13 = .ok (.istore_n 2, 1) := by decide +kernel
theorem dX9_ringsNext_14 : decode cX9_ringsNext 14 = .ok (.aload_n 0, 1) := by decide +kernel
theorem dX9_ringsNext_15 : decode cX9_ringsNext 15 = .ok (.iconst 0, 1) := by decide +kernel
theorem dX9_ringsNext_16 : decode cX9_ringsNext 16 = .ok (.iconst 2, 1) := by decide +kernel
theorem dX9_ringsNext_17 : decode cX9_ringsNext 17 = .ok (.invokevirtual 91, 3) := by decide +kernel
theorem dX9_ringsNext_20 : decode cX9_ringsNext 20 = .ok (.istore_n 3, 1) := by decide +kernel
theorem dX9_ringsNext_21 : decode cX9_ringsNext 21 = .ok (.aload_n 0, 1) := by decide +kernel
theorem dX9_ringsNext_22 : decode cX9_ringsNext 22 = .ok (.iconst 0, 1) := by decide +kernel
theorem dX9_ringsNext_23 : decode cX9_ringsNext 23 = .ok (.invokevirtual 105, 3) := by decide +kernel
theorem dX9_ringsNext_26 : decode cX9_ringsNext 26 = .ok (.aload_n 0, 1) := by decide +kernel
theorem dX9_ringsNext_27 : decode cX9_ringsNext 27 = .ok (.getfield 7, 3) := by decide +kernel
theorem dX9_ringsNext_30 : decode cX9_ringsNext 30 = .ok (.iconst 2, 1) := by decide +kernel
theorem dX9_ringsNext_31 : decode cX9_ringsNext 31 = .ok (.iload_n 2, 1) := by decide +kernel
theorem dX9_ringsNext_32 : decode cX9_ringsNext 32 = .ok (.iastore, 1) := by decide +kernel
theorem dX9_ringsNext_33 : decode cX9_ringsNext 33 = .ok (.aload_n 0, 1) := by decide +kernel
theorem dX9_ringsNext_34 : decode cX9_ringsNext 34 = .ok (.getfield 7, 3) := by decide +kernel
theorem dX9_ringsNext_37 : decode cX9_ringsNext 37 = .ok (.bipush 10, 2) := by decide +kernel
theorem dX9_ringsNext_39 : decode cX9_ringsNext 39 = .ok (.dup2, 1) := by decide +kernel
theorem dX9_ringsNext_40 : decode cX9_ringsNext 40 = .ok (.iaload, 1) := by decide +kernel
theorem dX9_ringsNext_41 : decode cX9_ringsNext 41 = .ok (.iconst 1, 1) := by decide +kernel
theorem dX9_ringsNext_42 : decode cX9_ringsNext 42 = .ok (.iadd, 1) := by decide +kernel
theorem dX9_ringsNext_43 : decode cX9_ringsNext 43 = .ok (.iastore, 1) := by decide +kernel
theorem dX9_ringsNext_44 : decode cX9_ringsNext 44 = .ok (.aload_n 0, 1) := by decide +kernel
theorem dX9_ringsNext_45 : decode cX9_ringsNext 45 = .ok (.getfield 7, 3) := by decide +kernel
theorem dX9_ringsNext_48 : decode cX9_ringsNext 48 = .ok (.sipush 211, 3) := by decide +kernel
theorem dX9_ringsNext_51 : decode cX9_ringsNext 51 = .ok (.iload_n 2, 1) := by decide +kernel
theorem dX9_ringsNext_52 : decode cX9_ringsNext 52 = .ok (.iadd, 1) := by decide +kernel
theorem dX9_ringsNext_53 : decode cX9_ringsNext 53 = .ok (.iaload, 1) := by decide +kernel
theorem dX9_ringsNext_54 : decode cX9_ringsNext 54 = .ok (.iload_n 1, 1) := by decide +kernel
theorem dX9_ringsNext_55 : decode cX9_ringsNext 55 = .ok (.ishr, 1) := by decide +kernel
theorem dX9_ringsNext_56 : decode cX9_ringsNext 56 = .ok (.iconst 1, 1) := by decide +kernel
theorem dX9_ringsNext_57 : decode cX9_ringsNext 57 = .ok (.iand, 1) := by decide +kernel
theorem dX9_ringsNext_58 : decode cX9_ringsNext 58 = .ok (.iconst 1, 1) := by decide +kernel
theorem dX9_ringsNext_59 : decode cX9_ringsNext 59 = .ok (.if_icmp .ne 30, 3) := by decide +kernel
theorem dX9_ringsNext_62 : decode cX9_ringsNext 62 = .ok (.aload_n 0, 1) := by decide +kernel
theorem dX9_ringsNext_63 : decode cX9_ringsNext 63 = .ok (.getfield 7, 3) := by decide +kernel
theorem dX9_ringsNext_66 : decode cX9_ringsNext 66 = .ok (.iload_n 1, 1) := by decide +kernel
theorem dX9_ringsNext_67 : decode cX9_ringsNext 67 = .ok (.iconst 5, 1) := by decide +kernel
theorem dX9_ringsNext_68 : decode cX9_ringsNext 68 = .ok (.invokestatic 64, 3) := by decide +kernel
theorem dX9_ringsNext_71 : decode cX9_ringsNext 71 = .ok (.dup2, 1) := by decide +kernel
theorem dX9_ringsNext_72 : decode cX9_ringsNext 72 = .ok (.iaload, 1) := by decide +kernel
theorem dX9_ringsNext_73 : decode cX9_ringsNext 73 = .ok (.iconst 1, 1) := by decide +kernel
theorem dX9_ringsNext_74 : decode cX9_ringsNext 74 = .ok (.iadd, 1) := by decide +kernel
theorem dX9_ringsNext_75 : decode cX9_ringsNext 75 = .ok (.iastore, 1) := by decide +kernel
theorem dX9_ringsNext_76 : decode cX9_ringsNext 76 = .ok (.aload_n 0, 1) := by decide +kernel
theorem dX9_ringsNext_77 : decode cX9_ringsNext 77 = .ok (.getfield 7, 3) := by decide +kernel
theorem dX9_ringsNext_80 : decode cX9_ringsNext 80 = .ok (.bipush 7, 2) := by decide +kernel
theorem dX9_ringsNext_82 : decode cX9_ringsNext 82 = .ok (.dup2, 1) := by decide +kernel
theorem dX9_ringsNext_83 : decode cX9_ringsNext 83 = .ok (.iaload, 1) := by decide +kernel
theorem dX9_ringsNext_84 : decode cX9_ringsNext 84 = .ok (.iconst 1, 1) := by decide +kernel
theorem dX9_ringsNext_85 : decode cX9_ringsNext 85 = .ok (.iadd, 1) := by decide +kernel
theorem dX9_ringsNext_86 : decode cX9_ringsNext 86 = .ok (.iastore, 1) := by decide +kernel
theorem dX9_ringsNext_87 : decode cX9_ringsNext 87 = .ok (.iconst 2, 1) := by decide +kernel
theorem dX9_ringsNext_88 : decode cX9_ringsNext 88 = .ok (.ireturn, 1) := by decide +kernel
theorem dX9_ringsNext_89 : decode cX9_ringsNext 89 = .ok (.aload_n 0, 1) := by decide +kernel
theorem dX9_ringsNext_90 : decode cX9_ringsNext 90 = .ok (.iload_n 1, 1) := by decide +kernel
theorem dX9_ringsNext_91 : decode cX9_ringsNext 91 = .ok (.iload_n 3, 1) := by decide +kernel
theorem dX9_ringsNext_92 : decode cX9_ringsNext 92 = .ok (.invokevirtual 112, 3) := by decide +kernel
theorem dX9_ringsNext_95 : decode cX9_ringsNext 95 = .ok (.ifCond .eq 12, 3) := by decide +kernel
theorem dX9_ringsNext_98 : decode cX9_ringsNext 98 = .ok (.aload_n 0, 1) := by decide +kernel
theorem dX9_ringsNext_99 : decode cX9_ringsNext 99 = .ok (.iload_n 1, 1) := by decide +kernel
theorem dX9_ringsNext_100 : decode cX9_ringsNext 100 = .ok (.iload_n 2, 1) := by decide +kernel
theorem dX9_ringsNext_101 : decode cX9_ringsNext 101 = .ok (.iload_n 3, 1) := by decide +kernel
theorem dX9_ringsNext_102 : decode cX9_ringsNext 102 = .ok (.invokevirtual 116, 3) := by decide +kernel
theorem dX9_ringsNext_105 : decode cX9_ringsNext 105 = .ok (.iconst 1, 1) := by decide +kernel
theorem dX9_ringsNext_106 : decode cX9_ringsNext 106 = .ok (.ireturn, 1) := by decide +kernel
theorem dX9_ringsNext_107 : decode cX9_ringsNext 107 = .ok (.aload_n 0, 1) := by decide +kernel
theorem dX9_ringsNext_108 : decode cX9_ringsNext 108 = .ok (.getfield 7, 3) := by decide +kernel
theorem dX9_ringsNext_111 : decode cX9_ringsNext 111 = .ok (.iload_n 1, 1) := by decide +kernel
theorem dX9_ringsNext_112 : decode cX9_ringsNext 112 = .ok (.iconst 4, 1) := by decide +kernel
theorem dX9_ringsNext_113 : decode cX9_ringsNext 113 = .ok (.invokestatic 64, 3) := by decide +kernel
theorem dX9_ringsNext_116 : decode cX9_ringsNext 116 = .ok (.dup2, 1) := by decide +kernel
theorem dX9_ringsNext_117 : decode cX9_ringsNext 117 = .ok (.iaload, 1) := by decide +kernel
theorem dX9_ringsNext_118 : decode cX9_ringsNext 118 = .ok (.iconst 1, 1) := by decide +kernel
theorem dX9_ringsNext_119 : decode cX9_ringsNext 119 = .ok (.iadd, 1) := by decide +kernel
theorem dX9_ringsNext_120 : decode cX9_ringsNext 120 = .ok (.iastore, 1) := by decide +kernel
theorem dX9_ringsNext_121 : decode cX9_ringsNext 121 = .ok (.aload_n 0, 1) := by decide +kernel
theorem dX9_ringsNext_122 : decode cX9_ringsNext 122 = .ok (.getfield 7, 3) := by decide +kernel
theorem dX9_ringsNext_125 : decode cX9_ringsNext 125 = .ok (.bipush 6, 2) := by decide +kernel
theorem dX9_ringsNext_127 : decode cX9_ringsNext 127 = .ok (.dup2, 1) := by decide +kernel
theorem dX9_ringsNext_128 : decode cX9_ringsNext 128 = .ok (.iaload, 1) := by decide +kernel
theorem dX9_ringsNext_129 : decode cX9_ringsNext 129 = .ok (.iconst 1, 1) := by decide +kernel
theorem dX9_ringsNext_130 : decode cX9_ringsNext 130 = .ok (.iadd, 1) := by decide +kernel
theorem dX9_ringsNext_131 : decode cX9_ringsNext 131 = .ok (.iastore, 1) := by decide +kernel
theorem dX9_ringsNext_132 : decode cX9_ringsNext 132 = .ok (.iconst 0, 1) := by decide +kernel
theorem dX9_ringsNext_133 : decode cX9_ringsNext 133 = .ok (.ireturn, 1) := by decide +kernel
set_option maxRecDepth 20000 in
theorem ggX9_rings_X9_refuses : GoodIn wsX9_rings wsX9_refuses := goodIn_r _ [6, 7, 8, 9, 10, 11, 5, 12, 13, 37, 38, 39, 40, 41, 42, 43, 44, 45, 46, 47, 48, 49, 50, 51, 52, 53, 54] (by decide +kernel) (by decide +kernel)
set_option maxRecDepth 20000 in
theorem gX9_rings_X9_refuses : GoodIn wsX9_rings (wsV RX9 60 RX9 yX9_refuses wsX9_refuses) := goodIn_app (goodIn_of _ (by decide +kernel)) ggX9_rings_X9_refuses
set_option maxRecDepth 20000 in
theorem ggX9_rings_X9_ringsNext : GoodIn wsX9_rings wsX9_ringsNext := goodIn_r _ [17, 1, 18, 19, 20, 5, 21, 22, 23, 24, 25, 26, 27, 28, 29, 30, 31, 32, 33, 34, 35, 36, 37, 38, 39, 40, 41, 42, 43, 44, 45, 46, 47, 48, 49, 50, 51, 52, 53, 54] (by decide +kernel) (by decide +kernel)
set_option maxRecDepth 20000 in
theorem gX9_rings_X9_ringsNext : GoodIn wsX9_rings (wsV RX9 120 RX9 yX9_ringsNext wsX9_ringsNext) := goodIn_app (goodIn_of _ (by decide +kernel)) ggX9_rings_X9_ringsNext
theorem dX9_rings_0 : decode cX9_rings 0 = .ok (.aload_n 0, 1) := by decide +kernel
theorem dX9_rings_1 : decode cX9_rings 1 = .ok (.getfield 7, 3) := by decide +kernel
theorem dX9_rings_4 : decode cX9_rings 4 = .ok (.iconst 1, 1) := by decide +kernel
theorem dX9_rings_5 : decode cX9_rings 5 = .ok (.iaload, 1) := by decide +kernel
theorem dX9_rings_6 : decode cX9_rings 6 = .ok (.ifCond .ne 18, 3) := by decide +kernel
theorem dX9_rings_9 : decode cX9_rings 9 = .ok (.aload_n 0, 1) := by decide +kernel
theorem dX9_rings_10 : decode cX9_rings 10 = .ok (.iconst 3, 1) := by decide +kernel
theorem dX9_rings_11 : decode cX9_rings 11 = .ok (.aload_n 0, 1) := by decide +kernel
theorem dX9_rings_12 : decode cX9_rings 12 = .ok (.getfield 7, 3) := by decide +kernel
theorem dX9_rings_15 : decode cX9_rings 15 = .ok (.bipush 10, 2) := by decide +kernel
theorem dX9_rings_17 : decode cX9_rings 17 = .ok (.iaload, 1) := by decide +kernel
theorem dX9_rings_18 : decode cX9_rings 18 = .ok (.invokevirtual 60, 3) := by decide +kernel
theorem dX9_rings_21 : decode cX9_rings 21 = .ok (.goto 7, 3) := by decide +kernel
theorem dX9_rings_24 : decode cX9_rings 24 = .ok (.aload_n 0, 1) := by decide +kernel
theorem dX9_rings_25 : decode cX9_rings 25 = .ok (.invokevirtual 120, 3) := by decide +kernel
theorem dX9_rings_28 : decode cX9_rings 28 = .ok (.ireturn, 1) := by decide +kernel
set_option maxRecDepth 20000 in
theorem ggX9_ring_X9_begins : GoodIn wsX9_ring wsX9_begins := goodIn_r _ [5, 6, 7, 8, 9, 10, 4, 11, 55, 56, 57, 58, 59, 60, 61, 62, 63, 64, 65, 66, 67, 68, 69, 70, 71, 72] (by decide +kernel) (by decide +kernel)
set_option maxRecDepth 20000 in
theorem gX9_ring_X9_begins : GoodIn wsX9_ring (wsV RX9 67 RX9 yX9_begins wsX9_begins) := goodIn_app (goodIn_of _ (by decide +kernel)) ggX9_ring_X9_begins
set_option maxRecDepth 20000 in
theorem ggX9_ring_X9_rings : GoodIn wsX9_ring wsX9_rings := goodIn_r _ [15, 8, 16, 17, 18, 4, 19, 20, 21, 22, 23, 24, 25, 6, 26, 27, 28, 29, 30, 31, 32, 33, 34, 35, 36, 37, 38, 39, 40, 41, 42, 43, 44, 45, 46, 47, 48, 55, 56, 57, 58, 59, 60, 61, 62, 63, 64, 65, 66, 67, 68, 69, 70, 71, 72] (by decide +kernel) (by decide +kernel)
set_option maxRecDepth 20000 in
theorem gX9_ring_X9_rings : GoodIn wsX9_ring (wsV RX9 124 RX9 yX9_rings wsX9_rings) := goodIn_app (goodIn_of _ (by decide +kernel)) ggX9_ring_X9_rings
set_option maxRecDepth 20000 in
theorem ggX9_ring_X9_ends : GoodIn wsX9_ring wsX9_ends := goodIn_r _ [52, 6, 8, 7, 53, 54, 9, 10, 4, 11, 55, 56, 57, 58, 59, 60, 61, 62, 63, 64, 65, 66, 67, 68, 69, 70, 71, 72] (by decide +kernel) (by decide +kernel)
set_option maxRecDepth 20000 in
theorem gX9_ring_X9_ends : GoodIn wsX9_ring (wsV RX9 73 RX9 yX9_ends wsX9_ends) := goodIn_app (goodIn_of _ (by decide +kernel)) ggX9_ring_X9_ends
theorem dX9_ring_0 : decode cX9_ring 0 = .ok (.aload_n 0, 1) := by decide +kernel
theorem dX9_ring_1 : decode cX9_ring 1 = .ok (.invokevirtual 67, 3) := by decide +kernel
theorem dX9_ring_4 : decode cX9_ring 4 = .ok (.aload_n 0, 1) := by decide +kernel
theorem dX9_ring_5 : decode cX9_ring 5 = .ok (.aload_n 0, 1) := by decide +kernel
theorem dX9_ring_6 : decode cX9_ring 6 = .ok (.invokevirtual 124, 3) := by decide +kernel
theorem dX9_ring_9 : decode cX9_ring 9 = .ok (.invokevirtual 73, 3) := by decide +kernel
theorem dX9_ring_12 : decode cX9_ring 12 = .ok (.ireturn, 1) := by decide +kernel
set_option maxRecDepth 20000 in
theorem ggX9_hours_X9_refuses : GoodIn wsX9_hours wsX9_refuses := goodIn_r _ [6, 7, 8, 9, 10, 11, 5, 12, 13, 37, 38, 39, 40, 41, 42, 43, 44, 45, 46, 47, 48, 49, 50, 51, 52, 53, 54] (by decide +kernel) (by decide +kernel)
set_option maxRecDepth 20000 in
theorem gX9_hours_X9_refuses : GoodIn wsX9_hours (wsV RX9 60 RX9 yX9_refuses wsX9_refuses) := goodIn_app (goodIn_of _ (by decide +kernel)) ggX9_hours_X9_refuses
set_option maxRecDepth 20000 in
theorem ggX9_hours_X9_pulled : GoodIn wsX9_hours wsX9_pulled := goodIn_r _ [17, 1, 37, 38, 39, 40, 41, 42, 43, 44, 45, 46, 47, 48, 49, 50, 51, 52, 53, 54] (by decide +kernel) (by decide +kernel)
set_option maxRecDepth 20000 in
theorem gX9_hours_X9_pulled : GoodIn wsX9_hours (wsV RX9 91 RX9 yX9_pulled wsX9_pulled) := goodIn_app (goodIn_of _ (by decide +kernel)) ggX9_hours_X9_pulled
set_option maxRecDepth 20000 in
theorem ggX9_hours_X9_ringsNext : GoodIn wsX9_hours wsX9_ringsNext := goodIn_r _ [21, 1, 14, 15, 16, 5, 17, 22, 23, 24, 25, 26, 27, 28, 29, 30, 31, 32, 33, 34, 35, 36, 37, 38, 39, 40, 41, 42, 43, 44, 45, 46, 47, 48, 49, 50, 51, 52, 53, 54] (by decide +kernel) (by decide +kernel)
set_option maxRecDepth 20000 in
theorem gX9_hours_X9_ringsNext : GoodIn wsX9_hours (wsV RX9 120 RX9 yX9_ringsNext wsX9_ringsNext) := goodIn_app (goodIn_of _ (by decide +kernel)) ggX9_hours_X9_ringsNext
theorem dX9_hours_0 : decode cX9_hours 0 = .ok (.aload_n 0, 1) := by decide +kernel
theorem dX9_hours_1 : decode cX9_hours 1 = .ok (.getfield 7, 3) := by decide +kernel
theorem dX9_hours_4 : decode cX9_hours 4 = .ok (.iconst 1, 1) := by decide +kernel
theorem dX9_hours_5 : decode cX9_hours 5 = .ok (.iaload, 1) := by decide +kernel
theorem dX9_hours_6 : decode cX9_hours 6 = .ok (.ifCond .ne 16, 3) := by decide +kernel
theorem dX9_hours_9 : decode cX9_hours 9 = .ok (.aload_n 0, 1) := by decide +kernel
theorem dX9_hours_10 : decode cX9_hours 10 = .ok (.iconst 3, 1) := by decide +kernel
theorem dX9_hours_11 : decode cX9_hours 11 = .ok (.aload_n 0, 1) := by decide +kernel
theorem dX9_hours_12 : decode cX9_hours 12 = .ok (.getfield 7, 3) := by decide +kernel
theorem dX9_hours_15 : decode cX9_hours 15 = .ok (.bipush 10, 2) := by decide +kernel
theorem dX9_hours_17 : decode cX9_hours 17 = .ok (.iaload, 1) := by decide +kernel
theorem dX9_hours_18 : decode cX9_hours 18 = .ok (.invokevirtual 60, 3) := by decide +kernel
theorem dX9_hours_21 : decode cX9_hours 21 = .ok (.ireturn, 1) := by decide +kernel
theorem dX9_hours_22 : decode cX9_hours 22 = .ok (.aload_n 0, 1) := by decide +kernel
theorem dX9_hours_23 : decode cX9_hours 23 = .ok (.iconst 0, 1) := by decide +kernel
theorem dX9_hours_24 : decode cX9_hours 24 = .ok (.iconst 1, 1) := by decide +kernel
theorem dX9_hours_25 : decode cX9_hours 25 = .ok (.invokevirtual 91, 3) := by decide +kernel
theorem dX9_hours_28 : decode cX9_hours 28 = .ok (.istore_n 1, 1) := by decide +kernel
theorem dX9_hours_29 : decode cX9_hours 29 = .ok (.iconst 0, 1) := by decide +kernel
theorem dX9_hours_30 : decode cX9_hours 30 = .ok (.istore_n 2, 1) := by decide +kernel
theorem dX9_hours_31 : decode cX9_hours 31 = .ok (.aload_n 0, 1) := by decide +kernel
theorem dX9_hours_32 : decode cX9_hours 32 = .ok (.getfield 7, 3) := by decide +kernel
theorem dX9_hours_35 : decode cX9_hours 35 = .ok (.iconst 1, 1) := by decide +kernel
theorem dX9_hours_36 : decode cX9_hours 36 = .ok (.iaload, 1) := by decide +kernel
theorem dX9_hours_37 : decode cX9_hours 37 = .ok (.ifCond .le 32, 3) := by decide +kernel
theorem dX9_hours_40 : decode cX9_hours 40 = .ok (.aload_n 0, 1) := by decide +kernel
theorem dX9_hours_41 : decode cX9_hours 41 = .ok (.iconst 0, 1) := by decide +kernel
theorem dX9_hours_42 : decode cX9_hours 42 = .ok (.iconst 1, 1) := by decide +kernel
theorem dX9_hours_43 : decode cX9_hours 43 = .ok (.invokevirtual 91, 3) := by decide +kernel
theorem dX9_hours_46 : decode cX9_hours 46 = .ok (.iload_n 1, 1) := by decide +kernel
theorem dX9_hours_47 : decode cX9_hours 47 = .ok (.if_icmp .ne 22, 3) := by decide +kernel
theorem dX9_hours_50 : decode cX9_hours 50 = .ok (.iload_n 2, 1) := by decide +kernel
theorem dX9_hours_51 : decode cX9_hours 51 = .ok (.aload_n 0, 1) := by decide +kernel
theorem dX9_hours_52 : decode cX9_hours 52 = .ok (.invokevirtual 120, 3) := by decide +kernel
theorem dX9_hours_55 : decode cX9_hours 55 = .ok (.iconst 1, 1) := by decide +kernel
theorem dX9_hours_56 : decode cX9_hours 56 = .ok (.if_icmp .ne 7, 3) := by decide +kernel
theorem dX9_hours_59 : decode cX9_hours 59 = .ok (.iconst 1, 1) := by decide +kernel
theorem dX9_hours_60 : decode cX9_hours 60 = .ok (.goto 4, 3) := by decide +kernel
theorem dX9_hours_63 : decode cX9_hours 63 = .ok (.iconst 0, 1) := by decide +kernel
theorem dX9_hours_64 : decode cX9_hours 64 = .ok (.iadd, 1) := by decide +kernel
theorem dX9_hours_65 : decode cX9_hours 65 = .ok (.istore_n 2, 1) := by decide +kernel
theorem dX9_hours_66 : decode cX9_hours 66 = .ok (.goto (-35), 3) := by decide +kernel
theorem dX9_hours_69 : decode cX9_hours 69 = .ok (.iload_n 2, 1) := by decide +kernel
theorem dX9_hours_70 : decode cX9_hours 70 = .ok (.ireturn, 1) := by decide +kernel
set_option maxRecDepth 20000 in
theorem ggX9_hour_X9_begins : GoodIn wsX9_hour wsX9_begins := goodIn_r _ [5, 6, 7, 8, 9, 10, 4, 11, 55, 56, 57, 58, 59, 60, 61, 62, 63, 64, 65, 66, 67, 68, 69, 70, 71, 72] (by decide +kernel) (by decide +kernel)
set_option maxRecDepth 20000 in
theorem gX9_hour_X9_begins : GoodIn wsX9_hour (wsV RX9 67 RX9 yX9_begins wsX9_begins) := goodIn_app (goodIn_of _ (by decide +kernel)) ggX9_hour_X9_begins
set_option maxRecDepth 20000 in
theorem ggX9_hour_X9_hours : GoodIn wsX9_hour wsX9_hours := goodIn_r _ [15, 8, 16, 17, 18, 4, 19, 20, 21, 22, 23, 24, 25, 6, 26, 27, 28, 29, 30, 31, 32, 33, 34, 35, 36, 37, 38, 39, 40, 41, 42, 43, 44, 45, 46, 47, 48, 55, 56, 57, 58, 59, 60, 61, 62, 63, 64, 65, 66, 67, 68, 69, 70, 71, 72] (by decide +kernel) (by decide +kernel)
set_option maxRecDepth 20000 in
theorem gX9_hour_X9_hours : GoodIn wsX9_hour (wsV RX9 127 RX9 yX9_hours wsX9_hours) := goodIn_app (goodIn_of _ (by decide +kernel)) ggX9_hour_X9_hours
set_option maxRecDepth 20000 in
theorem ggX9_hour_X9_ends : GoodIn wsX9_hour wsX9_ends := goodIn_r _ [52, 6, 8, 7, 53, 54, 9, 10, 4, 11, 55, 56, 57, 58, 59, 60, 61, 62, 63, 64, 65, 66, 67, 68, 69, 70, 71, 72] (by decide +kernel) (by decide +kernel)
set_option maxRecDepth 20000 in
theorem gX9_hour_X9_ends : GoodIn wsX9_hour (wsV RX9 73 RX9 yX9_ends wsX9_ends) := goodIn_app (goodIn_of _ (by decide +kernel)) ggX9_hour_X9_ends
theorem dX9_hour_0 : decode cX9_hour 0 = .ok (.aload_n 0, 1) := by decide +kernel
theorem dX9_hour_1 : decode cX9_hour 1 = .ok (.invokevirtual 67, 3) := by decide +kernel
theorem dX9_hour_4 : decode cX9_hour 4 = .ok (.aload_n 0, 1) := by decide +kernel
theorem dX9_hour_5 : decode cX9_hour 5 = .ok (.aload_n 0, 1) := by decide +kernel
theorem dX9_hour_6 : decode cX9_hour 6 = .ok (.invokevirtual 127, 3) := by decide +kernel
theorem dX9_hour_9 : decode cX9_hour 9 = .ok (.invokevirtual 73, 3) := by decide +kernel
theorem dX9_hour_12 : decode cX9_hour 12 = .ok (.ireturn, 1) := by decide +kernel
set_option maxRecDepth 20000 in
theorem ggX9_endsDay_X9_pulled : GoodIn wsX9_endsDay wsX9_pulled := goodIn_r _ [6, 1, 10, 11, 12, 13, 14, 15, 16, 17, 18, 19, 20, 21, 22, 23, 24, 25, 26, 27] (by decide +kernel) (by decide +kernel)
set_option maxRecDepth 20000 in
theorem gX9_endsDay_X9_pulled : GoodIn wsX9_endsDay (wsV RX9 91 RX9 yX9_pulled wsX9_pulled) := goodIn_app (goodIn_of _ (by decide +kernel)) ggX9_endsDay_X9_pulled
set_option maxRecDepth 20000 in
theorem ggX9_endsDay_X9_at : GoodIn wsX9_endsDay wsX9_at := goodIn_r _ [9] (by decide +kernel) (by decide +kernel)
set_option maxRecDepth 20000 in
theorem gX9_endsDay_X9_at : GoodIn wsX9_endsDay (va_wsS RX9 64 yX9_at wsX9_at) := goodIn_app (goodIn_of _ (by decide +kernel)) ggX9_endsDay_X9_at
theorem dX9_endsDay_0 : decode cX9_endsDay 0 = .ok (.aload_n 0, 1) := by decide +kernel
theorem dX9_endsDay_1 : decode cX9_endsDay 1 = .ok (.getfield 7, 3) := by decide +kernel
theorem dX9_endsDay_4 : decode cX9_endsDay 4 = .ok (.iconst 1, 1) := by decide +kernel
theorem dX9_endsDay_5 : decode cX9_endsDay 5 = .ok (.iaload, 1) := by decide +kernel
theorem dX9_endsDay_6 : decode cX9_endsDay 6 = .ok (.istore_n 1, 1) := by decide +kernel
theorem dX9_endsDay_7 : decode cX9_endsDay 7 = .ok (.iconst 0, 1) := by decide +kernel
theorem dX9_endsDay_8 : decode cX9_endsDay 8 = .ok (.istore_n 2, 1) := by decide +kernel
theorem dX9_endsDay_9 : decode cX9_endsDay 9 = .ok (.iconst 0, 1) := by decide +kernel
theorem dX9_endsDay_10 : decode cX9_endsDay 10 = .ok (.istore_n 3, 1) := by decide +kernel
theorem dX9_endsDay_11 : decode cX9_endsDay 11 = .ok (.iload_n 3, 1) := by decide +kernel
theorem dX9_endsDay_12 : decode cX9_endsDay 12 = .ok (.iload_n 1, 1) := by decide +kernel
theorem dX9_endsDay_13 : decode cX9_endsDay 13 = .ok (.if_icmp .ge 28, 3) := by decide +kernel
theorem dX9_endsDay_16 : decode cX9_endsDay 16 = .ok (.aload_n 0, 1) := by decide +kernel
theorem dX9_endsDay_17 : decode cX9_endsDay 17 = .ok (.getfield 7, 3) := by decide +kernel
theorem dX9_endsDay_20 : decode cX9_endsDay 20 = .ok (.aload_n 0, 1) := by decide +kernel
theorem dX9_endsDay_21 : decode cX9_endsDay 21 = .ok (.iload_n 3, 1) := by decide +kernel
theorem dX9_endsDay_22 : decode cX9_endsDay 22 = .ok (.iconst 0, 1) := by decide +kernel
theorem dX9_endsDay_23 : decode cX9_endsDay 23 = .ok (.invokevirtual 91, 3) := by decide +kernel
theorem dX9_endsDay_26 : decode cX9_endsDay 26 = .ok (.iconst 4, 1) := by decide +kernel
theorem dX9_endsDay_27 : decode cX9_endsDay 27 = .ok (.invokestatic 64, 3) := by decide +kernel
theorem dX9_endsDay_30 : decode cX9_endsDay 30 = .ok (.dup2, 1) := by decide +kernel
theorem dX9_endsDay_31 : decode cX9_endsDay 31 = .ok (.iaload, 1) := by decide +kernel
theorem dX9_endsDay_32 : decode cX9_endsDay 32 = .ok (.iconst 1, 1) := by decide +kernel
theorem dX9_endsDay_33 : decode cX9_endsDay 33 = .ok (.iadd, 1) := by decide +kernel
theorem dX9_endsDay_34 : decode cX9_endsDay 34 = .ok (.iastore, 1) := by decide +kernel
theorem dX9_endsDay_35 : decode cX9_endsDay 35 = .ok (.iinc 3 1, 3) := by decide +kernel
theorem dX9_endsDay_38 : decode cX9_endsDay 38 = .ok (.goto (-27), 3) := by decide +kernel
theorem dX9_endsDay_41 : decode cX9_endsDay 41 = .ok (.bipush 83, 2) := by decide +kernel
theorem dX9_endsDay_43 : decode cX9_endsDay 43 = .ok (.istore_n 3, 1) := by decide +kernel
theorem dX9_endsDay_44 : decode cX9_endsDay 44 = .ok (.iload_n 3, 1) := by decide +kernel
theorem dX9_endsDay_45 : decode cX9_endsDay 45 = .ok (.sipush 131, 3) := by decide +kernel
theorem dX9_endsDay_48 : decode cX9_endsDay 48 = .ok (.if_icmp .ge 16, 3) := by decide +kernel
theorem dX9_endsDay_51 : decode cX9_endsDay 51 = .ok (.aload_n 0, 1) := by decide +kernel
theorem dX9_endsDay_52 : decode cX9_endsDay 52 = .ok (.getfield 7, 3) := by decide +kernel
theorem dX9_endsDay_55 : decode cX9_endsDay 55 = .ok (.iload_n 3, 1) := by decide +kernel
theorem dX9_endsDay_56 : decode cX9_endsDay 56 = .ok (.iconst 0, 1) := by decide +kernel
theorem dX9_endsDay_57 : decode cX9_endsDay 57 = .ok (.iastore, 1) := by decide +kernel
theorem dX9_endsDay_58 : decode cX9_endsDay 58 = .ok (.iinc 3 1, 3) := by decide +kernel
theorem dX9_endsDay_61 : decode cX9_endsDay 61 = .ok (.goto (-17), 3) := by decide +kernel
theorem dX9_endsDay_64 : decode cX9_endsDay 64 = .ok (.aload_n 0, 1) := by decide +kernel
theorem dX9_endsDay_65 : decode cX9_endsDay 65 = .ok (.getfield 7, 3) := by decide +kernel
theorem dX9_endsDay_68 : decode cX9_endsDay 68 = .ok (.iconst 1, 1) := by decide +kernel
theorem dX9_endsDay_69 : decode cX9_endsDay 69 = .ok (.iconst 0, 1) := by decide +kernel
theorem dX9_endsDay_70 : decode cX9_endsDay 70 = .ok (.iastore, 1) := by decide +kernel
theorem dX9_endsDay_71 : decode cX9_endsDay 71 = .ok (.aload_n 0, 1) := by decide +kernel
theorem dX9_endsDay_72 : decode cX9_endsDay 72 = .ok (.getfield 7, 3) := by decide +kernel
theorem dX9_endsDay_75 : decode cX9_endsDay 75 = .ok (.bipush 6, 2) := by decide +kernel
theorem dX9_endsDay_77 : decode cX9_endsDay 77 = .ok (.dup2, 1) := by decide +kernel
theorem dX9_endsDay_78 : decode cX9_endsDay 78 = .ok (.iaload, 1) := by decide +kernel
theorem dX9_endsDay_79 : decode cX9_endsDay 79 = .ok (.iload_n 1, 1) := by decide +kernel
theorem dX9_endsDay_80 : decode cX9_endsDay 80 = .ok (.iadd, 1) := by decide +kernel
theorem dX9_endsDay_81 : decode cX9_endsDay 81 = .ok (.iastore, 1) := by decide +kernel
theorem dX9_endsDay_82 : decode cX9_endsDay 82 = .ok (.iconst 0, 1) := by decide +kernel
theorem dX9_endsDay_83 : decode cX9_endsDay 83 = .ok (.istore_n 3, 1) := by decide +kernel
theorem dX9_endsDay_84 : decode cX9_endsDay 84 = .ok (.iload_n 3, 1) := by decide +kernel
theorem dX9_endsDay_85 : decode cX9_endsDay 85 = .ok (.bipush 24, 2) := by decide +kernel
theorem dX9_endsDay_87 : decode cX9_endsDay 87 = .ok (.if_icmp .ge 33, 3) := by decide +kernel
theorem dX9_endsDay_90 : decode cX9_endsDay 90 = .ok (.iload_n 2, 1) := by decide +kernel
theorem dX9_endsDay_91 : decode cX9_endsDay 91 = .ok (.aload_n 0, 1) := by decide +kernel
theorem dX9_endsDay_92 : decode cX9_endsDay 92 = .ok (.getfield 7, 3) := by decide +kernel
theorem dX9_endsDay_95 : decode cX9_endsDay 95 = .ok (.sipush 211, 3) := by decide +kernel
theorem dX9_endsDay_98 : decode cX9_endsDay 98 = .ok (.iload_n 3, 1) := by decide +kernel
theorem dX9_endsDay_99 : decode cX9_endsDay 99 = .ok (.iadd, 1) := by decide +kernel
theorem dX9_endsDay_100 : decode cX9_endsDay 100 = .ok (.iaload, 1) := by decide +kernel
theorem dX9_endsDay_101 : decode cX9_endsDay 101 = .ok (.ior, 1) := by decide +kernel
theorem dX9_endsDay_102 : decode cX9_endsDay 102 = .ok (.istore_n 2, 1) := by decide +kernel
theorem dX9_endsDay_103 : decode cX9_endsDay 103 = .ok (.aload_n 0, 1) := by decide +kernel
theorem dX9_endsDay_104 : decode cX9_endsDay 104 = .ok (.getfield 7, 3) := by decide +kernel
theorem dX9_endsDay_107 : decode cX9_endsDay 107 = .ok (.sipush 211, 3) := by decide +kernel
theorem dX9_endsDay_110 : decode cX9_endsDay 110 = .ok (.iload_n 3, 1) := by decide +kernel
theorem dX9_endsDay_111 : decode cX9_endsDay 111 = .ok (.iadd, 1) := by decide +kernel
theorem dX9_endsDay_112 : decode cX9_endsDay 112 = .ok (.iconst 0, 1) := by decide +kernel
theorem dX9_endsDay_113 : decode cX9_endsDay 113 = .ok (.iastore, 1) := by decide +kernel
theorem dX9_endsDay_114 : decode cX9_endsDay 114 = .ok (.iinc 3 1, 3) := by decide +kernel
theorem dX9_endsDay_117 : decode cX9_endsDay 117 = .ok (.goto (-33), 3) := by decide +kernel
theorem dX9_endsDay_120 : decode cX9_endsDay 120 = .ok (.iconst 0, 1) := by decide +kernel
theorem dX9_endsDay_121 : decode cX9_endsDay 121 = .ok (.istore_n 3, 1) := by decide +kernel
theorem dX9_endsDay_122 : decode cX9_endsDay 122 = .ok (.iload_n 3, 1) := by decide +kernel
theorem dX9_endsDay_123 : decode cX9_endsDay 123 = .ok (.aload_n 0, 1) := by decide +kernel
theorem dX9_endsDay_124 : decode cX9_endsDay 124 = .ok (.getfield 7, 3) := by decide +kernel
theorem dX9_endsDay_127 : decode cX9_endsDay 127 = .ok (.iconst 0, 1) := by decide +kernel
theorem dX9_endsDay_128 : decode cX9_endsDay 128 = .ok (.iaload, 1) := by decide +kernel
theorem dX9_endsDay_129 : decode cX9_endsDay 129 = .ok (.if_icmp .ge 44, 3) := by decide +kernel
theorem dX9_endsDay_132 : decode cX9_endsDay 132 = .ok (.iload_n 2, 1) := by decide +kernel
theorem dX9_endsDay_133 : decode cX9_endsDay 133 = .ok (.iload_n 3, 1) := by decide +kernel
theorem dX9_endsDay_134 : decode cX9_endsDay 134 = .ok (.ishr, 1) := by decide +kernel
theorem dX9_endsDay_135 : decode cX9_endsDay 135 = .ok (.iconst 1, 1) := by decide +kernel
theorem dX9_endsDay_136 : decode cX9_endsDay 136 = .ok (.iand, 1) := by decide +kernel
theorem dX9_endsDay_137 : decode cX9_endsDay 137 = .ok (.ifCond .ne 30, 3) := by decide +kernel
theorem dX9_endsDay_140 : decode cX9_endsDay 140 = .ok (.aload_n 0, 1) := by decide +kernel
theorem dX9_endsDay_141 : decode cX9_endsDay 141 = .ok (.getfield 7, 3) := by decide +kernel
theorem dX9_endsDay_144 : decode cX9_endsDay 144 = .ok (.iload_n 3, 1) := by decide +kernel
theorem dX9_endsDay_145 : decode cX9_endsDay 145 = .ok (.iconst 2, 1) := by decide +kernel
theorem dX9_endsDay_146 : decode cX9_endsDay 146 = .ok (.invokestatic 64, 3) := by decide +kernel
theorem dX9_endsDay_149 : decode cX9_endsDay 149 = .ok (.iaload, 1) := by decide +kernel
theorem dX9_endsDay_150 : decode cX9_endsDay 150 = .ok (.ifCond .le 17, 3) := by decide +kernel
theorem dX9_endsDay_153 : decode cX9_endsDay 153 = .ok (.aload_n 0, 1) := by decide +kernel
theorem dX9_endsDay_154 : decode cX9_endsDay 154 = .ok (.getfield 7, 3) := by decide +kernel
theorem dX9_endsDay_157 : decode cX9_endsDay 157 = .ok (.iload_n 3, 1) := by decide +kernel
theorem dX9_endsDay_158 : decode cX9_endsDay 158 = .ok (.iconst 2, 1) := by decide +kernel
theorem dX9_endsDay_159 : decode cX9_endsDay 159 = .ok (.invokestatic 64, 3) := by decide +kernel
theorem dX9_endsDay_162 : decode cX9_endsDay 162 = .ok (.dup2, 1) := by decide +kernel
theorem dX9_endsDay_163 : decode cX9_endsDay 163 = .ok (.iaload, 1) := by decide +kernel
theorem dX9_endsDay_164 : decode cX9_endsDay 164 = .ok (.iconst 1, 1) := by decide +kernel
theorem dX9_endsDay_165 : decode cX9_endsDay 165 = .ok (.isub, 1) := by decide +kernel
theorem dX9_endsDay_166 : decode cX9_endsDay 166 = .ok (.iastore, 1) := by decide +kernel
theorem dX9_endsDay_167 : decode cX9_endsDay 167 = .ok (.iinc 3 1, 3) := by decide +kernel
theorem dX9_endsDay_170 : decode cX9_endsDay 170 = .ok (.goto (-48), 3) := by decide +kernel
theorem dX9_endsDay_173 : decode cX9_endsDay 173 = .ok (.aload_n 0, 1) := by decide +kernel
theorem dX9_endsDay_174 : decode cX9_endsDay 174 = .ok (.getfield 7, 3) := by decide +kernel
theorem dX9_endsDay_177 : decode cX9_endsDay 177 = .ok (.iconst 2, 1) := by decide +kernel
theorem dX9_endsDay_178 : decode cX9_endsDay 178 = .ok (.iconst 0, 1) := by decide +kernel
theorem dX9_endsDay_179 : decode cX9_endsDay 179 = .ok (.iastore, 1) := by decide +kernel
theorem dX9_endsDay_180 : decode cX9_endsDay 180 = .ok (.aload_n 0, 1) := by decide +kernel
theorem dX9_endsDay_181 : decode cX9_endsDay 181 = .ok (.getfield 7, 3) := by decide +kernel
theorem dX9_endsDay_184 : decode cX9_endsDay 184 = .ok (.iconst 3, 1) := by decide +kernel
theorem dX9_endsDay_185 : decode cX9_endsDay 185 = .ok (.dup2, 1) := by decide +kernel
theorem dX9_endsDay_186 : decode cX9_endsDay 186 = .ok (.iaload, 1) := by decide +kernel
theorem dX9_endsDay_187 : decode cX9_endsDay 187 = .ok (.iconst 1, 1) := by decide +kernel
theorem dX9_endsDay_188 : decode cX9_endsDay 188 = .ok (.iadd, 1) := by decide +kernel
theorem dX9_endsDay_189 : decode cX9_endsDay 189 = .ok (.iastore, 1) := by decide +kernel
theorem dX9_endsDay_190 : decode cX9_endsDay 190 = .ok (.iload_n 1, 1) := by decide +kernel
theorem dX9_endsDay_191 : decode cX9_endsDay 191 = .ok (.ireturn, 1) := by decide +kernel
set_option maxRecDepth 20000 in
theorem ggX9_end_X9_begins : GoodIn wsX9_end wsX9_begins := goodIn_r _ [5, 6, 7, 8, 9, 10, 4, 11, 29, 30, 31, 32, 33, 34, 35, 36, 37, 38, 39, 40, 41, 42, 43, 44, 45, 46] (by decide +kernel) (by decide +kernel)
set_option maxRecDepth 20000 in
theorem gX9_end_X9_begins : GoodIn wsX9_end (wsV RX9 67 RX9 yX9_begins wsX9_begins) := goodIn_app (goodIn_of _ (by decide +kernel)) ggX9_end_X9_begins
set_option maxRecDepth 20000 in
theorem ggX9_end_X9_endsDay : GoodIn wsX9_end wsX9_endsDay := goodIn_r _ [15, 8, 16, 17, 18, 4, 19, 20, 21, 22, 29, 30, 31, 32, 33, 34, 35, 36, 37, 38, 39, 40, 41, 42, 43, 44, 45, 46] (by decide +kernel) (by decide +kernel)
set_option maxRecDepth 20000 in
theorem gX9_end_X9_endsDay : GoodIn wsX9_end (wsV RX9 130 RX9 yX9_endsDay wsX9_endsDay) := goodIn_app (goodIn_of _ (by decide +kernel)) ggX9_end_X9_endsDay
set_option maxRecDepth 20000 in
theorem ggX9_end_X9_ends : GoodIn wsX9_end wsX9_ends := goodIn_r _ [26, 6, 8, 7, 27, 28, 9, 10, 4, 11, 29, 30, 31, 32, 33, 34, 35, 36, 37, 38, 39, 40, 41, 42, 43, 44, 45, 46] (by decide +kernel) (by decide +kernel)
set_option maxRecDepth 20000 in
theorem gX9_end_X9_ends : GoodIn wsX9_end (wsV RX9 73 RX9 yX9_ends wsX9_ends) := goodIn_app (goodIn_of _ (by decide +kernel)) ggX9_end_X9_ends
theorem dX9_end_0 : decode cX9_end 0 = .ok (.aload_n 0, 1) := by decide +kernel
theorem dX9_end_1 : decode cX9_end 1 = .ok (.invokevirtual 67, 3) := by decide +kernel
theorem dX9_end_4 : decode cX9_end 4 = .ok (.aload_n 0, 1) := by decide +kernel
theorem dX9_end_5 : decode cX9_end 5 = .ok (.aload_n 0, 1) := by decide +kernel
theorem dX9_end_6 : decode cX9_end 6 = .ok (.invokevirtual 130, 3) := by decide +kernel
theorem dX9_end_9 : decode cX9_end 9 = .ok (.invokevirtual 73, 3) := by decide +kernel
theorem dX9_end_12 : decode cX9_end 12 = .ok (.ireturn, 1) := by decide +kernel
set_option maxRecDepth 20000 in
theorem ggX9_waiting_X9_isIn : GoodIn wsX9_waiting wsX9_isIn := goodIn_r _ [5] (by decide +kernel) (by decide +kernel)
set_option maxRecDepth 20000 in
theorem gX9_waiting_X9_isIn : GoodIn wsX9_waiting (va_wsS RX9 52 yX9_isIn wsX9_isIn) := goodIn_app (goodIn_of _ (by decide +kernel)) ggX9_waiting_X9_isIn
set_option maxRecDepth 20000 in
theorem ggX9_waiting_X9_pulled : GoodIn wsX9_waiting wsX9_pulled := goodIn_r _ [9, 1, 10, 11, 12, 13, 14, 15, 16, 17, 18, 19, 20, 21, 22, 23, 24, 25, 26, 27] (by decide +kernel) (by decide +kernel)
set_option maxRecDepth 20000 in
theorem gX9_waiting_X9_pulled : GoodIn wsX9_waiting (wsV RX9 91 RX9 yX9_pulled wsX9_pulled) := goodIn_app (goodIn_of _ (by decide +kernel)) ggX9_waiting_X9_pulled
theorem dX9_waiting_0 : decode cX9_waiting 0 = .ok (.iload_n 1, 1) := by decide +kernel
theorem dX9_waiting_1 : decode cX9_waiting 1 = .ok (.iconst 0, 1) := by decide +kernel
theorem dX9_waiting_2 : decode cX9_waiting 2 = .ok (.aload_n 0, 1) := by decide +kernel
theorem dX9_waiting_3 : decode cX9_waiting 3 = .ok (.getfield 7, 3) := by decide +kernel
theorem dX9_waiting_6 : decode cX9_waiting 6 = .ok (.iconst 1, 1) := by decide +kernel
theorem dX9_waiting_7 : decode cX9_waiting 7 = .ok (.iaload, 1) := by decide +kernel
theorem dX9_waiting_8 : decode cX9_waiting 8 = .ok (.iconst 1, 1) := by decide +kernel
theorem dX9_waiting_9 : decode cX9_waiting 9 = .ok (.isub, 1) := by decide +kernel
theorem dX9_waiting_10 : decode cX9_waiting 10 = .ok (.invokestatic 52, 3) := by decide +kernel
theorem dX9_waiting_13 : decode cX9_waiting 13 = .ok (.ifCond .ne 7, 3) := by decide +kernel
theorem dX9_waiting_16 : decode cX9_waiting 16 = .ok (.sipush (-1011), 3) := by decide +kernel
theorem dX9_waiting_19 : decode cX9_waiting 19 = .ok (.ireturn, 1) := by decide +kernel
theorem dX9_waiting_20 : decode cX9_waiting 20 = .ok (.iload_n 2, 1) := by decide +kernel
theorem dX9_waiting_21 : decode cX9_waiting 21 = .ok (.iconst 0, 1) := by decide +kernel
theorem dX9_waiting_22 : decode cX9_waiting 22 = .ok (.iconst 2, 1) := by decide +kernel
theorem dX9_waiting_23 : decode cX9_waiting 23 = .ok (.invokestatic 52, 3) := by decide +kernel
theorem dX9_waiting_26 : decode cX9_waiting 26 = .ok (.ifCond .eq 12, 3) := by decide +kernel
theorem dX9_waiting_29 : decode cX9_waiting 29 = .ok (.aload_n 0, 1) := by decide +kernel
theorem dX9_waiting_30 : decode cX9_waiting 30 = .ok (.iload_n 1, 1) := by decide +kernel
theorem dX9_waiting_31 : decode cX9_waiting 31 = .ok (.iload_n 2, 1) := by decide +kernel
theorem dX9_waiting_32 : decode cX9_waiting 32 = .ok (.invokevirtual 91, 3) := by decide +kernel
theorem dX9_waiting_35 : decode cX9_waiting 35 = .ok (.goto 6, 3) := by decide +kernel
theorem dX9_waiting_38 : decode cX9_waiting 38 = .ok (.sipush (-1012), 3) := by decide +kernel
theorem dX9_waiting_41 : decode cX9_waiting 41 = .ok (.ireturn, 1) := by decide +kernel
set_option maxRecDepth 20000 in
theorem ggX9_would_X9_isRope : GoodIn wsX9_would wsX9_isRope := goodIn_r _ [5, 6, 7, 8, 4, 9, 17, 18, 19, 20, 21, 22, 23, 24, 25, 26, 27, 28, 29, 30, 31, 32, 33, 34] (by decide +kernel) (by decide +kernel)
set_option maxRecDepth 20000 in
theorem gX9_would_X9_isRope : GoodIn wsX9_would (wsV RX9 76 RX9 yX9_isRope wsX9_isRope) := goodIn_app (goodIn_of _ (by decide +kernel)) ggX9_would_X9_isRope
set_option maxRecDepth 20000 in
theorem ggX9_would_X9_isIn : GoodIn wsX9_would wsX9_isIn := goodIn_r _ [9] (by decide +kernel) (by decide +kernel)
set_option maxRecDepth 20000 in
theorem gX9_would_X9_isIn : GoodIn wsX9_would (va_wsS RX9 52 yX9_isIn wsX9_isIn) := goodIn_app (goodIn_of _ (by decide +kernel)) ggX9_would_X9_isIn
set_option maxRecDepth 20000 in
theorem ggX9_would_X9_isHeard : GoodIn wsX9_would wsX9_isHeard := goodIn_r _ [13, 6, 14, 15, 4, 16, 17, 18, 19, 20, 21, 22, 23, 24, 25, 26, 27, 28, 29, 30, 31, 32, 33, 34] (by decide +kernel) (by decide +kernel)
set_option maxRecDepth 20000 in
theorem gX9_would_X9_isHeard : GoodIn wsX9_would (wsV RX9 112 RX9 yX9_isHeard wsX9_isHeard) := goodIn_app (goodIn_of _ (by decide +kernel)) ggX9_would_X9_isHeard
theorem dX9_would_0 : decode cX9_would 0 = .ok (.aload_n 0, 1) := by decide +kernel
theorem dX9_would_1 : decode cX9_would 1 = .ok (.iload_n 1, 1) := by decide +kernel
theorem dX9_would_2 : decode cX9_would 2 = .ok (.invokevirtual 76, 3) := by decide +kernel
theorem dX9_would_5 : decode cX9_would 5 = .ok (.ifCond .ne 9, 3) := by decide +kernel
theorem dX9_would_8 : decode cX9_would 8 = .ok (.sipush (-1011), 3) := by decide +kernel
theorem dX9_would_11 : decode cX9_would 11 = .ok (.goto 33, 3) := by decide +kernel
theorem dX9_would_14 : decode cX9_would 14 = .ok (.iload_n 2, 1) := by decide +kernel
theorem dX9_would_15 : decode cX9_would 15 = .ok (.iconst 1, 1) := by decide +kernel
theorem dX9_would_16 : decode cX9_would 16 = .ok (.bipush 9, 2) := by decide +kernel
theorem dX9_would_18 : decode cX9_would 18 = .ok (.invokestatic 52, 3) := by decide +kernel
theorem dX9_would_21 : decode cX9_would 21 = .ok (.ifCond .ne 9, 3) := by decide +kernel
theorem dX9_would_24 : decode cX9_would 24 = .ok (.sipush (-1012), 3) := by decide +kernel
theorem dX9_would_27 : decode cX9_would 27 = .ok (.goto 17, 3) := by decide +kernel
theorem dX9_would_30 : decode cX9_would 30 = .ok (.aload_n 0, 1) := by decide +kernel
theorem dX9_would_31 : decode cX9_would 31 = .ok (.iload_n 1, 1) := by decide +kernel
theorem dX9_would_32 : decode cX9_would 32 = .ok (.iload_n 2, 1) := by decide +kernel
theorem dX9_would_33 : decode cX9_would 33 = .ok (.invokevirtual 112, 3) := by decide +kernel
theorem dX9_would_36 : decode cX9_would 36 = .ok (.ifCond .eq 7, 3) := by decide +kernel
theorem dX9_would_39 : decode cX9_would 39 = .ok (.iconst 1, 1) := by decide +kernel
theorem dX9_would_40 : decode cX9_would 40 = .ok (.goto 4, 3) := by decide +kernel
theorem dX9_would_43 : decode cX9_would 43 = .ok (.iconst 0, 1) := by decide +kernel
theorem dX9_would_44 : decode cX9_would 44 = .ok (.ireturn, 1) := by decide +kernel
set_option maxRecDepth 20000 in
theorem ggX9_forecast_X9_lays : GoodIn wsX9_forecast wsX9_lays := goodIn_r _ [6] (by decide +kernel) (by decide +kernel)
set_option maxRecDepth 20000 in
theorem gX9_forecast_X9_lays : GoodIn wsX9_forecast (va_wsS RX9 45 yX9_lays wsX9_lays) := goodIn_app (goodIn_of _ (by decide +kernel)) ggX9_forecast_X9_lays
set_option maxRecDepth 20000 in
theorem ggX9_forecast_X9_ringsNext : GoodIn wsX9_forecast wsX9_ringsNext := goodIn_r _ [10, 2, 11, 12, 13, 5, 14, 15, 16, 17, 18, 19, 20, 21, 22, 23, 24, 25, 26, 27, 28, 29, 30, 31, 32, 33, 34, 35, 36, 37, 38, 39, 40, 41, 42, 43, 44, 45, 46, 47] (by decide +kernel) (by decide +kernel)
set_option maxRecDepth 20000 in
theorem gX9_forecast_X9_ringsNext : GoodIn wsX9_forecast (wsV RX9 120 RX9 yX9_ringsNext wsX9_ringsNext) := goodIn_app (goodIn_of _ (by decide +kernel)) ggX9_forecast_X9_ringsNext
theorem dX9_forecast_0 : decode cX9_forecast 0 = .ok (.aload_n 0, 1) := by decide +kernel
theorem dX9_forecast_1 : decode cX9_forecast 1 = .ok (.getfield 19, 3) := by decide +kernel
theorem dX9_forecast_4 : decode cX9_forecast 4 = .ok (.aload_n 0, 1) := by decide +kernel
theorem dX9_forecast_5 : decode cX9_forecast 5 = .ok (.getfield 7, 3) := by decide +kernel
theorem dX9_forecast_8 : decode cX9_forecast 8 = .ok (.invokestatic 45, 3) := by decide +kernel
theorem dX9_forecast_11 : decode cX9_forecast 11 = .ok (.iconst 0, 1) := by decide +kernel
theorem dX9_forecast_12 : decode cX9_forecast 12 = .ok (.istore_n 1, 1) := by decide +kernel
theorem dX9_forecast_13 : decode cX9_forecast 13 = .ok (.aload_n 0, 1) := by decide +kernel
theorem dX9_forecast_14 : decode cX9_forecast 14 = .ok (.getfield 7, 3) := by decide +kernel
theorem dX9_forecast_17 : decode cX9_forecast 17 = .ok (.iconst 1, 1) := by decide +kernel
theorem dX9_forecast_18 : decode cX9_forecast 18 = .ok (.iaload, 1) := by decide +kernel
theorem dX9_forecast_19 : decode cX9_forecast 19 = .ok (.ifCond .le 22, 3) := by decide +kernel
theorem dX9_forecast_22 : decode cX9_forecast 22 = .ok (.iload_n 1, 1) := by decide +kernel
theorem dX9_forecast_23 : decode cX9_forecast 23 = .ok (.aload_n 0, 1) := by decide +kernel
theorem dX9_forecast_24 : decode cX9_forecast 24 = .ok (.invokevirtual 120, 3) := by decide +kernel
theorem dX9_forecast_27 : decode cX9_forecast 27 = .ok (.iconst 1, 1) := by decide +kernel
theorem dX9_forecast_28 : decode cX9_forecast 28 = .ok (.if_icmp .ne 7, 3) := by decide +kernel
theorem dX9_forecast_31 : decode cX9_forecast 31 = .ok (.iconst 1, 1) := by decide +kernel
theorem dX9_forecast_32 : decode cX9_forecast 32 = .ok (.goto 4, 3) := by decide +kernel
theorem dX9_forecast_35 : decode cX9_forecast 35 = .ok (.iconst 0, 1) := by decide +kernel
theorem dX9_forecast_36 : decode cX9_forecast 36 = .ok (.iadd, 1) := by decide +kernel
theorem dX9_forecast_37 : decode cX9_forecast 37 = .ok (.istore_n 1, 1) := by decide +kernel
theorem dX9_forecast_38 : decode cX9_forecast 38 = .ok (.goto (-25), 3) := by decide +kernel
theorem dX9_forecast_41 : decode cX9_forecast 41 = .ok (.aload_n 0, 1) := by decide +kernel
theorem dX9_forecast_42 : decode cX9_forecast 42 = .ok (.getfield 7, 3) := by decide +kernel
theorem dX9_forecast_45 : decode cX9_forecast 45 = .ok (.aload_n 0, 1) := by decide +kernel
theorem dX9_forecast_46 : decode cX9_forecast 46 = .ok (.getfield 19, 3) := by decide +kernel
theorem dX9_forecast_49 : decode cX9_forecast 49 = .ok (.invokestatic 45, 3) := by decide +kernel
theorem dX9_forecast_52 : decode cX9_forecast 52 = .ok (.iload_n 1, 1) := by decide +kernel
theorem dX9_forecast_53 : decode cX9_forecast 53 = .ok (.ireturn, 1) := by decide +kernel
set_option maxRecDepth 20000 in
theorem ggX9_forecastAgain_X9_forecast : GoodIn wsX9_forecastAgain wsX9_forecast := goodIn_r _ [5, 6, 7, 8, 9, 4, 10, 11, 12, 13, 14, 15, 16, 17, 18, 19, 20, 21, 22, 23, 24, 25, 26, 27, 28, 29, 30, 31, 32, 33, 34, 35, 36, 37, 38, 39, 40, 41, 42, 43, 44, 45, 46, 47, 48, 49, 50, 51] (by decide +kernel) (by decide +kernel)
set_option maxRecDepth 20000 in
theorem gX9_forecastAgain_X9_forecast : GoodIn wsX9_forecastAgain (wsV RX9 133 RX9 yX9_forecast wsX9_forecast) := goodIn_app (goodIn_of _ (by decide +kernel)) ggX9_forecastAgain_X9_forecast
theorem dX9_forecastAgain_0 : decode cX9_forecastAgain 0 = .ok (.aload_n 0, 1) := by decide +kernel
theorem dX9_forecastAgain_1 : decode cX9_forecastAgain 1 = .ok (.invokevirtual 133, 3) := by decide +kernel
theorem dX9_forecastAgain_4 : decode cX9_forecastAgain 4 = .ok (.ireturn, 1) := by decide +kernel
set_option maxRecDepth 20000 in
theorem ggX9_answerOf_X9_isIn : GoodIn wsX9_answerOf wsX9_isIn := goodIn_r _ [5] (by decide +kernel) (by decide +kernel)
set_option maxRecDepth 20000 in
theorem gX9_answerOf_X9_isIn : GoodIn wsX9_answerOf (va_wsS RX9 52 yX9_isIn wsX9_isIn) := goodIn_app (goodIn_of _ (by decide +kernel)) ggX9_answerOf_X9_isIn
theorem dX9_answerOf_0 : decode cX9_answerOf 0 = .ok (.iload_n 1, 1) := by decide +kernel
theorem dX9_answerOf_1 : decode cX9_answerOf 1 = .ok (.iconst 0, 1) := by decide +kernel
theorem dX9_answerOf_2 : decode cX9_answerOf 2 = .ok (.aload_n 0, 1) := by decide +kernel
theorem dX9_answerOf_3 : decode cX9_answerOf 3 = .ok (.getfield 7, 3) := by decide +kernel
theorem dX9_answerOf_6 : decode cX9_answerOf 6 = .ok (.bipush 9, 2) := by decide +kernel
theorem dX9_answerOf_8 : decode cX9_answerOf 8 = .ok (.iaload, 1) := by decide +kernel
theorem dX9_answerOf_9 : decode cX9_answerOf 9 = .ok (.iconst 1, 1) := by decide +kernel
theorem dX9_answerOf_10 : decode cX9_answerOf 10 = .ok (.isub, 1) := by decide +kernel
theorem dX9_answerOf_11 : decode cX9_answerOf 11 = .ok (.invokestatic 52, 3) := by decide +kernel
theorem dX9_answerOf_14 : decode cX9_answerOf 14 = .ok (.ifCond .ne 7, 3) := by decide +kernel
theorem dX9_answerOf_17 : decode cX9_answerOf 17 = .ok (.sipush (-1011), 3) := by decide +kernel
theorem dX9_answerOf_20 : decode cX9_answerOf 20 = .ok (.ireturn, 1) := by decide +kernel
theorem dX9_answerOf_21 : decode cX9_answerOf 21 = .ok (.iload_n 2, 1) := by decide +kernel
theorem dX9_answerOf_22 : decode cX9_answerOf 22 = .ok (.iconst 0, 1) := by decide +kernel
theorem dX9_answerOf_23 : decode cX9_answerOf 23 = .ok (.iconst 3, 1) := by decide +kernel
theorem dX9_answerOf_24 : decode cX9_answerOf 24 = .ok (.invokestatic 52, 3) := by decide +kernel
theorem dX9_answerOf_27 : decode cX9_answerOf 27 = .ok (.ifCond .eq 20, 3) := by decide +kernel
theorem dX9_answerOf_30 : decode cX9_answerOf 30 = .ok (.aload_n 0, 1) := by decide +kernel
theorem dX9_answerOf_31 : decode cX9_answerOf 31 = .ok (.getfield 7, 3) := by decide +kernel
theorem dX9_answerOf_34 : decode cX9_answerOf 34 = .ok (.sipush 131, 3) := by decide +kernel
theorem dX9_answerOf_37 : decode cX9_answerOf 37 = .ok (.iconst 4, 1) := by decide +kernel
theorem dX9_answerOf_38 : decode cX9_answerOf 38 = .ok (.iload_n 1, 1) := by decide +kernel
theorem dX9_answerOf_39 : decode cX9_answerOf 39 = .ok (.imul, 1) := by decide +kernel
theorem dX9_answerOf_40 : decode cX9_answerOf 40 = .ok (.iadd, 1) := by decide +kernel
theorem dX9_answerOf_41 : decode cX9_answerOf 41 = .ok (.iload_n 2, 1) := by decide +kernel
theorem dX9_answerOf_42 : decode cX9_answerOf 42 = .ok (.iadd, 1) := by decide +kernel
theorem dX9_answerOf_43 : decode cX9_answerOf 43 = .ok (.iaload, 1) := by decide +kernel
theorem dX9_answerOf_44 : decode cX9_answerOf 44 = .ok (.goto 6, 3) := by decide +kernel
theorem dX9_answerOf_47 : decode cX9_answerOf 47 = .ok (.sipush (-1012), 3) := by decide +kernel
theorem dX9_answerOf_50 : decode cX9_answerOf 50 = .ok (.ireturn, 1) := by decide +kernel
set_option maxRecDepth 20000 in
theorem ggX9_isHour_X9_isIn : GoodIn wsX9_isHour wsX9_isIn := goodIn_r _ [4] (by decide +kernel) (by decide +kernel)
set_option maxRecDepth 20000 in
theorem gX9_isHour_X9_isIn : GoodIn wsX9_isHour (va_wsS RX9 52 yX9_isIn wsX9_isIn) := goodIn_app (goodIn_of _ (by decide +kernel)) ggX9_isHour_X9_isIn
theorem dX9_isHour_0 : decode cX9_isHour 0 = .ok (.iload_n 0, 1) := by decide +kernel
theorem dX9_isHour_1 : decode cX9_isHour 1 = .ok (.iconst 0, 1) := by decide +kernel
theorem dX9_isHour_2 : decode cX9_isHour 2 = .ok (.bipush 23, 2) := by decide +kernel
theorem dX9_isHour_4 : decode cX9_isHour 4 = .ok (.invokestatic 52, 3) := by decide +kernel
theorem dX9_isHour_7 : decode cX9_isHour 7 = .ok (.ireturn, 1) := by decide +kernel
set_option maxRecDepth 20000 in
theorem ggX9_answered_X9_isHour : GoodIn wsX9_answered wsX9_isHour := goodIn_r _ [5, 6, 7, 4, 8] (by decide +kernel) (by decide +kernel)
set_option maxRecDepth 20000 in
theorem gX9_answered_X9_isHour : GoodIn wsX9_answered (va_wsS RX9 136 yX9_isHour wsX9_isHour) := goodIn_app (goodIn_of _ (by decide +kernel)) ggX9_answered_X9_isHour
theorem dX9_answered_0 : decode cX9_answered 0 = .ok (.iload_n 1, 1) := by decide +kernel
theorem dX9_answered_1 : decode cX9_answered 1 = .ok (.invokestatic 136, 3) := by decide +kernel
theorem dX9_answered_4 : decode cX9_answered 4 = .ok (.ifCond .eq 16, 3) := by decide +kernel
theorem dX9_answered_7 : decode cX9_answered 7 = .ok (.aload_n 0, 1) := by decide +kernel
theorem dX9_answered_8 : decode cX9_answered 8 = .ok (.getfield 7, 3) := by decide +kernel
theorem dX9_answered_11 : decode cX9_answered 11 = .ok (.sipush 211, 3) := by decide +kernel
theorem dX9_answered_14 : decode cX9_answered 14 = .ok (.iload_n 1, 1) := by decide +kernel
theorem dX9_answered_15 : decode cX9_answered 15 = .ok (.iadd, 1) := by decide +kernel
theorem dX9_answered_16 : decode cX9_answered 16 = .ok (.iaload, 1) := by decide +kernel
theorem dX9_answered_17 : decode cX9_answered 17 = .ok (.goto 6, 3) := by decide +kernel
theorem dX9_answered_20 : decode cX9_answered 20 = .ok (.sipush (-1012), 3) := by decide +kernel
theorem dX9_answered_23 : decode cX9_answered 23 = .ok (.ireturn, 1) := by decide +kernel
set_option maxRecDepth 20000 in
theorem ggX9_ropesOf_X9_at : GoodIn wsX9_ropesOf wsX9_at := goodIn_r _ [5] (by decide +kernel) (by decide +kernel)
set_option maxRecDepth 20000 in
theorem gX9_ropesOf_X9_at : GoodIn wsX9_ropesOf (va_wsS RX9 64 yX9_at wsX9_at) := goodIn_app (goodIn_of _ (by decide +kernel)) ggX9_ropesOf_X9_at
theorem dX9_ropesOf_0 : decode cX9_ropesOf 0 = .ok (.iconst 0, 1) := by decide +kernel
theorem dX9_ropesOf_1 : decode cX9_ropesOf 1 = .ok (.istore_n 3, 1) := by decide +kernel
theorem dX9_ropesOf_2 : decode cX9_ropesOf 2 = .ok (.iconst 0, 1) := by decide +kernel
theorem dX9_ropesOf_3 : decode cX9_ropesOf 3 = .ok (.istore 4, 2) := by decide +kernel
theorem dX9_ropesOf_5 : decode cX9_ropesOf 5 = .ok (.iload 4, 2) := by decide +kernel
theorem dX9_ropesOf_7 : decode cX9_ropesOf 7 = .ok (.aload_n 0, 1) := by decide +kernel
theorem dX9_ropesOf_8 : decode cX9_ropesOf 8 = .ok (.getfield 7, 3) := by decide +kernel
theorem dX9_ropesOf_11 : decode cX9_ropesOf 11 = .ok (.iconst 0, 1) := by decide +kernel
theorem dX9_ropesOf_12 : decode cX9_ropesOf 12 = .ok (.iaload, 1) := by decide +kernel
theorem dX9_ropesOf_13 : decode cX9_ropesOf 13 = .ok (.if_icmp .ge 42, 3) := by decide +kernel
theorem dX9_ropesOf_16 : decode cX9_ropesOf 16 = .ok (.iload_n 3, 1) := by decide +kernel
theorem dX9_ropesOf_17 : decode cX9_ropesOf 17 = .ok (.aload_n 0, 1) := by decide +kernel
theorem dX9_ropesOf_18 : decode cX9_ropesOf 18 = .ok (.getfield 7, 3) := by decide +kernel
theorem dX9_ropesOf_21 : decode cX9_ropesOf 21 = .ok (.iload 4, 2) := by decide +kernel
theorem dX9_ropesOf_23 : decode cX9_ropesOf 23 = .ok (.iconst 0, 1) := by decide +kernel
theorem dX9_ropesOf_24 : decode cX9_ropesOf 24 = .ok (.invokestatic 64, 3) := by decide +kernel
theorem dX9_ropesOf_27 : decode cX9_ropesOf 27 = .ok (.iaload, 1) := by decide +kernel
theorem dX9_ropesOf_28 : decode cX9_ropesOf 28 = .ok (.iload_n 1, 1) := by decide +kernel
theorem dX9_ropesOf_29 : decode cX9_ropesOf 29 = .ok (.if_icmp .ne 17, 3) := by decide +kernel
theorem dX9_ropesOf_32 : decode cX9_ropesOf 32 = .ok (.iload_n 2, 1) := by decide +kernel
theorem dX9_ropesOf_33 : decode cX9_ropesOf 33 = .ok (.iload 4, 2) := by decide +kernel
theorem dX9_ropesOf_35 : decode cX9_ropesOf 35 = .ok (.ishr, 1) := by decide +kernel
theorem dX9_ropesOf_36 : decode cX9_ropesOf 36 = .ok (.iconst 1, 1) := by decide +kernel
theorem dX9_ropesOf_37 : decode cX9_ropesOf 37 = .ok (.iand, 1) := by decide +kernel
theorem dX9_ropesOf_38 : decode cX9_ropesOf 38 = .ok (.iconst 1, 1) := by decide +kernel
theorem dX9_ropesOf_39 : decode cX9_ropesOf 39 = .ok (.if_icmp .ne 7, 3) := by decide +kernel
theorem dX9_ropesOf_42 : decode cX9_ropesOf 42 = .ok (.iconst 1, 1) := by decide +kernel
theorem dX9_ropesOf_43 : decode cX9_ropesOf 43 = .ok (.goto 4, 3) := by decide +kernel
theorem dX9_ropesOf_46 : decode cX9_ropesOf 46 = .ok (.iconst 0, 1) := by decide +kernel
theorem dX9_ropesOf_47 : decode cX9_ropesOf 47 = .ok (.iadd, 1) := by decide +kernel
theorem dX9_ropesOf_48 : decode cX9_ropesOf 48 = .ok (.istore_n 3, 1) := by decide +kernel
theorem dX9_ropesOf_49 : decode cX9_ropesOf 49 = .ok (.iinc 4 1, 3) := by decide +kernel
theorem dX9_ropesOf_52 : decode cX9_ropesOf 52 = .ok (.goto (-47), 3) := by decide +kernel
theorem dX9_ropesOf_55 : decode cX9_ropesOf 55 = .ok (.iload_n 3, 1) := by decide +kernel
theorem dX9_ropesOf_56 : decode cX9_ropesOf 56 = .ok (.ireturn, 1) := by decide +kernel
set_option maxRecDepth 20000 in
theorem ggX9_guessed_X9_ropesOf : GoodIn wsX9_guessed wsX9_ropesOf := goodIn_r _ [6, 1, 7, 8, 5, 9, 10, 11, 12, 13, 14, 15, 16, 17, 18, 19, 20, 21, 22, 23, 24, 25, 26, 27] (by decide +kernel) (by decide +kernel)
set_option maxRecDepth 20000 in
theorem gX9_guessed_X9_ropesOf : GoodIn wsX9_guessed (wsV RX9 139 RX9 yX9_ropesOf wsX9_ropesOf) := goodIn_app (goodIn_of _ (by decide +kernel)) ggX9_guessed_X9_ropesOf
theorem dX9_guessed_0 : decode cX9_guessed 0 = .ok (.aload_n 0, 1) := by decide +kernel
theorem dX9_guessed_1 : decode cX9_guessed 1 = .ok (.getfield 7, 3) := by decide +kernel
theorem dX9_guessed_4 : decode cX9_guessed 4 = .ok (.sipush 211, 3) := by decide +kernel
theorem dX9_guessed_7 : decode cX9_guessed 7 = .ok (.iload_n 1, 1) := by decide +kernel
theorem dX9_guessed_8 : decode cX9_guessed 8 = .ok (.iadd, 1) := by decide +kernel
theorem dX9_guessed_9 : decode cX9_guessed 9 = .ok (.iaload, 1) := by decide +kernel
theorem dX9_guessed_10 : decode cX9_guessed 10 = .ok (.istore_n 2, 1) := by decide +kernel
theorem dX9_guessed_11 : decode cX9_guessed 11 = .ok (.iconst (-1), 1) := by decide +kernel
theorem dX9_guessed_12 : decode cX9_guessed 12 = .ok (.istore_n 3, 1) := by decide +kernel
theorem dX9_guessed_13 : decode cX9_guessed 13 = .ok (.iconst 0, 1) := by decide +kernel
theorem dX9_guessed_14 : decode cX9_guessed 14 = .ok (.istore 4, 2) := by decide +kernel
theorem dX9_guessed_16 : decode cX9_guessed 16 = .ok (.iconst 1, 1) := by decide +kernel
theorem dX9_guessed_17 : decode cX9_guessed 17 = .ok (.istore 5, 2) := by decide +kernel
theorem dX9_guessed_19 : decode cX9_guessed 19 = .ok (.iconst 0, 1) := by decide +kernel
theorem dX9_guessed_20 : decode cX9_guessed 20 = .ok (.istore 6, 2) := by decide +kernel
theorem dX9_guessed_22 : decode cX9_guessed 22 = .ok (.iload 6, 2) := by decide +kernel
theorem dX9_guessed_24 : decode cX9_guessed 24 = .ok (.iconst 4, 1) := by decide +kernel
theorem dX9_guessed_25 : decode cX9_guessed 25 = .ok (.if_icmp .ge 87, 3) := by decide +kernel
theorem dX9_guessed_28 : decode cX9_guessed 28 = .ok (.iload_n 2, 1) := by decide +kernel
theorem dX9_guessed_29 : decode cX9_guessed 29 = .ok (.ifCond .eq 83, 3) := by decide +kernel
theorem dX9_guessed_32 : decode cX9_guessed 32 = .ok (.aload_n 0, 1) := by decide +kernel
theorem dX9_guessed_33 : decode cX9_guessed 33 = .ok (.iload 6, 2) := by decide +kernel
theorem dX9_guessed_35 : decode cX9_guessed 35 = .ok (.iload_n 2, 1) := by decide +kernel
theorem dX9_guessed_36 : decode cX9_guessed 36 = .ok (.invokevirtual 139, 3) := by decide +kernel
theorem dX9_guessed_39 : decode cX9_guessed 39 = .ok (.istore 7, 2) := by decide +kernel
theorem dX9_guessed_41 : decode cX9_guessed 41 = .ok (.aload_n 0, 1) := by decide +kernel
theorem dX9_guessed_42 : decode cX9_guessed 42 = .ok (.iload 6, 2) := by decide +kernel
theorem dX9_guessed_44 : decode cX9_guessed 44 = .ok (.iconst (-1), 1) := by decide +kernel
theorem dX9_guessed_45 : decode cX9_guessed 45 = .ok (.invokevirtual 139, 3) := by decide +kernel
theorem dX9_guessed_48 : decode cX9_guessed 48 = .ok (.istore 8, 2) := by decide +kernel
theorem dX9_guessed_50 : decode cX9_guessed 50 = .ok (.iload 7, 2) := by decide +kernel
theorem dX9_guessed_52 : decode cX9_guessed 52 = .ok (.ifCond .ne 6, 3) := by decide +kernel
theorem dX9_guessed_55 : decode cX9_guessed 55 = .ok (.goto 51, 3) := by decide +kernel
theorem dX9_guessed_58 : decode cX9_guessed 58 = .ok (.iload 7, 2) := by decide +kernel
theorem dX9_guessed_60 : decode cX9_guessed 60 = .ok (.iload 5, 2) := by decide +kernel
theorem dX9_guessed_62 : decode cX9_guessed 62 = .ok (.imul, 1) := by decide +kernel
theorem dX9_guessed_63 : decode cX9_guessed 63 = .ok (.iload 4, 2) := by decide +kernel
theorem dX9_guessed_65 : decode cX9_guessed 65 = .ok (.iload 8, 2) := by decide +kernel
theorem dX9_guessed_67 : decode cX9_guessed 67 = .ok (.imul, 1) := by decide +kernel
theorem dX9_guessed_68 : decode cX9_guessed 68 = .ok (.isub, 1) := by decide +kernel
theorem dX9_guessed_69 : decode cX9_guessed 69 = .ok (.istore 9, 2) := by decide +kernel
theorem dX9_guessed_71 : decode cX9_guessed 71 = .ok (.iload_n 3, 1) := by decide +kernel
theorem dX9_guessed_72 : decode cX9_guessed 72 = .ok (.ifCond .lt 23, 3) := by decide +kernel
theorem dX9_guessed_75 : decode cX9_guessed 75 = .ok (.iload 9, 2) := by decide +kernel
theorem dX9_guessed_77 : decode cX9_guessed 77 = .ok (.ifCond .lt 29, 3) := by decide +kernel
theorem dX9_guessed_80 : decode cX9_guessed 80 = .ok (.iload 9, 2) := by decide +kernel
theorem dX9_guessed_82 : decode cX9_guessed 82 = .ok (.ifCond .ne 13, 3) := by decide +kernel
theorem dX9_guessed_85 : decode cX9_guessed 85 = .ok (.iload 7, 2) := by decide +kernel
theorem dX9_guessed_87 : decode cX9_guessed 87 = .ok (.iload 4, 2) := by decide +kernel
theorem dX9_guessed_89 : decode cX9_guessed 89 = .ok (.if_icmp .gt 6, 3) := by decide +kernel
theorem dX9_guessed_92 : decode cX9_guessed 92 = .ok (.goto 14, 3) := by decide +kernel
theorem dX9_guessed_95 : decode cX9_guessed 95 = .ok (.iload 6, 2) := by decide +kernel
theorem dX9_guessed_97 : decode cX9_guessed 97 = .ok (.istore_n 3, 1) := by decide +kernel
theorem dX9_guessed_98 : decode cX9_guessed 98 = .ok (.iload 7, 2) := by decide +kernel
theorem dX9_guessed_100 : decode cX9_guessed 100 = .ok (.istore 4, 2) := by decide +kernel
theorem dX9_guessed_102 : decode cX9_guessed 102 = .ok (.iload 8, 2) := by decide +kernel
theorem dX9_guessed_104 : decode cX9_guessed 104 = .ok (.istore 5, 2) := by decide +kernel
theorem dX9_guessed_106 : decode cX9_guessed 106 = .ok (.iinc 6 1, 3) := by decide +kernel
theorem dX9_guessed_109 : decode cX9_guessed 109 = .ok (.goto (-87), 3) := by decide +kernel
theorem dX9_guessed_112 : decode cX9_guessed 112 = .ok (.iload_n 3, 1) := by decide +kernel
theorem dX9_guessed_113 : decode cX9_guessed 113 = .ok (.ifCond .ge 9, 3) := by decide +kernel
theorem dX9_guessed_116 : decode cX9_guessed 116 = .ok (.sipush (-1015), 3) := by decide +kernel
theorem dX9_guessed_119 : decode cX9_guessed 119 = .ok (.goto 4, 3) := by decide +kernel
theorem dX9_guessed_122 : decode cX9_guessed 122 = .ok (.iload_n 3, 1) := by decide +kernel
theorem dX9_guessed_123 : decode cX9_guessed 123 = .ok (.ireturn, 1) := by decide +kernel
set_option maxRecDepth 20000 in
theorem ggX9_guess_X9_isHour : GoodIn wsX9_guess wsX9_isHour := goodIn_r _ [4, 5, 6, 3, 7] (by decide +kernel) (by decide +kernel)
set_option maxRecDepth 20000 in
theorem gX9_guess_X9_isHour : GoodIn wsX9_guess (va_wsS RX9 136 yX9_isHour wsX9_isHour) := goodIn_app (goodIn_of _ (by decide +kernel)) ggX9_guess_X9_isHour
set_option maxRecDepth 20000 in
theorem ggX9_guess_X9_guessed : GoodIn wsX9_guess wsX9_guessed := goodIn_r _ [11, 12, 13, 14, 15, 3, 16, 17, 18, 19, 20, 21, 22, 23, 24, 25, 26, 27, 28, 29, 30, 31, 32, 33, 34, 35, 36, 37] (by decide +kernel) (by decide +kernel)
set_option maxRecDepth 20000 in
theorem gX9_guess_X9_guessed : GoodIn wsX9_guess (wsV RX9 142 RX9 yX9_guessed wsX9_guessed) := goodIn_app (goodIn_of _ (by decide +kernel)) ggX9_guess_X9_guessed
theorem dX9_guess_0 : decode cX9_guess 0 = .ok (.iload_n 1, 1) := by decide +kernel
theorem dX9_guess_1 : decode cX9_guess 1 = .ok (.invokestatic 136, 3) := by decide +kernel
theorem dX9_guess_4 : decode cX9_guess 4 = .ok (.ifCond .eq 11, 3) := by decide +kernel
theorem dX9_guess_7 : decode cX9_guess 7 = .ok (.aload_n 0, 1) := by decide +kernel
theorem dX9_guess_8 : decode cX9_guess 8 = .ok (.iload_n 1, 1) := by decide +kernel
theorem dX9_guess_9 : decode cX9_guess 9 = .ok (.invokevirtual 142, 3) := by decide +kernel
theorem dX9_guess_12 : decode cX9_guess 12 = .ok (.goto 6, 3) := by decide +kernel
theorem dX9_guess_15 : decode cX9_guess 15 = .ok (.sipush (-1012), 3) := by decide +kernel
theorem dX9_guess_18 : decode cX9_guess 18 = .ok (.ireturn, 1) := by decide +kernel
set_option maxRecDepth 20000 in
theorem ggX9_guessAgain_X9_guess : GoodIn wsX9_guessAgain wsX9_guess := goodIn_r _ [5, 6, 7, 4, 8, 9, 10, 11, 12, 13, 14, 15, 16, 17, 18, 19, 20, 21, 22, 23, 24, 25, 26, 27, 28, 29, 30, 31, 32, 33, 34, 35, 36, 37, 38, 39, 40, 41] (by decide +kernel) (by decide +kernel)
set_option maxRecDepth 20000 in
theorem gX9_guessAgain_X9_guess : GoodIn wsX9_guessAgain (wsV RX9 145 RX9 yX9_guess wsX9_guess) := goodIn_app (goodIn_of _ (by decide +kernel)) ggX9_guessAgain_X9_guess
theorem dX9_guessAgain_0 : decode cX9_guessAgain 0 = .ok (.aload_n 0, 1) := by decide +kernel
theorem dX9_guessAgain_1 : decode cX9_guessAgain 1 = .ok (.iload_n 1, 1) := by decide +kernel
theorem dX9_guessAgain_2 : decode cX9_guessAgain 2 = .ok (.invokevirtual 145, 3) := by decide +kernel
theorem dX9_guessAgain_5 : decode cX9_guessAgain 5 = .ok (.ireturn, 1) := by decide +kernel
set_option maxRecDepth 20000 in
theorem ggX9_sum_X9_at : GoodIn wsX9_sum wsX9_at := goodIn_r _ [5] (by decide +kernel) (by decide +kernel)
set_option maxRecDepth 20000 in
theorem gX9_sum_X9_at : GoodIn wsX9_sum (va_wsS RX9 64 yX9_at wsX9_at) := goodIn_app (goodIn_of _ (by decide +kernel)) ggX9_sum_X9_at
set_option maxRecDepth 20000 in
theorem ggX9_sum_X9_waitingOf : GoodIn wsX9_sum wsX9_waitingOf := goodIn_r _ [9, 1, 10, 11, 12, 4, 13, 14, 15, 16, 17, 18, 19, 20, 21, 22, 23, 24, 25, 26, 27, 28, 29, 30, 31] (by decide +kernel) (by decide +kernel)
set_option maxRecDepth 20000 in
theorem gX9_sum_X9_waitingOf : GoodIn wsX9_sum (wsV RX9 94 RX9 yX9_waitingOf wsX9_waitingOf) := goodIn_app (goodIn_of _ (by decide +kernel)) ggX9_sum_X9_waitingOf
theorem dX9_sum_0 : decode cX9_sum 0 = .ok (.iconst 0, 1) := by decide +kernel
theorem dX9_sum_1 : decode cX9_sum 1 = .ok (.istore_n 3, 1) := by decide +kernel
theorem dX9_sum_2 : decode cX9_sum 2 = .ok (.iconst 0, 1) := by decide +kernel
theorem dX9_sum_3 : decode cX9_sum 3 = .ok (.istore 4, 2) := by decide +kernel
theorem dX9_sum_5 : decode cX9_sum 5 = .ok (.iload 4, 2) := by decide +kernel
theorem dX9_sum_7 : decode cX9_sum 7 = .ok (.aload_n 0, 1) := by decide +kernel
theorem dX9_sum_8 : decode cX9_sum 8 = .ok (.getfield 7, 3) := by decide +kernel
theorem dX9_sum_11 : decode cX9_sum 11 = .ok (.iconst 0, 1) := by decide +kernel
theorem dX9_sum_12 : decode cX9_sum 12 = .ok (.iaload, 1) := by decide +kernel
theorem dX9_sum_13 : decode cX9_sum 13 = .ok (.if_icmp .ge 53, 3) := by decide +kernel
theorem dX9_sum_16 : decode cX9_sum 16 = .ok (.aload_n 0, 1) := by decide +kernel
theorem dX9_sum_17 : decode cX9_sum 17 = .ok (.getfield 7, 3) := by decide +kernel
theorem dX9_sum_20 : decode cX9_sum 20 = .ok (.iload 4, 2) := by decide +kernel
theorem dX9_sum_22 : decode cX9_sum 22 = .ok (.iconst 0, 1) := by decide +kernel
theorem dX9_sum_23 : decode cX9_sum 23 = .ok (.invokestatic 64, 3) := by decide +kernel
theorem dX9_sum_26 : decode cX9_sum 26 = .ok (.iaload, 1) := by decide +kernel
theorem dX9_sum_27 : decode cX9_sum 27 = .ok (.iload_n 1, 1) := by decide +kernel
theorem dX9_sum_28 : decode cX9_sum 28 = .ok (.if_icmp .ne 32, 3) := by decide +kernel
theorem dX9_sum_31 : decode cX9_sum 31 = .ok (.iload_n 3, 1) := by decide +kernel
theorem dX9_sum_32 : decode cX9_sum 32 = .ok (.iload_n 2, 1) := by decide +kernel
theorem dX9_sum_33 : decode cX9_sum 33 = .ok (.bipush 6, 2) := by decide +kernel
theorem dX9_sum_35 : decode cX9_sum 35 = .ok (.if_icmp .ne 12, 3) := by decide +kernel
theorem dX9_sum_38 : decode cX9_sum 38 = .ok (.aload_n 0, 1) := by decide +kernel
theorem dX9_sum_39 : decode cX9_sum 39 = .ok (.iload 4, 2) := by decide +kernel
theorem dX9_sum_41 : decode cX9_sum 41 = .ok (.invokevirtual 94, 3) := by decide +kernel
theorem dX9_sum_44 : decode cX9_sum 44 = .ok (.goto 14, 3) := by decide +kernel
theorem dX9_sum_47 : decode cX9_sum 47 = .ok (.aload_n 0, 1) := by decide +kernel
theorem dX9_sum_48 : decode cX9_sum 48 = .ok (.getfield 7, 3) := by decide +kernel
theorem dX9_sum_51 : decode cX9_sum 51 = .ok (.iload 4, 2) := by decide +kernel
theorem dX9_sum_53 : decode cX9_sum 53 = .ok (.iload_n 2, 1) := by decide +kernel
theorem dX9_sum_54 : decode cX9_sum 54 = .ok (.invokestatic 64, 3) := by decide +kernel
theorem dX9_sum_57 : decode cX9_sum 57 = .ok (.iaload, 1) := by decide +kernel
theorem dX9_sum_58 : decode cX9_sum 58 = .ok (.iadd, 1) := by decide +kernel
theorem dX9_sum_59 : decode cX9_sum 59 = .ok (.istore_n 3, 1) := by decide +kernel
theorem dX9_sum_60 : decode cX9_sum 60 = .ok (.iinc 4 1, 3) := by decide +kernel
theorem dX9_sum_63 : decode cX9_sum 63 = .ok (.goto (-58), 3) := by decide +kernel
theorem dX9_sum_66 : decode cX9_sum 66 = .ok (.iload_n 3, 1) := by decide +kernel
theorem dX9_sum_67 : decode cX9_sum 67 = .ok (.ireturn, 1) := by decide +kernel
set_option maxRecDepth 20000 in
theorem ggX9_hoursOf_X9_guessed : GoodIn wsX9_hoursOf wsX9_guessed := goodIn_r _ [5, 6, 7, 8, 9, 4, 10, 11, 12, 13, 14, 15, 16, 17, 18, 19, 20, 21, 22, 23, 24, 25, 26, 27, 28, 29, 30, 31] (by decide +kernel) (by decide +kernel)
set_option maxRecDepth 20000 in
theorem gX9_hoursOf_X9_guessed : GoodIn wsX9_hoursOf (wsV RX9 142 RX9 yX9_guessed wsX9_guessed) := goodIn_app (goodIn_of _ (by decide +kernel)) ggX9_hoursOf_X9_guessed
theorem dX9_hoursOf_0 : decode cX9_hoursOf 0 = .ok (.iconst 0, 1) := by decide +kernel
theorem dX9_hoursOf_1 : decode cX9_hoursOf 1 = .ok (.istore_n 2, 1) := by decide +kernel
theorem dX9_hoursOf_2 : decode cX9_hoursOf 2 = .ok (.iconst 0, 1) := by decide +kernel
theorem dX9_hoursOf_3 : decode cX9_hoursOf 3 = .ok (.istore_n 3, 1) := by decide +kernel
theorem dX9_hoursOf_4 : decode cX9_hoursOf 4 = .ok (.iload_n 3, 1) := by decide +kernel
theorem dX9_hoursOf_5 : decode cX9_hoursOf 5 = .ok (.bipush 24, 2) := by decide +kernel
theorem dX9_hoursOf_7 : decode cX9_hoursOf 7 = .ok (.if_icmp .ge 26, 3) := by decide +kernel
theorem dX9_hoursOf_10 : decode cX9_hoursOf 10 = .ok (.iload_n 2, 1) := by decide +kernel
theorem dX9_hoursOf_11 : decode cX9_hoursOf 11 = .ok (.aload_n 0, 1) := by decide +kernel
theorem dX9_hoursOf_12 : decode cX9_hoursOf 12 = .ok (.iload_n 3, 1) := by decide +kernel
theorem dX9_hoursOf_13 : decode cX9_hoursOf 13 = .ok (.invokevirtual 142, 3) := by decide +kernel
theorem dX9_hoursOf_16 : decode cX9_hoursOf 16 = .ok (.iload_n 1, 1) := by decide +kernel
theorem dX9_hoursOf_17 : decode cX9_hoursOf 17 = .ok (.if_icmp .ne 7, 3) := by decide +kernel
theorem dX9_hoursOf_20 : decode cX9_hoursOf 20 = .ok (.iconst 1, 1) := by decide +kernel
theorem dX9_hoursOf_21 : decode cX9_hoursOf 21 = .ok (.goto 4, 3) := by decide +kernel
theorem dX9_hoursOf_24 : decode cX9_hoursOf 24 = .ok (.iconst 0, 1) := by decide +kernel
theorem dX9_hoursOf_25 : decode cX9_hoursOf 25 = .ok (.iadd, 1) := by decide +kernel
theorem dX9_hoursOf_26 : decode cX9_hoursOf 26 = .ok (.istore_n 2, 1) := by decide +kernel
theorem dX9_hoursOf_27 : decode cX9_hoursOf 27 = .ok (.iinc 3 1, 3) := by decide +kernel
theorem dX9_hoursOf_30 : decode cX9_hoursOf 30 = .ok (.goto (-26), 3) := by decide +kernel
theorem dX9_hoursOf_33 : decode cX9_hoursOf 33 = .ok (.iload_n 2, 1) := by decide +kernel
theorem dX9_hoursOf_34 : decode cX9_hoursOf 34 = .ok (.ireturn, 1) := by decide +kernel
set_option maxRecDepth 20000 in
theorem ggX9_parishOf_X9_isParish : GoodIn wsX9_parishOf wsX9_isParish := goodIn_r _ [4, 5, 6, 3, 7] (by decide +kernel) (by decide +kernel)
set_option maxRecDepth 20000 in
theorem gX9_parishOf_X9_isParish : GoodIn wsX9_parishOf (va_wsS RX9 56 yX9_isParish wsX9_isParish) := goodIn_app (goodIn_of _ (by decide +kernel)) ggX9_parishOf_X9_isParish
set_option maxRecDepth 20000 in
theorem ggX9_parishOf_X9_ropesOf : GoodIn wsX9_parishOf wsX9_ropesOf := goodIn_r _ [11, 12, 13, 14, 3, 15, 36, 37, 38, 39, 40, 41, 42, 43, 44, 45, 46, 47, 48, 49, 50, 51, 52, 53] (by decide +kernel) (by decide +kernel)
set_option maxRecDepth 20000 in
theorem gX9_parishOf_X9_ropesOf : GoodIn wsX9_parishOf (wsV RX9 139 RX9 yX9_ropesOf wsX9_ropesOf) := goodIn_app (goodIn_of _ (by decide +kernel)) ggX9_parishOf_X9_ropesOf
set_option maxRecDepth 20000 in
theorem ggX9_parishOf_X9_sum : GoodIn wsX9_parishOf wsX9_sum := goodIn_r _ [19, 12, 13, 14, 3, 15, 20, 21, 22, 23, 24, 25, 26, 27, 36, 37, 38, 39, 40, 41, 42, 43, 44, 45, 46, 47, 48, 49, 50, 51, 52, 53] (by decide +kernel) (by decide +kernel)
set_option maxRecDepth 20000 in
theorem gX9_parishOf_X9_sum : GoodIn wsX9_parishOf (wsV RX9 148 RX9 yX9_sum wsX9_sum) := goodIn_app (goodIn_of _ (by decide +kernel)) ggX9_parishOf_X9_sum
set_option maxRecDepth 20000 in
theorem ggX9_parishOf_X9_hoursOf : GoodIn wsX9_parishOf wsX9_hoursOf := goodIn_r _ [31, 32, 33, 34, 3, 35, 12, 8, 9, 10, 11, 13, 14, 15, 36, 37, 38, 39, 40, 41, 42, 43, 44, 45, 46, 47, 48, 49, 50, 51, 52, 53] (by decide +kernel) (by decide +kernel)
set_option maxRecDepth 20000 in
theorem gX9_parishOf_X9_hoursOf : GoodIn wsX9_parishOf (wsV RX9 151 RX9 yX9_hoursOf wsX9_hoursOf) := goodIn_app (goodIn_of _ (by decide +kernel)) ggX9_parishOf_X9_hoursOf
theorem dX9_parishOf_0 : decode cX9_parishOf 0 = .ok (.iload_n 1, 1) := by decide +kernel
theorem dX9_parishOf_1 : decode cX9_parishOf 1 = .ok (.invokestatic 56, 3) := by decide +kernel
theorem dX9_parishOf_4 : decode cX9_parishOf 4 = .ok (.ifCond .ne 7, 3) := by decide +kernel
theorem dX9_parishOf_7 : decode cX9_parishOf 7 = .ok (.sipush (-1011), 3) := by decide +kernel
theorem dX9_parishOf_10 : decode cX9_parishOf 10 = .ok (.ireturn, 1) := by decide +kernel
theorem dX9_parishOf_11 : decode cX9_parishOf 11 = .ok (.iload_n 2, 1) := by decide +kernel
theorem dX9_parishOf_12 : decode cX9_parishOf 12 = .ok (.tableswitch 71 0 4 #[36, 43, 50, 57, 63], 36) := by decide +kernel
theorem dX9_parishOf_48 : decode cX9_parishOf 48 = .ok (.aload_n 0, 1) := by decide +kernel
theorem dX9_parishOf_49 : decode cX9_parishOf 49 = .ok (.iload_n 1, 1) := by decide +kernel
theorem dX9_parishOf_50 : decode cX9_parishOf 50 = .ok (.iconst (-1), 1) := by decide +kernel
theorem dX9_parishOf_51 : decode cX9_parishOf 51 = .ok (.invokevirtual 139, 3) := by decide +kernel
theorem dX9_parishOf_54 : decode cX9_parishOf 54 = .ok (.ireturn, 1) := by decide +kernel
theorem dX9_parishOf_55 : decode cX9_parishOf 55 = .ok (.aload_n 0, 1) := by decide +kernel
theorem dX9_parishOf_56 : decode cX9_parishOf 56 = .ok (.iload_n 1, 1) := by decide +kernel
theorem dX9_parishOf_57 : decode cX9_parishOf 57 = .ok (.iconst 3, 1) := by decide +kernel
theorem dX9_parishOf_58 : decode cX9_parishOf 58 = .ok (.invokevirtual 148, 3) := by decide +kernel
theorem dX9_parishOf_61 : decode cX9_parishOf 61 = .ok (.ireturn, 1) := by decide +kernel
theorem dX9_parishOf_62 : decode cX9_parishOf 62 = .ok (.aload_n 0, 1) := by decide +kernel
theorem dX9_parishOf_63 : decode cX9_parishOf 63 = .ok (.iload_n 1, 1) := by decide +kernel
theorem dX9_parishOf_64 : decode cX9_parishOf 64 = .ok (.iconst 2, 1) := by decide +kernel
theorem dX9_parishOf_65 : decode cX9_parishOf 65 = .ok (.invokevirtual 148, 3) := by decide +kernel
theorem dX9_parishOf_68 : decode cX9_parishOf 68 = .ok (.ireturn, 1) := by decide +kernel
theorem dX9_parishOf_69 : decode cX9_parishOf 69 = .ok (.aload_n 0, 1) := by decide +kernel
theorem dX9_parishOf_70 : decode cX9_parishOf 70 = .ok (.iload_n 1, 1) := by decide +kernel
theorem dX9_parishOf_71 : decode cX9_parishOf 71 = .ok (.invokevirtual 151, 3) := by decide +kernel
theorem dX9_parishOf_74 : decode cX9_parishOf 74 = .ok (.ireturn, 1) := by decide +kernel
theorem dX9_parishOf_75 : decode cX9_parishOf 75 = .ok (.aload_n 0, 1) := by decide +kernel
theorem dX9_parishOf_76 : decode cX9_parishOf 76 = .ok (.iload_n 1, 1) := by decide +kernel
theorem dX9_parishOf_77 : decode cX9_parishOf 77 = .ok (.bipush 6, 2) := by decide +kernel
theorem dX9_parishOf_79 : decode cX9_parishOf 79 = .ok (.invokevirtual 148, 3) := by decide +kernel
theorem dX9_parishOf_82 : decode cX9_parishOf 82 = .ok (.ireturn, 1) := by decide +kernel
theorem dX9_parishOf_83 : decode cX9_parishOf 83 = .ok (.sipush (-1012), 3) := by decide +kernel
theorem dX9_parishOf_86 : decode cX9_parishOf 86 = .ok (.ireturn, 1) := by decide +kernel
theorem dX9_bits_0 : decode cX9_bits 0 = .ok (.iconst 0, 1) := by decide +kernel
theorem dX9_bits_1 : decode cX9_bits 1 = .ok (.istore_n 1, 1) := by decide +kernel
theorem dX9_bits_2 : decode cX9_bits 2 = .ok (.iload_n 0, 1) := by decide +kernel
theorem dX9_bits_3 : decode cX9_bits 3 = .ok (.istore_n 2, 1) := by decide +kernel
theorem dX9_bits_4 : decode cX9_bits 4 = .ok (.iload_n 2, 1) := by decide +kernel
theorem dX9_bits_5 : decode cX9_bits 5 = .ok (.ifCond .eq 15, 3) := by decide +kernel
theorem dX9_bits_8 : decode cX9_bits 8 = .ok (.iinc 1 1, 3) := by decide +kernel
theorem dX9_bits_11 : decode cX9_bits 11 = .ok (.iload_n 2, 1) := by decide +kernel
theorem dX9_bits_12 : decode cX9_bits 12 = .ok (.iload_n 2, 1) := by decide +kernel
theorem dX9_bits_13 : decode cX9_bits 13 = .ok (.iconst 1, 1) := by decide +kernel
theorem dX9_bits_14 : decode cX9_bits 14 = .ok (.isub, 1) := by decide +kernel
theorem dX9_bits_15 : decode cX9_bits 15 = .ok (.iand, 1) := by decide +kernel
theorem dX9_bits_16 : decode cX9_bits 16 = .ok (.istore_n 2, 1) := by decide +kernel
theorem dX9_bits_17 : decode cX9_bits 17 = .ok (.goto (-13), 3) := by decide +kernel
theorem dX9_bits_20 : decode cX9_bits 20 = .ok (.iload_n 1, 1) := by decide +kernel
theorem dX9_bits_21 : decode cX9_bits 21 = .ok (.ireturn, 1) := by decide +kernel
set_option maxRecDepth 20000 in
theorem ggX9_busiest_X9_bits : GoodIn wsX9_busiest wsX9_bits := goodIn_r _ [5] (by decide +kernel) (by decide +kernel)
set_option maxRecDepth 20000 in
theorem gX9_busiest_X9_bits : GoodIn wsX9_busiest (va_wsS RX9 154 yX9_bits wsX9_bits) := goodIn_app (goodIn_of _ (by decide +kernel)) ggX9_busiest_X9_bits
theorem dX9_busiest_0 : decode cX9_busiest 0 = .ok (.iconst 0, 1) := by decide +kernel
theorem dX9_busiest_1 : decode cX9_busiest 1 = .ok (.istore_n 1, 1) := by decide +kernel
theorem dX9_busiest_2 : decode cX9_busiest 2 = .ok (.iconst 1, 1) := by decide +kernel
theorem dX9_busiest_3 : decode cX9_busiest 3 = .ok (.istore_n 2, 1) := by decide +kernel
theorem dX9_busiest_4 : decode cX9_busiest 4 = .ok (.iload_n 2, 1) := by decide +kernel
theorem dX9_busiest_5 : decode cX9_busiest 5 = .ok (.bipush 24, 2) := by decide +kernel
theorem dX9_busiest_7 : decode cX9_busiest 7 = .ok (.if_icmp .ge 40, 3) := by decide +kernel
theorem dX9_busiest_10 : decode cX9_busiest 10 = .ok (.aload_n 0, 1) := by decide +kernel
theorem dX9_busiest_11 : decode cX9_busiest 11 = .ok (.getfield 7, 3) := by decide +kernel
theorem dX9_busiest_14 : decode cX9_busiest 14 = .ok (.sipush 211, 3) := by decide +kernel
theorem dX9_busiest_17 : decode cX9_busiest 17 = .ok (.iload_n 2, 1) := by decide +kernel
theorem dX9_busiest_18 : decode cX9_busiest 18 = .ok (.iadd, 1) := by decide +kernel
theorem dX9_busiest_19 : decode cX9_busiest 19 = .ok (.iaload, 1) := by decide +kernel
theorem dX9_busiest_20 : decode cX9_busiest 20 = .ok (.invokestatic 154, 3) := by decide +kernel
theorem dX9_busiest_23 : decode cX9_busiest 23 = .ok (.aload_n 0, 1) := by decide +kernel
theorem dX9_busiest_24 : decode cX9_busiest 24 = .ok (.getfield 7, 3) := by decide +kernel
theorem dX9_busiest_27 : decode cX9_busiest 27 = .ok (.sipush 211, 3) := by decide +kernel
theorem dX9_busiest_30 : decode cX9_busiest 30 = .ok (.iload_n 1, 1) := by decide +kernel
theorem dX9_busiest_31 : decode cX9_busiest 31 = .ok (.iadd, 1) := by decide +kernel
theorem dX9_busiest_32 : decode cX9_busiest 32 = .ok (.iaload, 1) := by decide +kernel
theorem dX9_busiest_33 : decode cX9_busiest 33 = .ok (.invokestatic 154, 3) := by decide +kernel
theorem dX9_busiest_36 : decode cX9_busiest 36 = .ok (.if_icmp .le 5, 3) := by decide +kernel
theorem dX9_busiest_39 : decode cX9_busiest 39 = .ok (.iload_n 2, 1) := by decide +kernel
theorem dX9_busiest_40 : decode cX9_busiest 40 = .ok (.istore_n 1, 1) := by decide +kernel
theorem dX9_busiest_41 : decode cX9_busiest 41 = .ok (.iinc 2 1, 3) := by decide +kernel
theorem dX9_busiest_44 : decode cX9_busiest 44 = .ok (.goto (-40), 3) := by decide +kernel
theorem dX9_busiest_47 : decode cX9_busiest 47 = .ok (.aload_n 0, 1) := by decide +kernel
theorem dX9_busiest_48 : decode cX9_busiest 48 = .ok (.getfield 7, 3) := by decide +kernel
theorem dX9_busiest_51 : decode cX9_busiest 51 = .ok (.sipush 211, 3) := by decide +kernel
theorem dX9_busiest_54 : decode cX9_busiest 54 = .ok (.iload_n 1, 1) := by decide +kernel
theorem dX9_busiest_55 : decode cX9_busiest 55 = .ok (.iadd, 1) := by decide +kernel
theorem dX9_busiest_56 : decode cX9_busiest 56 = .ok (.iaload, 1) := by decide +kernel
theorem dX9_busiest_57 : decode cX9_busiest 57 = .ok (.ifCond .ne 9, 3) := by decide +kernel
theorem dX9_busiest_60 : decode cX9_busiest 60 = .ok (.sipush (-1015), 3) := by decide +kernel
theorem dX9_busiest_63 : decode cX9_busiest 63 = .ok (.goto 4, 3) := by decide +kernel
theorem dX9_busiest_66 : decode cX9_busiest 66 = .ok (.iload_n 1, 1) := by decide +kernel
theorem dX9_busiest_67 : decode cX9_busiest 67 = .ok (.ireturn, 1) := by decide +kernel
set_option maxRecDepth 20000 in
theorem ggX9_rustiest_X9_at : GoodIn wsX9_rustiest wsX9_at := goodIn_r _ [5] (by decide +kernel) (by decide +kernel)
set_option maxRecDepth 20000 in
theorem gX9_rustiest_X9_at : GoodIn wsX9_rustiest (va_wsS RX9 64 yX9_at wsX9_at) := goodIn_app (goodIn_of _ (by decide +kernel)) ggX9_rustiest_X9_at
theorem dX9_rustiest_0 : decode cX9_rustiest 0 = .ok (.iconst 0, 1) := by decide +kernel
theorem dX9_rustiest_1 : decode cX9_rustiest 1 = .ok (.istore_n 2, 1) := by decide +kernel
theorem dX9_rustiest_2 : decode cX9_rustiest 2 = .ok (.iload_n 2, 1) := by decide +kernel
theorem dX9_rustiest_3 : decode cX9_rustiest 3 = .ok (.aload_n 0, 1) := by decide +kernel
theorem dX9_rustiest_4 : decode cX9_rustiest 4 = .ok (.getfield 7, 3) := by decide +kernel
theorem dX9_rustiest_7 : decode cX9_rustiest 7 = .ok (.iconst 0, 1) := by decide +kernel
theorem dX9_rustiest_8 : decode cX9_rustiest 8 = .ok (.iaload, 1) := by decide +kernel
theorem dX9_rustiest_9 : decode cX9_rustiest 9 = .ok (.if_icmp .ge 126, 3) := by decide +kernel
theorem dX9_rustiest_12 : decode cX9_rustiest 12 = .ok (.iconst 0, 1) := by decide +kernel
theorem dX9_rustiest_13 : decode cX9_rustiest 13 = .ok (.istore_n 3, 1) := by decide +kernel
theorem dX9_rustiest_14 : decode cX9_rustiest 14 = .ok (.iconst 0, 1) := by decide +kernel
theorem dX9_rustiest_15 : decode cX9_rustiest 15 = .ok (.istore 4, 2) := by decide +kernel
theorem dX9_rustiest_17 : decode cX9_rustiest 17 = .ok (.iload 4, 2) := by decide +kernel
theorem dX9_rustiest_19 : decode cX9_rustiest 19 = .ok (.aload_n 0, 1) := by decide +kernel
theorem dX9_rustiest_20 : decode cX9_rustiest 20 = .ok (.getfield 7, 3) := by decide +kernel
theorem dX9_rustiest_23 : decode cX9_rustiest 23 = .ok (.iconst 0, 1) := by decide +kernel
theorem dX9_rustiest_24 : decode cX9_rustiest 24 = .ok (.iaload, 1) := by decide +kernel
theorem dX9_rustiest_25 : decode cX9_rustiest 25 = .ok (.if_icmp .ge 97, 3) := by decide +kernel
theorem dX9_rustiest_28 : decode cX9_rustiest 28 = .ok (.aload_n 0, 1) := by decide +kernel
theorem dX9_rustiest_29 : decode cX9_rustiest 29 = .ok (.getfield 7, 3) := by decide +kernel
theorem dX9_rustiest_32 : decode cX9_rustiest 32 = .ok (.iload 4, 2) := by decide +kernel
theorem dX9_rustiest_34 : decode cX9_rustiest 34 = .ok (.iconst 2, 1) := by decide +kernel
theorem dX9_rustiest_35 : decode cX9_rustiest 35 = .ok (.invokestatic 64, 3) := by decide +kernel
theorem dX9_rustiest_38 : decode cX9_rustiest 38 = .ok (.iaload, 1) := by decide +kernel
theorem dX9_rustiest_39 : decode cX9_rustiest 39 = .ok (.aload_n 0, 1) := by decide +kernel
theorem dX9_rustiest_40 : decode cX9_rustiest 40 = .ok (.getfield 7, 3) := by decide +kernel
theorem dX9_rustiest_43 : decode cX9_rustiest 43 = .ok (.iload_n 2, 1) := by decide +kernel
theorem dX9_rustiest_44 : decode cX9_rustiest 44 = .ok (.iconst 2, 1) := by decide +kernel
theorem dX9_rustiest_45 : decode cX9_rustiest 45 = .ok (.invokestatic 64, 3) := by decide +kernel
theorem dX9_rustiest_48 : decode cX9_rustiest 48 = .ok (.iaload, 1) := by decide +kernel
theorem dX9_rustiest_49 : decode cX9_rustiest 49 = .ok (.isub, 1) := by decide +kernel
theorem dX9_rustiest_50 : decode cX9_rustiest 50 = .ok (.istore 5, 2) := by decide +kernel
theorem dX9_rustiest_52 : decode cX9_rustiest 52 = .ok (.iload 5, 2) := by decide +kernel
theorem dX9_rustiest_54 : decode cX9_rustiest 54 = .ok (.ifCond .eq 8, 3) := by decide +kernel
theorem dX9_rustiest_57 : decode cX9_rustiest 57 = .ok (.iload 5, 2) := by decide +kernel
theorem dX9_rustiest_59 : decode cX9_rustiest 59 = .ok (.goto 25, 3) := by decide +kernel
theorem dX9_rustiest_62 : decode cX9_rustiest 62 = .ok (.aload_n 0, 1) := by decide +kernel
theorem dX9_rustiest_63 : decode cX9_rustiest 63 = .ok (.getfield 7, 3) := by decide +kernel
theorem dX9_rustiest_66 : decode cX9_rustiest 66 = .ok (.iload_n 2, 1) := by decide +kernel
theorem dX9_rustiest_67 : decode cX9_rustiest 67 = .ok (.iconst 3, 1) := by decide +kernel
theorem dX9_rustiest_68 : decode cX9_rustiest 68 = .ok (.invokestatic 64, 3) := by decide +kernel
theorem dX9_rustiest_71 : decode cX9_rustiest 71 = .ok (.iaload, 1) := by decide +kernel
theorem dX9_rustiest_72 : decode cX9_rustiest 72 = .ok (.aload_n 0, 1) := by decide +kernel
theorem dX9_rustiest_73 : decode cX9_rustiest 73 = .ok (.getfield 7, 3) := by decide +kernel
theorem dX9_rustiest_76 : decode cX9_rustiest 76 = .ok (.iload 4, 2) := by decide +kernel
theorem dX9_rustiest_78 : decode cX9_rustiest 78 = .ok (.iconst 3, 1) := by decide +kernel
theorem dX9_rustiest_79 : decode cX9_rustiest 79 = .ok (.invokestatic 64, 3) := by decide +kernel
theorem dX9_rustiest_82 : decode cX9_rustiest 82 = .ok (.iaload, 1) := by decide +kernel
theorem dX9_rustiest_83 : decode cX9_rustiest 83 = .ok (.isub, 1) := by decide +kernel
theorem dX9_rustiest_84 : decode cX9_rustiest 84 = .ok (.istore 5, 2) := by decide +kernel
theorem dX9_rustiest_86 : decode cX9_rustiest 86 = .ok (.iload_n 3, 1) := by decide +kernel
theorem dX9_rustiest_87 : decode cX9_rustiest 87 = .ok (.iload 4, 2) := by decide +kernel
theorem dX9_rustiest_89 : decode cX9_rustiest 89 = .ok (.iload_n 2, 1) := by decide +kernel
theorem dX9_rustiest_90 : decode cX9_rustiest 90 = .ok (.if_icmp .eq 23, 3) := by decide +kernel
theorem dX9_rustiest_93 : decode cX9_rustiest 93 = .ok (.iload 5, 2) := by decide +kernel
theorem dX9_rustiest_95 : decode cX9_rustiest 95 = .ok (.ifCond .gt 14, 3) := by decide +kernel
theorem dX9_rustiest_98 : decode cX9_rustiest 98 = .ok (.iload 5, 2) := by decide +kernel
theorem dX9_rustiest_100 : decode cX9_rustiest 100 = .ok (.ifCond .ne 13, 3) := by decide +kernel
theorem dX9_rustiest_103 : decode cX9_rustiest 103 = .ok (.iload 4, 2) := by decide +kernel
theorem dX9_rustiest_105 : decode cX9_rustiest 105 = .ok (.iload_n 2, 1) := by decide +kernel
theorem dX9_rustiest_106 : decode cX9_rustiest 106 = .ok (.if_icmp .ge 7, 3) := by decide +kernel
theorem dX9_rustiest_109 : decode cX9_rustiest 109 = .ok (.iconst 1, 1) := by decide +kernel
theorem dX9_rustiest_110 : decode cX9_rustiest 110 = .ok (.goto 4, 3) := by decide +kernel
theorem dX9_rustiest_113 : decode cX9_rustiest 113 = .ok (.iconst 0, 1) := by decide +kernel
theorem dX9_rustiest_114 : decode cX9_rustiest 114 = .ok (.iadd, 1) := by decide +kernel
theorem dX9_rustiest_115 : decode cX9_rustiest 115 = .ok (.istore_n 3, 1) := by decide +kernel
theorem dX9_rustiest_116 : decode cX9_rustiest 116 = .ok (.iinc 4 1, 3) := by decide +kernel
theorem dX9_rustiest_119 : decode cX9_rustiest 119 = .ok (.goto (-102), 3) := by decide +kernel
theorem dX9_rustiest_122 : decode cX9_rustiest 122 = .ok (.iload_n 3, 1) := by decide +kernel
theorem dX9_rustiest_123 : decode cX9_rustiest 123 = .ok (.iload_n 1, 1) := by decide +kernel
theorem dX9_rustiest_124 : decode cX9_rustiest 124 = .ok (.if_icmp .ne 5, 3) := by decide +kernel
theorem dX9_rustiest_127 : decode cX9_rustiest 127 = .ok (.iload_n 2, 1) := by decide +kernel
theorem dX9_rustiest_128 : decode cX9_rustiest 128 = .ok (.ireturn, 1) := by decide +kernel
theorem dX9_rustiest_129 : decode cX9_rustiest 129 = .ok (.iinc 2 1, 3) := by decide +kernel
theorem dX9_rustiest_132 : decode cX9_rustiest 132 = .ok (.goto (-130), 3) := by decide +kernel
theorem dX9_rustiest_135 : decode cX9_rustiest 135 = .ok (.sipush (-1011), 3) := by decide +kernel
theorem dX9_rustiest_138 : decode cX9_rustiest 138 = .ok (.ireturn, 1) := by decide +kernel
set_option maxRecDepth 20000 in
theorem ggX9_ranked_X9_sum : GoodIn wsX9_ranked wsX9_sum := goodIn_r _ [5, 6, 7, 8, 4, 9, 10, 11, 12, 13, 14, 15, 16, 17, 22, 23, 24, 25, 26, 27, 28, 29, 30, 31, 32, 33, 34, 35, 36, 37, 38, 39] (by decide +kernel) (by decide +kernel)
set_option maxRecDepth 20000 in
theorem gX9_ranked_X9_sum : GoodIn wsX9_ranked (wsV RX9 148 RX9 yX9_sum wsX9_sum) := goodIn_app (goodIn_of _ (by decide +kernel)) ggX9_ranked_X9_sum
set_option maxRecDepth 20000 in
theorem ggX9_ranked_X9_ropesOf : GoodIn wsX9_ranked wsX9_ropesOf := goodIn_r _ [21, 6, 7, 8, 4, 9, 22, 23, 24, 25, 26, 27, 28, 29, 30, 31, 32, 33, 34, 35, 36, 37, 38, 39] (by decide +kernel) (by decide +kernel)
