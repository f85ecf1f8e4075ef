theorem dX8_answerOf_82 : decode cX8_answerOf 82 = .ok (.getfield 175, 3) := by decide +kernel
theorem dX8_answerOf_85 : decode cX8_answerOf 85 = .ok (.iload_n 3, 1) := by decide +kernel
theorem dX8_answerOf_86 : decode cX8_answerOf 86 = .ok (.invokestatic 89, 3) := by decide +kernel
theorem dX8_answerOf_89 : decode cX8_answerOf 89 = .ok (.ireturn, 1) := by decide +kernel
theorem dX8_answerOf_90 : decode cX8_answerOf 90 = .ok (.aload_n 0, 1) := by decide +kernel
theorem dX8_answerOf_91 : decode cX8_answerOf 91 = .ok (.getfield 12, 3) := by decide +kernel
theorem dX8_answerOf_94 : decode cX8_answerOf 94 = .ok (.getfield 164, 3) := by decide +kernel
theorem dX8_answerOf_97 : decode cX8_answerOf 97 = .ok (.getfield 176, 3) := by decide +kernel
theorem dX8_answerOf_100 : decode cX8_answerOf 100 = .ok (.iload_n 3, 1) := by decide +kernel
theorem dX8_answerOf_101 : decode cX8_answerOf 101 = .ok (.invokestatic 89, 3) := by decide +kernel
theorem dX8_answerOf_104 : decode cX8_answerOf 104 = .ok (.ireturn, 1) := by decide +kernel
theorem dX8_answerOf_105 : decode cX8_answerOf 105 = .ok (.aload_n 0, 1) := by decide +kernel
theorem dX8_answerOf_106 : decode cX8_answerOf 106 = .ok (.getfield 12, 3) := by decide +kernel
theorem dX8_answerOf_109 : decode cX8_answerOf 109 = .ok (.getfield 164, 3) := by decide +kernel
theorem dX8_answerOf_112 : decode cX8_answerOf 112 = .ok (.getfield 179, 3) := by decide +kernel
theorem dX8_answerOf_115 : decode cX8_answerOf 115 = .ok (.iload_n 3, 1) := by decide +kernel
theorem dX8_answerOf_116 : decode cX8_answerOf 116 = .ok (.invokestatic 89, 3) := by decide +kernel
theorem dX8_answerOf_119 : decode cX8_answerOf 119 = .ok (.ireturn, 1) := by decide +kernel
theorem dX8_answerOf_120 : decode cX8_answerOf 120 = .ok (.sipush (-1012), 3) := by decide +kernel
theorem dX8_answerOf_123 : decode cX8_answerOf 123 = .ok (.ireturn, 1) := by decide +kernel
set_option maxRecDepth 20000 in
theorem ggX8_answered_X8_isHour : GoodIn wsX8_answered wsX8_isHour := goodIn_r _ [6] (by decide +kernel) (by decide +kernel)
set_option maxRecDepth 20000 in
theorem gX8_answered_X8_isHour : GoodIn wsX8_answered (va_wsS RX8 180 yX8_isHour wsX8_isHour) := goodIn_app (goodIn_of _ (by decide +kernel)) ggX8_answered_X8_isHour
set_option maxRecDepth 20000 in
theorem ggX8_answered_X8_at : GoodIn wsX8_answered wsX8_at := goodIn_r _ [9] (by decide +kernel) (by decide +kernel)
set_option maxRecDepth 20000 in
theorem gX8_answered_X8_at : GoodIn wsX8_answered (va_wsS RX8 89 yX8_at wsX8_at) := goodIn_app (goodIn_of _ (by decide +kernel)) ggX8_answered_X8_at
theorem dX8_answered_0 : decode cX8_answered 0 = .ok (.iload_n 1, 1) := by decide +kernel
theorem dX8_answered_1 : decode cX8_answered 1 = .ok (.invokestatic 180, 3) := by decide +kernel
theorem dX8_answered_4 : decode cX8_answered 4 = .ok (.ifCond .eq 17, 3) := by decide +kernel
theorem dX8_answered_7 : decode cX8_answered 7 = .ok (.aload_n 0, 1) := by decide +kernel
theorem dX8_answered_8 : decode cX8_answered 8 = .ok (.getfield 12, 3) := by decide +kernel
theorem dX8_answered_11 : decode cX8_answered 11 = .ok (.getfield 183, 3) := by decide +kernel
theorem dX8_answered_14 : decode cX8_answered 14 = .ok (.iload_n 1, 1) := by decide +kernel
theorem dX8_answered_15 : decode cX8_answered 15 = .ok (.invokestatic 89, 3) := by decide +kernel
theorem dX8_answered_18 : decode cX8_answered 18 = .ok (.goto 6, 3) := by decide +kernel
theorem dX8_answered_21 : decode cX8_answered 21 = .ok (.sipush (-1012), 3) := by decide +kernel
theorem dX8_answered_24 : decode cX8_answered 24 = .ok (.ireturn, 1) := by decide +kernel
set_option maxRecDepth 20000 in
theorem ggX8_guess_X8_isHour : GoodIn wsX8_guess wsX8_isHour := goodIn_r _ [7] (by decide +kernel) (by decide +kernel)
set_option maxRecDepth 20000 in
theorem gX8_guess_X8_isHour : GoodIn wsX8_guess (va_wsS RX8 180 yX8_isHour wsX8_isHour) := goodIn_app (goodIn_of _ (by decide +kernel)) ggX8_guess_X8_isHour
set_option maxRecDepth 20000 in
theorem ggX8_guess_X8_at : GoodIn wsX8_guess wsX8_at := goodIn_r _ [10] (by decide +kernel) (by decide +kernel)
set_option maxRecDepth 20000 in
theorem gX8_guess_X8_at : GoodIn wsX8_guess (va_wsS RX8 89 yX8_at wsX8_at) := goodIn_app (goodIn_of _ (by decide +kernel)) ggX8_guess_X8_at
set_option maxRecDepth 20000 in
theorem ggX8_guess_X5_guessByParishes : GoodIn wsX8_guess wsX5_guessByParishes := goodIn_r _ [15, 16, 17, 18, 14, 19, 20, 21, 9, 6, 10, 22, 23, 24, 25, 26, 27, 28, 29, 30, 52, 53, 54, 55, 56, 57, 58] (by decide +kernel) (by decide +kernel)
set_option maxRecDepth 20000 in
theorem gX8_guess_X5_guessByParishes : GoodIn wsX8_guess (wsV RX8 186 RX5 yX5_guessByParishes wsX5_guessByParishes) := goodIn_app (goodIn_of _ (by decide +kernel)) ggX8_guess_X5_guessByParishes
theorem dX8_guess_0 : decode cX8_guess 0 = .ok (.iload_n 1, 1) := by decide +kernel
theorem dX8_guess_1 : decode cX8_guess 1 = .ok (.invokestatic 180, 3) := by decide +kernel
theorem dX8_guess_4 : decode cX8_guess 4 = .ok (.ifCond .eq 27, 3) := by decide +kernel
theorem dX8_guess_7 : decode cX8_guess 7 = .ok (.aload_n 0, 1) := by decide +kernel
theorem dX8_guess_8 : decode cX8_guess 8 = .ok (.getfield 12, 3) := by decide +kernel
theorem dX8_guess_11 : decode cX8_guess 11 = .ok (.getfield 75, 3) := by decide +kernel
theorem dX8_guess_14 : decode cX8_guess 14 = .ok (.aload_n 0, 1) := by decide +kernel
theorem dX8_guess_15 : decode cX8_guess 15 = .ok (.getfield 12, 3) := by decide +kernel
theorem dX8_guess_18 : decode cX8_guess 18 = .ok (.getfield 183, 3) := by decide +kernel
theorem dX8_guess_21 : decode cX8_guess 21 = .ok (.iload_n 1, 1) := by decide +kernel
theorem dX8_guess_22 : decode cX8_guess 22 = .ok (.invokestatic 89, 3) := by decide +kernel
theorem dX8_guess_25 : decode cX8_guess 25 = .ok (.invokevirtual 186, 3) := by decide +kernel
theorem dX8_guess_28 : decode cX8_guess 28 = .ok (.goto 6, 3) := by decide +kernel
theorem dX8_guess_31 : decode cX8_guess 31 = .ok (.sipush (-1012), 3) := by decide +kernel
theorem dX8_guess_34 : decode cX8_guess 34 = .ok (.ireturn, 1) := by decide +kernel
set_option maxRecDepth 20000 in
theorem ggX8_guessAgain_X8_isHour : GoodIn wsX8_guessAgain wsX8_isHour := goodIn_r _ [7] (by decide +kernel) (by decide +kernel)
set_option maxRecDepth 20000 in
theorem gX8_guessAgain_X8_isHour : GoodIn wsX8_guessAgain (va_wsS RX8 180 yX8_isHour wsX8_isHour) := goodIn_app (goodIn_of _ (by decide +kernel)) ggX8_guessAgain_X8_isHour
set_option maxRecDepth 20000 in
theorem ggX8_guessAgain_X8_at : GoodIn wsX8_guessAgain wsX8_at := goodIn_r _ [10] (by decide +kernel) (by decide +kernel)
set_option maxRecDepth 20000 in
theorem gX8_guessAgain_X8_at : GoodIn wsX8_guessAgain (va_wsS RX8 89 yX8_at wsX8_at) := goodIn_app (goodIn_of _ (by decide +kernel)) ggX8_guessAgain_X8_at
set_option maxRecDepth 20000 in
theorem ggX8_guessAgain_X5_guessByRopes : GoodIn wsX8_guessAgain wsX5_guessByRopes := goodIn_r _ [15, 16, 17, 18, 6, 19, 20, 21, 22, 14, 23, 9, 10, 24, 25, 26, 27, 28, 29, 30, 31, 32, 33, 55, 56, 57, 58, 59, 60, 61] (by decide +kernel) (by decide +kernel)
set_option maxRecDepth 20000 in
theorem gX8_guessAgain_X5_guessByRopes : GoodIn wsX8_guessAgain (wsV RX8 189 RX5 yX5_guessByRopes wsX5_guessByRopes) := goodIn_app (goodIn_of _ (by decide +kernel)) ggX8_guessAgain_X5_guessByRopes
theorem dX8_guessAgain_0 : decode cX8_guessAgain 0 = .ok (.iload_n 1, 1) := by decide +kernel
theorem dX8_guessAgain_1 : decode cX8_guessAgain 1 = .ok (.invokestatic 180, 3) := by decide +kernel
theorem dX8_guessAgain_4 : decode cX8_guessAgain 4 = .ok (.ifCond .eq 27, 3) := by decide +kernel
theorem dX8_guessAgain_7 : decode cX8_guessAgain 7 = .ok (.aload_n 0, 1) := by decide +kernel
theorem dX8_guessAgain_8 : decode cX8_guessAgain 8 = .ok (.getfield 12, 3) := by decide +kernel
theorem dX8_guessAgain_11 : decode cX8_guessAgain 11 = .ok (.getfield 75, 3) := by decide +kernel
theorem dX8_guessAgain_14 : decode cX8_guessAgain 14 = .ok (.aload_n 0, 1) := by decide +kernel
theorem dX8_guessAgain_15 : decode cX8_guessAgain 15 = .ok (.getfield 12, 3) := by decide +kernel
theorem dX8_guessAgain_18 : decode cX8_guessAgain 18 = .ok (.getfield 183, 3) := by decide +kernel
theorem dX8_guessAgain_21 : decode cX8_guessAgain 21 = .ok (.iload_n 1, 1) := by decide +kernel
theorem dX8_guessAgain_22 : decode cX8_guessAgain 22 = .ok (.invokestatic 89, 3) := by decide +kernel
theorem dX8_guessAgain_25 : decode cX8_guessAgain 25 = .ok (.invokevirtual 189, 3) := by decide +kernel
theorem dX8_guessAgain_28 : decode cX8_guessAgain 28 = .ok (.goto 6, 3) := by decide +kernel
theorem dX8_guessAgain_31 : decode cX8_guessAgain 31 = .ok (.sipush (-1012), 3) := by decide +kernel
theorem dX8_guessAgain_34 : decode cX8_guessAgain 34 = .ok (.ireturn, 1) := by decide +kernel
set_option maxRecDepth 20000 in
theorem ggX8_parishOf_X8_isParish : GoodIn wsX8_parishOf wsX8_isParish := goodIn_r _ [9] (by decide +kernel) (by decide +kernel)
set_option maxRecDepth 20000 in
theorem gX8_parishOf_X8_isParish : GoodIn wsX8_parishOf (va_wsS RX8 192 yX8_isParish wsX8_isParish) := goodIn_app (goodIn_of _ (by decide +kernel)) ggX8_parishOf_X8_isParish
set_option maxRecDepth 20000 in
theorem ggX8_parishOf_X5_setOf : GoodIn wsX8_parishOf wsX5_setOf := goodIn_r _ [14, 15, 16, 17, 8, 18, 19, 20, 81, 82, 83, 84, 85, 86, 87] (by decide +kernel) (by decide +kernel)
set_option maxRecDepth 20000 in
theorem gX8_parishOf_X5_setOf : GoodIn wsX8_parishOf (wsV RX8 195 RX5 yX5_setOf wsX5_setOf) := goodIn_app (goodIn_of _ (by decide +kernel)) ggX8_parishOf_X5_setOf
set_option maxRecDepth 20000 in
theorem ggX8_parishOf_J6_bitCount_0f7a4 : GoodIn wsX8_parishOf wsJ6_bitCount_0f7a4 := goodIn_r _ [24, 25, 26, 27] (by decide +kernel) (by decide +kernel)
set_option maxRecDepth 20000 in
theorem gX8_parishOf_J6_bitCount_0f7a4 : GoodIn wsX8_parishOf (va_wsS RX8 198 yJ6_bitCount_0f7a4 wsJ6_bitCount_0f7a4) := goodIn_app (goodIn_of _ (by decide +kernel)) ggX8_parishOf_J6_bitCount_0f7a4
set_option maxRecDepth 20000 in
theorem ggX8_parishOf_X5_sumOf : GoodIn wsX8_parishOf wsX5_sumOf := goodIn_r _ [31, 15, 16, 17, 8, 18, 81, 82, 83, 84, 85, 86, 87] (by decide +kernel) (by decide +kernel)
set_option maxRecDepth 20000 in
theorem gX8_parishOf_X5_sumOf : GoodIn wsX8_parishOf (wsV RX8 203 RX5 yX5_sumOf wsX5_sumOf) := goodIn_app (goodIn_of _ (by decide +kernel)) ggX8_parishOf_X5_sumOf
set_option maxRecDepth 20000 in
theorem ggX8_parishOf_X8_hoursGuessed : GoodIn wsX8_parishOf wsX8_hoursGuessed := goodIn_r _ [35, 36, 37, 38, 8, 39, 1, 2, 40, 41, 42, 43, 44, 17, 18, 45, 46, 47, 13, 48, 49, 11, 12, 14, 15, 16, 19, 20, 50, 22, 23, 24, 25, 26, 27, 60, 61, 62, 63, 64, 65, 66, 67, 68, 69, 70, 71, 72, 73, 74, 75, 76, 77, 78, 79, 80, 81, 82, 83, 84, 85, 86, 87] (by decide +kernel) (by decide +kernel)
set_option maxRecDepth 20000 in
theorem gX8_parishOf_X8_hoursGuessed : GoodIn wsX8_parishOf (wsV RX8 206 RX8 yX8_hoursGuessed wsX8_hoursGuessed) := goodIn_app (goodIn_of _ (by decide +kernel)) ggX8_parishOf_X8_hoursGuessed
set_option maxRecDepth 20000 in
theorem ggX8_parishOf_X4_numberIn : GoodIn wsX8_parishOf wsX4_numberIn := goodIn_r _ [55, 56, 57, 17, 8, 18, 58, 59, 88, 89, 90, 91] (by decide +kernel) (by decide +kernel)
set_option maxRecDepth 20000 in
theorem gX8_parishOf_X4_numberIn : GoodIn wsX8_parishOf (wsV RX8 209 RX4 yX4_numberIn wsX4_numberIn) := goodIn_app (goodIn_of _ (by decide +kernel)) ggX8_parishOf_X4_numberIn
theorem dX8_parishOf_0 : decode cX8_parishOf 0 = .ok (.iload_n 1, 1) := by decide +kernel
theorem dX8_parishOf_1 : decode cX8_parishOf 1 = .ok (.invokestatic 192, 3) := by decide +kernel
theorem dX8_parishOf_4 : decode cX8_parishOf 4 = .ok (.ifCond .ne 7, 3) := by decide +kernel
theorem dX8_parishOf_7 : decode cX8_parishOf 7 = .ok (.sipush (-1011), 3) := by decide +kernel
theorem dX8_parishOf_10 : decode cX8_parishOf 10 = .ok (.ireturn, 1) := by decide +kernel
theorem dX8_parishOf_11 : decode cX8_parishOf 11 = .ok (.iload_n 2, 1) := by decide +kernel
theorem dX8_parishOf_12 : decode cX8_parishOf 12 = .ok (.tableswitch 123 0 4 #[36, 51, 73, 95, 101], 36) := by decide +kernel
theorem dX8_parishOf_48 : decode cX8_parishOf 48 = .ok (.aload_n 0, 1) := by decide +kernel
theorem dX8_parishOf_49 : decode cX8_parishOf 49 = .ok (.getfield 12, 3) := by decide +kernel
theorem dX8_parishOf_52 : decode cX8_parishOf 52 = .ok (.getfield 75, 3) := by decide +kernel
theorem dX8_parishOf_55 : decode cX8_parishOf 55 = .ok (.iload_n 1, 1) := by decide +kernel
theorem dX8_parishOf_56 : decode cX8_parishOf 56 = .ok (.invokevirtual 195, 3) := by decide +kernel
theorem dX8_parishOf_59 : decode cX8_parishOf 59 = .ok (.invokestatic 198, 3) := by decide +kernel
theorem dX8_parishOf_62 : decode cX8_parishOf 62 = .ok (.ireturn, 1) := by decide +kernel
theorem dX8_parishOf_63 : decode cX8_parishOf 63 = .ok (.aload_n 0, 1) := by decide +kernel
theorem dX8_parishOf_64 : decode cX8_parishOf 64 = .ok (.getfield 12, 3) := by decide +kernel
theorem dX8_parishOf_67 : decode cX8_parishOf 67 = .ok (.getfield 75, 3) := by decide +kernel
theorem dX8_parishOf_70 : decode cX8_parishOf 70 = .ok (.aload_n 0, 1) := by decide +kernel
theorem dX8_parishOf_71 : decode cX8_parishOf 71 = .ok (.getfield 12, 3) := by decide +kernel
theorem dX8_parishOf_74 : decode cX8_parishOf 74 = .ok (.getfield 75, 3) := by decide +kernel
theorem dX8_parishOf_77 : decode cX8_parishOf 77 = .ok (.getfield 99, 3) := by decide +kernel
theorem dX8_parishOf_80 : decode cX8_parishOf 80 = .ok (.iload_n 1, 1) := by decide +kernel
theorem dX8_parishOf_81 : decode cX8_parishOf 81 = .ok (.invokevirtual 203, 3) := by decide +kernel
theorem dX8_parishOf_84 : decode cX8_parishOf 84 = .ok (.ireturn, 1) := by decide +kernel
theorem dX8_parishOf_85 : decode cX8_parishOf 85 = .ok (.aload_n 0, 1) := by decide +kernel
theorem dX8_parishOf_86 : decode cX8_parishOf 86 = .ok (.getfield 12, 3) := by decide +kernel
theorem dX8_parishOf_89 : decode cX8_parishOf 89 = .ok (.getfield 75, 3) := by decide +kernel
theorem dX8_parishOf_92 : decode cX8_parishOf 92 = .ok (.aload_n 0, 1) := by decide +kernel
theorem dX8_parishOf_93 : decode cX8_parishOf 93 = .ok (.getfield 12, 3) := by decide +kernel
theorem dX8_parishOf_96 : decode cX8_parishOf 96 = .ok (.getfield 75, 3) := by decide +kernel
theorem dX8_parishOf_99 : decode cX8_parishOf 99 = .ok (.getfield 96, 3) := by decide +kernel
theorem dX8_parishOf_102 : decode cX8_parishOf 102 = .ok (.iload_n 1, 1) := by decide +kernel
theorem dX8_parishOf_103 : decode cX8_parishOf 103 = .ok (.invokevirtual 203, 3) := by decide +kernel
theorem dX8_parishOf_106 : decode cX8_parishOf 106 = .ok (.ireturn, 1) := by decide +kernel
theorem dX8_parishOf_107 : decode cX8_parishOf 107 = .ok (.aload_n 0, 1) := by decide +kernel
theorem dX8_parishOf_108 : decode cX8_parishOf 108 = .ok (.iload_n 1, 1) := by decide +kernel
theorem dX8_parishOf_109 : decode cX8_parishOf 109 = .ok (.invokevirtual 206, 3) := by decide +kernel
theorem dX8_parishOf_112 : decode cX8_parishOf 112 = .ok (.ireturn, 1) := by decide +kernel
theorem dX8_parishOf_113 : decode cX8_parishOf 113 = .ok (.aload_n 0, 1) := by decide +kernel
theorem dX8_parishOf_114 : decode cX8_parishOf 114 = .ok (.getfield 12, 3) := by decide +kernel
theorem dX8_parishOf_117 : decode cX8_parishOf 117 = .ok (.getfield 108, 3) := by decide +kernel
theorem dX8_parishOf_120 : decode cX8_parishOf 120 = .ok (.aload_n 0, 1) := by decide +kernel
theorem dX8_parishOf_121 : decode cX8_parishOf 121 = .ok (.getfield 12, 3) := by decide +kernel
theorem dX8_parishOf_124 : decode cX8_parishOf 124 = .ok (.getfield 75, 3) := by decide +kernel
theorem dX8_parishOf_127 : decode cX8_parishOf 127 = .ok (.iload_n 1, 1) := by decide +kernel
theorem dX8_parishOf_128 : decode cX8_parishOf 128 = .ok (.invokevirtual 195, 3) := by decide +kernel
theorem dX8_parishOf_131 : decode cX8_parishOf 131 = .ok (.invokevirtual 209, 3) := by decide +kernel
theorem dX8_parishOf_134 : decode cX8_parishOf 134 = .ok (.ireturn, 1) := by decide +kernel
theorem dX8_parishOf_135 : decode cX8_parishOf 135 = .ok (.sipush (-1012), 3) := by decide +kernel
theorem dX8_parishOf_138 : decode cX8_parishOf 138 = .ok (.ireturn, 1) := by decide +kernel
set_option maxRecDepth 20000 in
theorem ggX8_busiest_X8_at : GoodIn wsX8_busiest wsX8_at := goodIn_r _ [6] (by decide +kernel) (by decide +kernel)
set_option maxRecDepth 20000 in
theorem gX8_busiest_X8_at : GoodIn wsX8_busiest (va_wsS RX8 89 yX8_at wsX8_at) := goodIn_app (goodIn_of _ (by decide +kernel)) ggX8_busiest_X8_at
set_option maxRecDepth 20000 in
theorem ggX8_busiest_J6_bitCount_0f7a4 : GoodIn wsX8_busiest wsJ6_bitCount_0f7a4 := goodIn_r _ [10, 11, 12, 13] (by decide +kernel) (by decide +kernel)
set_option maxRecDepth 20000 in
theorem gX8_busiest_J6_bitCount_0f7a4 : GoodIn wsX8_busiest (va_wsS RX8 198 yJ6_bitCount_0f7a4 wsJ6_bitCount_0f7a4) := goodIn_app (goodIn_of _ (by decide +kernel)) ggX8_busiest_J6_bitCount_0f7a4
theorem dX8_busiest_0 : decode cX8_busiest 0 = .ok (.sipush (-1015), 3) := by decide +kernel
theorem dX8_busiest_3 : decode cX8_busiest 3 = .ok (.istore_n 1, 1) := by decide +kernel
theorem dX8_busiest_4 : decode cX8_busiest 4 = .ok (.iconst 0, 1) := by decide +kernel
theorem dX8_busiest_5 : decode cX8_busiest 5 = .ok (.istore_n 2, 1) := by decide +kernel
theorem dX8_busiest_6 : decode cX8_busiest 6 = .ok (.iconst 0, 1) := by decide +kernel
theorem dX8_busiest_7 : decode cX8_busiest 7 = .ok (.istore_n 3, 1) := by decide +kernel
theorem dX8_busiest_8 : decode cX8_busiest 8 = .ok (.iload_n 3, 1) := by decide +kernel
theorem dX8_busiest_9 : decode cX8_busiest 9 = .ok (.bipush 24, 2) := by decide +kernel
theorem dX8_busiest_11 : decode cX8_busiest 11 = .ok (.if_icmp .ge 36, 3) := by decide +kernel
theorem dX8_busiest_14 : decode cX8_busiest 14 = .ok (.aload_n 0, 1) := by decide +kernel
theorem dX8_busiest_15 : decode cX8_busiest 15 = .ok (.getfield 12, 3) := by decide +kernel
theorem dX8_busiest_18 : decode cX8_busiest 18 = .ok (.getfield 183, 3) := by decide +kernel
theorem dX8_busiest_21 : decode cX8_busiest 21 = .ok (.iload_n 3, 1) := by decide +kernel
theorem dX8_busiest_22 : decode cX8_busiest 22 = .ok (.invokestatic 89, 3) := by decide +kernel
theorem dX8_busiest_25 : decode cX8_busiest 25 = .ok (.invokestatic 198, 3) := by decide +kernel
theorem dX8_busiest_28 : decode cX8_busiest 28 = .ok (.istore 4, 2) := by decide +kernel
theorem dX8_busiest_30 : decode cX8_busiest 30 = .ok (.iload 4, 2) := by decide +kernel
theorem dX8_busiest_32 : decode cX8_busiest 32 = .ok (.iload_n 2, 1) := by decide +kernel
theorem dX8_busiest_33 : decode cX8_busiest 33 = .ok (.if_icmp .le 8, 3) := by decide +kernel
theorem dX8_busiest_36 : decode cX8_busiest 36 = .ok (.iload 4, 2) := by decide +kernel
theorem dX8_busiest_38 : decode cX8_busiest 38 = .ok (.istore_n 2, 1) := by decide +kernel
theorem dX8_busiest_39 : decode cX8_busiest 39 = .ok (.iload_n 3, 1) := by decide +kernel
theorem dX8_busiest_40 : decode cX8_busiest 40 = .ok (.istore_n 1, 1) := by decide +kernel
theorem dX8_busiest_41 : decode cX8_busiest 41 = .ok (.iinc 3 1, 3) := by decide +kernel
theorem dX8_busiest_44 : decode cX8_busiest 44 = .ok (.goto (-36), 3) := by decide +kernel
theorem dX8_busiest_47 : decode cX8_busiest 47 = .ok (.iload_n 1, 1) := by decide +kernel
theorem dX8_busiest_48 : decode cX8_busiest 48 = .ok (.ireturn, 1) := by decide +kernel
set_option maxRecDepth 20000 in
theorem ggX8_rustiest_X5_placeByRust : GoodIn wsX8_rustiest wsX5_placeByRust := goodIn_r _ [8, 9, 10, 11, 12, 7, 13, 14, 15, 16, 17, 18, 40, 41, 42, 43, 44, 45, 46] (by decide +kernel) (by decide +kernel)
set_option maxRecDepth 20000 in
theorem gX8_rustiest_X5_placeByRust : GoodIn wsX8_rustiest (wsV RX8 212 RX5 yX5_placeByRust wsX5_placeByRust) := goodIn_app (goodIn_of _ (by decide +kernel)) ggX8_rustiest_X5_placeByRust
theorem dX8_rustiest_0 : decode cX8_rustiest 0 = .ok (.iconst 0, 1) := by decide +kernel
theorem dX8_rustiest_1 : decode cX8_rustiest 1 = .ok (.istore_n 2, 1) := by decide +kernel
theorem dX8_rustiest_2 : decode cX8_rustiest 2 = .ok (.iload_n 2, 1) := by decide +kernel
theorem dX8_rustiest_3 : decode cX8_rustiest 3 = .ok (.aload_n 0, 1) := by decide +kernel
theorem dX8_rustiest_4 : decode cX8_rustiest 4 = .ok (.getfield 12, 3) := by decide +kernel
theorem dX8_rustiest_7 : decode cX8_rustiest 7 = .ok (.getfield 75, 3) := by decide +kernel
theorem dX8_rustiest_10 : decode cX8_rustiest 10 = .ok (.getfield 160, 3) := by decide +kernel
theorem dX8_rustiest_13 : decode cX8_rustiest 13 = .ok (.if_icmp .ge 26, 3) := by decide +kernel
theorem dX8_rustiest_16 : decode cX8_rustiest 16 = .ok (.aload_n 0, 1) := by decide +kernel
theorem dX8_rustiest_17 : decode cX8_rustiest 17 = .ok (.getfield 12, 3) := by decide +kernel
theorem dX8_rustiest_20 : decode cX8_rustiest 20 = .ok (.getfield 75, 3) := by decide +kernel
theorem dX8_rustiest_23 : decode cX8_rustiest 23 = .ok (.iload_n 2, 1) := by decide +kernel
theorem dX8_rustiest_24 : decode cX8_rustiest 24 = .ok (.invokevirtual 212, 3) := by decide +kernel
theorem dX8_rustiest_27 : decode cX8_rustiest 27 = .ok (.iload_n 1, 1) := by decide +kernel
theorem dX8_rustiest_28 : decode cX8_rustiest 28 = .ok (.if_icmp .ne 5, 3) := by decide +kernel
theorem dX8_rustiest_31 : decode cX8_rustiest 31 = .ok (.iload_n 2, 1) := by decide +kernel
theorem dX8_rustiest_32 : decode cX8_rustiest 32 = .ok (.ireturn, 1) := by decide +kernel
theorem dX8_rustiest_33 : decode cX8_rustiest 33 = .ok (.iinc 2 1, 3) := by decide +kernel
theorem dX8_rustiest_36 : decode cX8_rustiest 36 = .ok (.goto (-34), 3) := by decide +kernel
theorem dX8_rustiest_39 : decode cX8_rustiest 39 = .ok (.sipush (-1011), 3) := by decide +kernel
theorem dX8_rustiest_42 : decode cX8_rustiest 42 = .ok (.ireturn, 1) := by decide +kernel
set_option maxRecDepth 20000 in
theorem ggX8_ranked_X5_placeByAnswers : GoodIn wsX8_ranked wsX5_placeByAnswers := goodIn_r _ [7, 8, 9, 10, 6, 11, 12, 13, 14, 15, 16, 17, 18, 19, 20, 21, 22, 23, 24, 25, 26, 27, 28, 29, 30, 31, 32, 33, 34, 56, 57, 58, 59, 60, 61, 62] (by decide +kernel) (by decide +kernel)
set_option maxRecDepth 20000 in
theorem gX8_ranked_X5_placeByAnswers : GoodIn wsX8_ranked (wsV RX8 215 RX5 yX5_placeByAnswers wsX5_placeByAnswers) := goodIn_app (goodIn_of _ (by decide +kernel)) ggX8_ranked_X5_placeByAnswers
theorem dX8_ranked_0 : decode cX8_ranked 0 = .ok (.iconst 0, 1) := by decide +kernel
theorem dX8_ranked_1 : decode cX8_ranked 1 = .ok (.istore_n 2, 1) := by decide +kernel
theorem dX8_ranked_2 : decode cX8_ranked 2 = .ok (.iload_n 2, 1) := by decide +kernel
theorem dX8_ranked_3 : decode cX8_ranked 3 = .ok (.iconst 4, 1) := by decide +kernel
theorem dX8_ranked_4 : decode cX8_ranked 4 = .ok (.if_icmp .ge 26, 3) := by decide +kernel
theorem dX8_ranked_7 : decode cX8_ranked 7 = .ok (.aload_n 0, 1) := by decide +kernel
theorem dX8_ranked_8 : decode cX8_ranked 8 = .ok (.getfield 12, 3) := by decide +kernel
theorem dX8_ranked_11 : decode cX8_ranked 11 = .ok (.getfield 75, 3) := by decide +kernel
theorem dX8_ranked_14 : decode cX8_ranked 14 = .ok (.iload_n 2, 1) := by decide +kernel
theorem dX8_ranked_15 : decode cX8_ranked 15 = .ok (.invokevirtual 215, 3) := by decide +kernel
theorem dX8_ranked_18 : decode cX8_ranked 18 = .ok (.iload_n 1, 1) := by decide +kernel
theorem dX8_ranked_19 : decode cX8_ranked 19 = .ok (.if_icmp .ne 5, 3) := by decide +kernel
theorem dX8_ranked_22 : decode cX8_ranked 22 = .ok (.iload_n 2, 1) := by decide +kernel
theorem dX8_ranked_23 : decode cX8_ranked 23 = .ok (.ireturn, 1) := by decide +kernel
theorem dX8_ranked_24 : decode cX8_ranked 24 = .ok (.iinc 2 1, 3) := by decide +kernel
theorem dX8_ranked_27 : decode cX8_ranked 27 = .ok (.goto (-25), 3) := by decide +kernel
theorem dX8_ranked_30 : decode cX8_ranked 30 = .ok (.sipush (-1011), 3) := by decide +kernel
theorem dX8_ranked_33 : decode cX8_ranked 33 = .ok (.ireturn, 1) := by decide +kernel
set_option maxRecDepth 20000 in
theorem ggX8_run_X3_read : GoodIn wsX8_run wsX3_read := goodIn_r _ [11, 12, 13, 14, 15, 16, 17, 10, 18, 19, 20, 21, 22, 23, 24, 25, 26, 27, 28, 29, 30, 31, 32, 33, 34, 35, 36, 37, 38, 39, 40, 41, 42, 43, 44, 45, 46, 47, 48, 49, 50, 51, 52, 53, 54, 55, 56, 57, 58, 59, 60, 61, 62, 63, 64, 65, 66, 67, 68, 69, 70, 71, 72, 73, 74, 75, 76, 77, 78, 79, 80, 81, 82, 83, 84, 85, 86, 87, 88, 89, 90, 91, 92, 93, 94, 95, 96, 97, 98, 99, 391, 392, 393, 394, 389, 390, 395, 396, 397, 398] (by decide +kernel) (by decide +kernel)
set_option maxRecDepth 20000 in
theorem gX8_run_X3_read : GoodIn wsX8_run (wsV RX8 224 RX3 yX3_read wsX3_read) := goodIn_app (goodIn_of _ (by decide +kernel)) ggX8_run_X3_read
set_option maxRecDepth 20000 in
theorem ggX8_run_X1_note : GoodIn wsX8_run wsX1_note := goodIn_r _ [104, 105, 106, 107, 108, 103, 109, 110, 111, 112, 113, 114, 115, 116, 117, 118, 119, 120, 121, 122, 123, 124, 125, 126, 127, 128, 129, 130, 131, 132, 133, 134, 135, 136, 137, 138, 139, 140, 141, 142, 143, 144, 145, 146, 147, 148, 149, 150, 151, 152, 153, 154, 155, 156, 157, 158, 159, 160, 161, 162, 163, 164, 165, 166, 167, 168, 169, 170, 171, 172, 173, 174, 175, 176, 28, 177, 178, 179, 180, 181, 182, 183, 184, 185, 186, 187, 188, 189, 190, 191, 192, 193, 194, 195, 196, 399, 400, 401, 402, 403, 404, 405, 406, 407, 408, 409, 410, 411, 412, 413, 414, 415, 416, 417, 418, 419, 420, 421, 422, 423, 424, 425, 426, 427, 428, 429, 430] (by decide +kernel) (by decide +kernel)
set_option maxRecDepth 20000 in
theorem gX8_run_X1_note : GoodIn wsX8_run (wsV RX8 54 RX1 yX1_note wsX1_note) := goodIn_app (goodIn_of _ (by decide +kernel)) ggX8_run_X1_note
set_option maxRecDepth 20000 in
theorem ggX8_run_X8_carryOut : GoodIn wsX8_run wsX8_carryOut := goodIn_r _ [200, 1, 201, 5, 202, 203, 204, 10, 205, 93, 27, 28, 29, 206, 207, 208, 209, 210, 211, 212, 213, 214, 215, 216, 217, 218, 219, 220, 221, 222, 223, 224, 125, 225, 175, 140, 141, 40, 41, 226, 227, 228, 229, 230, 231, 232, 233, 234, 235, 236, 237, 238, 239, 240, 241, 242, 243, 244, 245, 246, 247, 248, 249, 250, 251, 252, 253, 254, 255, 256, 257, 258, 259, 260, 129, 261, 190, 149, 150, 151, 262, 263, 264, 265, 266, 267, 268, 269, 270, 271, 272, 273, 274, 275, 276, 277, 278, 279, 280, 281, 282, 283, 284, 285, 286, 287, 288, 289, 290, 291, 292, 293, 294, 295, 296, 297, 298, 113, 299, 130, 300, 301, 302, 163, 166, 136, 169, 126, 303, 304, 305, 306, 307, 308, 309, 180, 310, 311, 312, 313, 314, 315, 316, 142, 317, 318, 319, 320, 168, 321, 322, 323, 324, 325, 167, 326, 134, 164, 327, 328, 329, 330, 331, 179, 181, 332, 333, 334, 133, 335, 196, 155, 156, 157, 158, 195, 336, 337, 115, 116, 117, 338, 339, 340, 341, 342, 343, 344, 345, 346, 347, 348, 349, 350, 351, 352, 353, 354, 355, 356, 357, 358, 359, 360, 361, 362, 363, 364, 365, 380, 381, 382, 383, 384, 385, 386, 387, 388, 391, 392, 393, 394, 402, 403, 404, 405, 406, 407, 408, 409, 410, 411, 412, 413, 414, 415, 416, 417, 418, 419, 420, 421, 422, 423, 424, 425, 426, 427, 428, 429, 430] (by decide +kernel) (by decide +kernel)
set_option maxRecDepth 20000 in
theorem gX8_run_X8_carryOut : GoodIn wsX8_run (wsV RX8 229 RX8 yX8_carryOut wsX8_carryOut) := goodIn_app (goodIn_of _ (by decide +kernel)) ggX8_run_X8_carryOut
set_option maxRecDepth 20000 in
theorem ggX8_run_X1_takeBack : GoodIn wsX8_run wsX1_takeBack := goodIn_r _ [369, 105, 106, 107, 108, 103, 109, 110, 111, 112, 113, 114, 115, 116, 117, 118, 119, 120, 121, 122, 123, 124, 125, 126, 127, 128, 129, 130, 131, 132, 133, 134, 135, 136, 137, 138, 139, 140, 141, 142, 143, 144, 145, 146, 147, 148, 149, 150, 151, 152, 153, 154, 155, 156, 157, 158, 159, 160, 161, 162, 163, 164, 165, 166, 167, 168, 169, 170, 171, 172, 173, 174, 175, 176, 28, 177, 178, 179, 180, 181, 182, 183, 184, 185, 186, 187, 188, 189, 190, 191, 192, 193, 194, 195, 196, 399, 400, 401, 402, 403, 404, 405, 406, 407, 408, 409, 410, 411, 412, 413, 414, 415, 416, 417, 418, 419, 420, 421, 422, 423, 424, 425, 426, 427, 428, 429, 430] (by decide +kernel) (by decide +kernel)
set_option maxRecDepth 20000 in
theorem gX8_run_X1_takeBack : GoodIn wsX8_run (wsV RX8 232 RX1 yX1_takeBack wsX1_takeBack) := goodIn_app (goodIn_of _ (by decide +kernel)) ggX8_run_X1_takeBack
set_option maxRecDepth 20000 in
theorem ggX8_run_X8_refuse : GoodIn wsX8_run wsX8_refuse := goodIn_r _ [219, 220, 221, 380, 381, 382, 383, 384, 385, 386, 387, 388] (by decide +kernel) (by decide +kernel)
set_option maxRecDepth 20000 in
theorem gX8_run_X8_refuse : GoodIn wsX8_run (wsV RX8 235 RX8 yX8_refuse wsX8_refuse) := goodIn_app (goodIn_of _ (by decide +kernel)) ggX8_run_X8_refuse
set_option maxRecDepth 20000 in
theorem ggX8_run_X8_settle : GoodIn wsX8_run wsX8_settle := goodIn_r _ [373, 4, 374, 375, 376, 103, 377, 105, 378, 379, 179, 180, 181, 114, 115, 116, 117, 380, 381, 382, 383, 384, 385, 386, 387, 388, 399, 400, 401] (by decide +kernel) (by decide +kernel)
set_option maxRecDepth 20000 in
theorem gX8_run_X8_settle : GoodIn wsX8_run (wsV RX8 62 RX8 yX8_settle wsX8_settle) := goodIn_app (goodIn_of _ (by decide +kernel)) ggX8_run_X8_settle
theorem dX8_run_0 : decode cX8_run 0 = .ok (.aload_n 0, 1) := by decide +kernel
theorem dX8_run_1 : decode cX8_run 1 = .ok (.getfield 36, 3) := by decide +kernel
theorem dX8_run_4 : decode cX8_run 4 = .ok (.aload_n 0, 1) := by decide +kernel
theorem dX8_run_5 : decode cX8_run 5 = .ok (.getfield 29, 3) := by decide +kernel
theorem dX8_run_8 : decode cX8_run 8 = .ok (.invokevirtual 224, 3) := by decide +kernel
theorem dX8_run_11 : decode cX8_run 11 = .ok (.istore_n 1, 1) := by decide +kernel
theorem dX8_run_12 : decode cX8_run 12 = .ok (.aload_n 0, 1) := by decide +kernel
theorem dX8_run_13 : decode cX8_run 13 = .ok (.getfield 29, 3) := by decide +kernel
theorem dX8_run_16 : decode cX8_run 16 = .ok (.iconst 0, 1) := by decide +kernel
theorem dX8_run_17 : decode cX8_run 17 = .ok (.putfield 218, 3) := by decide +kernel
theorem dX8_run_20 : decode cX8_run 20 = .ok (.iload_n 1, 1) := by decide +kernel
theorem dX8_run_21 : decode cX8_run 21 = .ok (.iconst (-1), 1) := by decide +kernel
theorem dX8_run_22 : decode cX8_run 22 = .ok (.if_icmp .eq 9, 3) := by decide +kernel
theorem dX8_run_25 : decode cX8_run 25 = .ok (.sipush (-2000), 3) := by decide +kernel
theorem dX8_run_28 : decode cX8_run 28 = .ok (.iload_n 1, 1) := by decide +kernel
theorem dX8_run_29 : decode cX8_run 29 = .ok (.isub, 1) := by decide +kernel
theorem dX8_run_30 : decode cX8_run 30 = .ok (.ireturn, 1) := by decide +kernel
theorem dX8_run_31 : decode cX8_run 31 = .ok (.aload_n 0, 1) := by decide +kernel
theorem dX8_run_32 : decode cX8_run 32 = .ok (.getfield 22, 3) := by decide +kernel
theorem dX8_run_35 : decode cX8_run 35 = .ok (.aload_n 0, 1) := by decide +kernel
theorem dX8_run_36 : decode cX8_run 36 = .ok (.getfield 12, 3) := by decide +kernel
theorem dX8_run_39 : decode cX8_run 39 = .ok (.invokevirtual 54, 3) := by decide +kernel
theorem dX8_run_42 : decode cX8_run 42 = .ok (.iconst 0, 1) := by decide +kernel
theorem dX8_run_43 : decode cX8_run 43 = .ok (.istore_n 2, 1) := by decide +kernel
theorem dX8_run_44 : decode cX8_run 44 = .ok (.iload_n 2, 1) := by decide +kernel
theorem dX8_run_45 : decode cX8_run 45 = .ok (.aload_n 0, 1) := by decide +kernel
theorem dX8_run_46 : decode cX8_run 46 = .ok (.getfield 36, 3) := by decide +kernel
theorem dX8_run_49 : decode cX8_run 49 = .ok (.getfield 228, 3) := by decide +kernel
theorem dX8_run_52 : decode cX8_run 52 = .ok (.if_icmp .ge 36, 3) := by decide +kernel
theorem dX8_run_55 : decode cX8_run 55 = .ok (.aload_n 0, 1) := by decide +kernel
theorem dX8_run_56 : decode cX8_run 56 = .ok (.iload_n 2, 1) := by decide +kernel
theorem dX8_run_57 : decode cX8_run 57 = .ok (.invokevirtual 229, 3) := by decide +kernel
theorem dX8_run_60 : decode cX8_run 60 = .ok (.ifCond .ge 22, 3) := by decide +kernel
theorem dX8_run_63 : decode cX8_run 63 = .ok (.aload_n 0, 1) := by decide +kernel
theorem dX8_run_64 : decode cX8_run 64 = .ok (.getfield 22, 3) := by decide +kernel
theorem dX8_run_67 : decode cX8_run 67 = .ok (.aload_n 0, 1) := by decide +kernel
theorem dX8_run_68 : decode cX8_run 68 = .ok (.getfield 12, 3) := by decide +kernel
theorem dX8_run_71 : decode cX8_run 71 = .ok (.invokevirtual 232, 3) := by decide +kernel
theorem dX8_run_74 : decode cX8_run 74 = .ok (.aload_n 0, 1) := by decide +kernel
theorem dX8_run_75 : decode cX8_run 75 = .ok (.bipush 7, 2) := by decide +kernel
theorem dX8_run_77 : decode cX8_run 77 = .ok (.iload_n 2, 1) := by decide +kernel
theorem dX8_run_78 : decode cX8_run 78 = .ok (.invokevirtual 235, 3) := by decide +kernel
theorem dX8_run_81 : decode cX8_run 81 = .ok (.ireturn, 1) := by decide +kernel
theorem dX8_run_82 : decode cX8_run 82 = .ok (.iinc 2 1, 3) := by decide +kernel
theorem dX8_run_85 : decode cX8_run 85 = .ok (.goto (-41), 3) := by decide +kernel
theorem dX8_run_88 : decode cX8_run 88 = .ok (.aload_n 0, 1) := by decide +kernel
theorem dX8_run_89 : decode cX8_run 89 = .ok (.aload_n 0, 1) := by decide +kernel
theorem dX8_run_90 : decode cX8_run 90 = .ok (.getfield 36, 3) := by decide +kernel
theorem dX8_run_93 : decode cX8_run 93 = .ok (.getfield 228, 3) := by decide +kernel
theorem dX8_run_96 : decode cX8_run 96 = .ok (.invokevirtual 62, 3) := by decide +kernel
theorem dX8_run_99 : decode cX8_run 99 = .ok (.ireturn, 1) := by decide +kernel
set_option maxRecDepth 20000 in
theorem ggX8_tell_X5_has : GoodIn wsX8_tell wsX5_has := goodIn_r _ [9, 10, 72, 73, 74, 75, 76, 77, 78] (by decide +kernel) (by decide +kernel)
set_option maxRecDepth 20000 in
theorem gX8_tell_X5_has : GoodIn wsX8_tell (wsV RX8 79 RX5 yX5_has wsX5_has) := goodIn_app (goodIn_of _ (by decide +kernel)) ggX8_tell_X5_has
set_option maxRecDepth 20000 in
theorem ggX8_tell_X8_tellRope : GoodIn wsX8_tell wsX8_tellRope := goodIn_r _ [15, 3, 1, 2, 16, 17, 18, 19, 20, 21, 22, 23, 24, 25, 26, 27, 28, 29, 30, 31, 32, 33, 34, 14, 35, 36, 37, 38, 39, 49, 50, 51, 52, 53, 54, 55, 56, 57, 58, 59, 60, 61, 62, 63, 64, 65, 66, 67, 68, 69, 72, 73, 74, 75, 76, 77, 78, 70, 71] (by decide +kernel) (by decide +kernel)
set_option maxRecDepth 20000 in
theorem gX8_tell_X8_tellRope : GoodIn wsX8_tell (wsV RX8 239 RX8 yX8_tellRope wsX8_tellRope) := goodIn_app (goodIn_of _ (by decide +kernel)) ggX8_tell_X8_tellRope
set_option maxRecDepth 20000 in
theorem ggX8_tell_X8_tellPulls : GoodIn wsX8_tell wsX8_tellPulls := goodIn_r _ [43, 1, 44, 45, 46, 3, 47, 48, 37, 38, 14, 39, 36, 25, 26, 22, 27, 28, 29, 30, 31, 32, 33, 34, 35, 19, 20, 21, 23, 24, 49, 50, 51, 52, 53, 54, 55, 56, 57, 58, 59, 60, 61, 62, 63, 64, 65, 66, 67, 68, 69, 79, 80, 81, 82, 70, 71] (by decide +kernel) (by decide +kernel)
set_option maxRecDepth 20000 in
theorem gX8_tell_X8_tellPulls : GoodIn wsX8_tell (wsV RX8 243 RX8 yX8_tellPulls wsX8_tellPulls) := goodIn_app (goodIn_of _ (by decide +kernel)) ggX8_tell_X8_tellPulls
theorem dX8_tell_0 : decode cX8_tell 0 = .ok (.aload_n 0, 1) := by decide +kernel
theorem dX8_tell_1 : decode cX8_tell 1 = .ok (.getfield 12, 3) := by decide +kernel
theorem dX8_tell_4 : decode cX8_tell 4 = .ok (.getfield 75, 3) := by decide +kernel
theorem dX8_tell_7 : decode cX8_tell 7 = .ok (.iload_n 1, 1) := by decide +kernel
theorem dX8_tell_8 : decode cX8_tell 8 = .ok (.invokevirtual 79, 3) := by decide +kernel
theorem dX8_tell_11 : decode cX8_tell 11 = .ok (.ifCond .ne 7, 3) := by decide +kernel
theorem dX8_tell_14 : decode cX8_tell 14 = .ok (.sipush (-1011), 3) := by decide +kernel
theorem dX8_tell_17 : decode cX8_tell 17 = .ok (.ireturn, 1) := by decide +kernel
theorem dX8_tell_18 : decode cX8_tell 18 = .ok (.aload_n 0, 1) := by decide +kernel
theorem dX8_tell_19 : decode cX8_tell 19 = .ok (.getfield 43, 3) := by decide +kernel
theorem dX8_tell_22 : decode cX8_tell 22 = .ok (.iconst 0, 1) := by decide +kernel
theorem dX8_tell_23 : decode cX8_tell 23 = .ok (.putfield 238, 3) := by decide +kernel
theorem dX8_tell_26 : decode cX8_tell 26 = .ok (.aload_n 0, 1) := by decide +kernel
theorem dX8_tell_27 : decode cX8_tell 27 = .ok (.iload_n 1, 1) := by decide +kernel
theorem dX8_tell_28 : decode cX8_tell 28 = .ok (.invokevirtual 239, 3) := by decide +kernel
theorem dX8_tell_31 : decode cX8_tell 31 = .ok (.aload_n 0, 1) := by decide +kernel
theorem dX8_tell_32 : decode cX8_tell 32 = .ok (.iload_n 1, 1) := by decide +kernel
theorem dX8_tell_33 : decode cX8_tell 33 = .ok (.invokevirtual 243, 3) := by decide +kernel
theorem dX8_tell_36 : decode cX8_tell 36 = .ok (.aload_n 0, 1) := by decide +kernel
theorem dX8_tell_37 : decode cX8_tell 37 = .ok (.getfield 43, 3) := by decide +kernel
theorem dX8_tell_40 : decode cX8_tell 40 = .ok (.getfield 238, 3) := by decide +kernel
theorem dX8_tell_43 : decode cX8_tell 43 = .ok (.ireturn, 1) := by decide +kernel
set_option maxRecDepth 20000 in
theorem ggX8_tellDay_X8_at : GoodIn wsX8_tellDay wsX8_at := goodIn_r _ [8] (by decide +kernel) (by decide +kernel)
set_option maxRecDepth 20000 in
theorem gX8_tellDay_X8_at : GoodIn wsX8_tellDay (va_wsS RX8 89 yX8_at wsX8_at) := goodIn_app (goodIn_of _ (by decide +kernel)) ggX8_tellDay_X8_at
set_option maxRecDepth 20000 in
theorem ggX8_tellDay_X8_tellHour : GoodIn wsX8_tellDay wsX8_tellHour := goodIn_r _ [12, 1, 2, 13, 14, 15, 16, 17, 18, 19, 20, 21, 22, 23, 24, 7, 25, 26, 27, 28, 29, 30, 31, 32, 33, 34, 3, 35, 4, 36, 37, 38, 5, 6, 8, 39, 40, 41, 42, 43, 44, 45, 46, 47, 48, 49, 50, 51, 52, 53, 54, 55, 56, 57, 58, 59, 60, 61, 62, 63, 64, 65, 66, 67, 68, 69, 70, 71, 72, 73, 74, 75, 76, 77, 78, 79, 80, 81, 82, 83, 84, 85, 86, 87, 88] (by decide +kernel) (by decide +kernel)
set_option maxRecDepth 20000 in
theorem gX8_tellDay_X8_tellHour : GoodIn wsX8_tellDay (wsV RX8 246 RX8 yX8_tellHour wsX8_tellHour) := goodIn_app (goodIn_of _ (by decide +kernel)) ggX8_tellDay_X8_tellHour
theorem dX8_tellDay_0 : decode cX8_tellDay 0 = .ok (.aload_n 0, 1) := by decide +kernel
theorem dX8_tellDay_1 : decode cX8_tellDay 1 = .ok (.getfield 43, 3) := by decide +kernel
theorem dX8_tellDay_4 : decode cX8_tellDay 4 = .ok (.iconst 0, 1) := by decide +kernel
theorem dX8_tellDay_5 : decode cX8_tellDay 5 = .ok (.putfield 238, 3) := by decide +kernel
theorem dX8_tellDay_8 : decode cX8_tellDay 8 = .ok (.iconst 0, 1) := by decide +kernel
theorem dX8_tellDay_9 : decode cX8_tellDay 9 = .ok (.istore_n 1, 1) := by decide +kernel
theorem dX8_tellDay_10 : decode cX8_tellDay 10 = .ok (.iload_n 1, 1) := by decide +kernel
theorem dX8_tellDay_11 : decode cX8_tellDay 11 = .ok (.bipush 24, 2) := by decide +kernel
theorem dX8_tellDay_13 : decode cX8_tellDay 13 = .ok (.if_icmp .ge 28, 3) := by decide +kernel
theorem dX8_tellDay_16 : decode cX8_tellDay 16 = .ok (.aload_n 0, 1) := by decide +kernel
theorem dX8_tellDay_17 : decode cX8_tellDay 17 = .ok (.getfield 12, 3) := by decide +kernel
theorem dX8_tellDay_20 : decode cX8_tellDay 20 = .ok (.getfield 183, 3) := by decide +kernel
theorem dX8_tellDay_23 : decode cX8_tellDay 23 = .ok (.iload_n 1, 1) := by decide +kernel
theorem dX8_tellDay_24 : decode cX8_tellDay 24 = .ok (.invokestatic 89, 3) := by decide +kernel
theorem dX8_tellDay_27 : decode cX8_tellDay 27 = .ok (.ifCond .eq 8, 3) := by decide +kernel
theorem dX8_tellDay_30 : decode cX8_tellDay 30 = .ok (.aload_n 0, 1) := by decide +kernel
theorem dX8_tellDay_31 : decode cX8_tellDay 31 = .ok (.iload_n 1, 1) := by decide +kernel
theorem dX8_tellDay_32 : decode cX8_tellDay 32 = .ok (.invokevirtual 246, 3) := by decide +kernel
theorem dX8_tellDay_35 : decode cX8_tellDay 35 = .ok (.iinc 1 1, 3) := by decide +kernel
theorem dX8_tellDay_38 : decode cX8_tellDay 38 = .ok (.goto (-28), 3) := by decide +kernel
theorem dX8_tellDay_41 : decode cX8_tellDay 41 = .ok (.aload_n 0, 1) := by decide +kernel
theorem dX8_tellDay_42 : decode cX8_tellDay 42 = .ok (.getfield 43, 3) := by decide +kernel
theorem dX8_tellDay_45 : decode cX8_tellDay 45 = .ok (.getfield 238, 3) := by decide +kernel
theorem dX8_tellDay_48 : decode cX8_tellDay 48 = .ok (.ireturn, 1) := by decide +kernel
set_option maxRecDepth 20000 in
theorem ggX8_character_X8_at : GoodIn wsX8_character wsX8_at := goodIn_r _ [7] (by decide +kernel) (by decide +kernel)
set_option maxRecDepth 20000 in
theorem gX8_character_X8_at : GoodIn wsX8_character (va_wsS RX8 89 yX8_at wsX8_at) := goodIn_app (goodIn_of _ (by decide +kernel)) ggX8_character_X8_at
theorem dX8_character_0 : decode cX8_character 0 = .ok (.iload_n 1, 1) := by decide +kernel
theorem dX8_character_1 : decode cX8_character 1 = .ok (.ifCond .lt 28, 3) := by decide +kernel
theorem dX8_character_4 : decode cX8_character 4 = .ok (.iload_n 1, 1) := by decide +kernel
theorem dX8_character_5 : decode cX8_character 5 = .ok (.aload_n 0, 1) := by decide +kernel
theorem dX8_character_6 : decode cX8_character 6 = .ok (.getfield 43, 3) := by decide +kernel
theorem dX8_character_9 : decode cX8_character 9 = .ok (.getfield 238, 3) := by decide +kernel
theorem dX8_character_12 : decode cX8_character 12 = .ok (.if_icmp .ge 17, 3) := by decide +kernel
theorem dX8_character_15 : decode cX8_character 15 = .ok (.aload_n 0, 1) := by decide +kernel
theorem dX8_character_16 : decode cX8_character 16 = .ok (.getfield 43, 3) := by decide +kernel
theorem dX8_character_19 : decode cX8_character 19 = .ok (.getfield 249, 3) := by decide +kernel
theorem dX8_character_22 : decode cX8_character 22 = .ok (.iload_n 1, 1) := by decide +kernel
theorem dX8_character_23 : decode cX8_character 23 = .ok (.invokestatic 89, 3) := by decide +kernel
theorem dX8_character_26 : decode cX8_character 26 = .ok (.goto 6, 3) := by decide +kernel
theorem dX8_character_29 : decode cX8_character 29 = .ok (.sipush (-1011), 3) := by decide +kernel
theorem dX8_character_32 : decode cX8_character 32 = .ok (.ireturn, 1) := by decide +kernel
theorem dX8_reason_0 : decode cX8_reason 0 = .ok (.iload_n 1, 1) := by decide +kernel
theorem dX8_reason_1 : decode cX8_reason 1 = .ok (.ifCond .eq 10, 3) := by decide +kernel
theorem dX8_reason_4 : decode cX8_reason 4 = .ok (.aload_n 0, 1) := by decide +kernel
theorem dX8_reason_5 : decode cX8_reason 5 = .ok (.getfield 51, 3) := by decide +kernel
theorem dX8_reason_8 : decode cX8_reason 8 = .ok (.goto 7, 3) := by decide +kernel
theorem dX8_reason_11 : decode cX8_reason 11 = .ok (.aload_n 0, 1) := by decide +kernel
theorem dX8_reason_12 : decode cX8_reason 12 = .ok (.getfield 47, 3) := by decide +kernel
theorem dX8_reason_15 : decode cX8_reason 15 = .ok (.ireturn, 1) := by decide +kernel
set_option maxRecDepth 20000 in
theorem ggX8_account_X8_sum : GoodIn wsX8_account wsX8_sum := goodIn_r _ [23] (by decide +kernel) (by decide +kernel)
set_option maxRecDepth 20000 in
theorem gX8_account_X8_sum : GoodIn wsX8_account (va_wsS RX8 268 yX8_sum wsX8_sum) := goodIn_app (goodIn_of _ (by decide +kernel)) ggX8_account_X8_sum
theorem dX8_account_0 : decode cX8_account 0 = .ok (.iload_n 1, 1) := by decide +kernel
theorem dX8_account_1 : decode cX8_account 1 = .ok (.tableswitch 186 0 12 #[67, 78, 89, 97, 105, 113, 121, 129, 137, 145, 159, 170, 178], 67) := by decide +kernel
theorem dX8_account_68 : decode cX8_account 68 = .ok (.aload_n 0, 1) := by decide +kernel
theorem dX8_account_69 : decode cX8_account 69 = .ok (.getfield 12, 3) := by decide +kernel
theorem dX8_account_72 : decode cX8_account 72 = .ok (.getfield 75, 3) := by decide +kernel
theorem dX8_account_75 : decode cX8_account 75 = .ok (.getfield 160, 3) := by decide +kernel
theorem dX8_account_78 : decode cX8_account 78 = .ok (.ireturn, 1) := by decide +kernel
theorem dX8_account_79 : decode cX8_account 79 = .ok (.aload_n 0, 1) := by decide +kernel
theorem dX8_account_80 : decode cX8_account 80 = .ok (.getfield 12, 3) := by decide +kernel
theorem dX8_account_83 : decode cX8_account 83 = .ok (.getfield 108, 3) := by decide +kernel
theorem dX8_account_86 : decode cX8_account 86 = .ok (.getfield 154, 3) := by decide +kernel
theorem dX8_account_89 : decode cX8_account 89 = .ok (.ireturn, 1) := by decide +kernel
theorem dX8_account_90 : decode cX8_account 90 = .ok (.aload_n 0, 1) := by decide +kernel
theorem dX8_account_91 : decode cX8_account 91 = .ok (.getfield 12, 3) := by decide +kernel
theorem dX8_account_94 : decode cX8_account 94 = .ok (.getfield 252, 3) := by decide +kernel
theorem dX8_account_97 : decode cX8_account 97 = .ok (.ireturn, 1) := by decide +kernel
theorem dX8_account_98 : decode cX8_account 98 = .ok (.aload_n 0, 1) := by decide +kernel
theorem dX8_account_99 : decode cX8_account 99 = .ok (.getfield 12, 3) := by decide +kernel
theorem dX8_account_102 : decode cX8_account 102 = .ok (.getfield 254, 3) := by decide +kernel
theorem dX8_account_105 : decode cX8_account 105 = .ok (.ireturn, 1) := by decide +kernel
theorem dX8_account_106 : decode cX8_account 106 = .ok (.aload_n 0, 1) := by decide +kernel
theorem dX8_account_107 : decode cX8_account 107 = .ok (.getfield 12, 3) := by decide +kernel
theorem dX8_account_110 : decode cX8_account 110 = .ok (.getfield 256, 3) := by decide +kernel
theorem dX8_account_113 : decode cX8_account 113 = .ok (.ireturn, 1) := by decide +kernel
theorem dX8_account_114 : decode cX8_account 114 = .ok (.aload_n 0, 1) := by decide +kernel
theorem dX8_account_115 : decode cX8_account 115 = .ok (.getfield 12, 3) := by decide +kernel
theorem dX8_account_118 : decode cX8_account 118 = .ok (.getfield 259, 3) := by decide +kernel
theorem dX8_account_121 : decode cX8_account 121 = .ok (.ireturn, 1) := by decide +kernel
theorem dX8_account_122 : decode cX8_account 122 = .ok (.aload_n 0, 1) := by decide +kernel
theorem dX8_account_123 : decode cX8_account 123 = .ok (.getfield 12, 3) := by decide +kernel
theorem dX8_account_126 : decode cX8_account 126 = .ok (.getfield 261, 3) := by decide +kernel
theorem dX8_account_129 : decode cX8_account 129 = .ok (.ireturn, 1) := by decide +kernel
theorem dX8_account_130 : decode cX8_account 130 = .ok (.aload_n 0, 1) := by decide +kernel
theorem dX8_account_131 : decode cX8_account 131 = .ok (.getfield 12, 3) := by decide +kernel
theorem dX8_account_134 : decode cX8_account 134 = .ok (.getfield 263, 3) := by decide +kernel
theorem dX8_account_137 : decode cX8_account 137 = .ok (.ireturn, 1) := by decide +kernel
theorem dX8_account_138 : decode cX8_account 138 = .ok (.aload_n 0, 1) := by decide +kernel
theorem dX8_account_139 : decode cX8_account 139 = .ok (.getfield 12, 3) := by decide +kernel
theorem dX8_account_142 : decode cX8_account 142 = .ok (.getfield 265, 3) := by decide +kernel
theorem dX8_account_145 : decode cX8_account 145 = .ok (.ireturn, 1) := by decide +kernel
theorem dX8_account_146 : decode cX8_account 146 = .ok (.aload_n 0, 1) := by decide +kernel
theorem dX8_account_147 : decode cX8_account 147 = .ok (.getfield 12, 3) := by decide +kernel
theorem dX8_account_150 : decode cX8_account 150 = .ok (.getfield 75, 3) := by decide +kernel
theorem dX8_account_153 : decode cX8_account 153 = .ok (.getfield 96, 3) := by decide +kernel
theorem dX8_account_156 : decode cX8_account 156 = .ok (.invokestatic 268, 3) := by decide +kernel
theorem dX8_account_159 : decode cX8_account 159 = .ok (.ireturn, 1) := by decide +kernel
theorem dX8_account_160 : decode cX8_account 160 = .ok (.aload_n 0, 1) := by decide +kernel
theorem dX8_account_161 : decode cX8_account 161 = .ok (.getfield 12, 3) := by decide +kernel
theorem dX8_account_164 : decode cX8_account 164 = .ok (.getfield 164, 3) := by decide +kernel
theorem dX8_account_167 : decode cX8_account 167 = .ok (.getfield 272, 3) := by decide +kernel
theorem dX8_account_170 : decode cX8_account 170 = .ok (.ireturn, 1) := by decide +kernel
theorem dX8_account_171 : decode cX8_account 171 = .ok (.aload_n 0, 1) := by decide +kernel
theorem dX8_account_172 : decode cX8_account 172 = .ok (.getfield 29, 3) := by decide +kernel
theorem dX8_account_175 : decode cX8_account 175 = .ok (.getfield 218, 3) := by decide +kernel
theorem dX8_account_178 : decode cX8_account 178 = .ok (.ireturn, 1) := by decide +kernel
theorem dX8_account_179 : decode cX8_account 179 = .ok (.aload_n 0, 1) := by decide +kernel
theorem dX8_account_180 : decode cX8_account 180 = .ok (.getfield 22, 3) := by decide +kernel
theorem dX8_account_183 : decode cX8_account 183 = .ok (.getfield 273, 3) := by decide +kernel
theorem dX8_account_186 : decode cX8_account 186 = .ok (.ireturn, 1) := by decide +kernel
theorem dX8_account_187 : decode cX8_account 187 = .ok (.sipush (-1012), 3) := by decide +kernel
theorem dX8_account_190 : decode cX8_account 190 = .ok (.ireturn, 1) := by decide +kernel
set_option maxRecDepth 20000 in
theorem ggX8_isBalanced_X8_arePullsAccountedFor : GoodIn wsX8_isBalanced wsX8_arePullsAccountedFor := goodIn_r _ [5, 6, 7, 8, 9, 10, 11, 12, 13, 217, 218, 219, 220, 221, 222, 223, 224, 225, 226, 227, 228, 229, 230, 231, 232, 233, 234, 235, 236, 237, 238, 239, 240, 241] (by decide +kernel) (by decide +kernel)
set_option maxRecDepth 20000 in
theorem gX8_isBalanced_X8_arePullsAccountedFor : GoodIn wsX8_isBalanced (wsV RX8 274 RX8 yX8_arePullsAccountedFor wsX8_arePullsAccountedFor) := goodIn_app (goodIn_of _ (by decide +kernel)) ggX8_isBalanced_X8_arePullsAccountedFor
set_option maxRecDepth 20000 in
theorem ggX8_isBalanced_X8_areRopesAccountedFor : GoodIn wsX8_isBalanced wsX8_areRopesAccountedFor := goodIn_r _ [17, 6, 18, 19, 10, 20, 11, 21, 12, 8, 9, 22, 23, 4, 24, 25, 26, 27, 28, 29, 30, 31, 32, 33, 34, 35, 36, 37, 38, 39, 40, 41, 42, 43, 217, 218, 219, 220, 221, 222, 223, 224, 225, 226, 227, 228, 229, 230, 231, 232, 233, 234, 235, 236, 237, 242, 243, 244, 245, 246, 247, 248, 238, 239, 240, 241] (by decide +kernel) (by decide +kernel)
set_option maxRecDepth 20000 in
theorem gX8_isBalanced_X8_areRopesAccountedFor : GoodIn wsX8_isBalanced (wsV RX8 278 RX8 yX8_areRopesAccountedFor wsX8_areRopesAccountedFor) := goodIn_app (goodIn_of _ (by decide +kernel)) ggX8_isBalanced_X8_areRopesAccountedFor
set_option maxRecDepth 20000 in
theorem ggX8_isBalanced_X8_forecast : GoodIn wsX8_isBalanced wsX8_forecast := goodIn_r _ [47, 48, 6, 8, 9, 49, 50, 51, 52, 53, 54, 55, 56, 57, 58, 59, 60, 61, 62, 63, 64, 65, 66, 67, 68, 28, 69, 30, 70, 71, 72, 73, 74, 75, 76, 4, 77, 78, 79, 80, 81, 82, 83, 84, 85, 86, 87, 88, 36, 89, 38, 39, 90, 91, 92, 93, 94, 95, 96, 97, 98, 99, 100, 101, 102, 103, 104, 105, 106, 107, 108, 109, 110, 40, 41, 111, 112, 113, 114, 115, 116, 117, 118, 119, 120, 121, 122, 123, 42, 43, 124, 125, 126, 127, 128, 129, 130, 131, 132, 133, 134, 135, 136, 137, 138, 139, 140, 141, 142, 143, 144, 145, 146, 31, 32, 147, 148, 149, 150, 151, 152, 153, 154, 155, 217, 218, 219, 220, 221, 222, 223, 224, 225, 226, 227, 228, 229, 230, 231, 232, 233, 234, 235, 236, 237, 238, 239, 240, 241, 242, 243, 244, 245, 246, 247, 248, 249, 250, 251, 252, 253, 254] (by decide +kernel) (by decide +kernel)
set_option maxRecDepth 20000 in
theorem gX8_isBalanced_X8_forecast : GoodIn wsX8_isBalanced (wsV RX8 281 RX8 yX8_forecast wsX8_forecast) := goodIn_app (goodIn_of _ (by decide +kernel)) ggX8_isBalanced_X8_forecast
set_option maxRecDepth 20000 in
theorem ggX8_isBalanced_X8_forecastAgain : GoodIn wsX8_isBalanced wsX8_forecastAgain := goodIn_r _ [159, 6, 18, 160, 161, 162, 163, 52, 164, 54, 165, 166, 55, 167, 109, 107, 108, 168, 79, 80, 81, 40, 4, 41, 169, 170, 171, 172, 57, 42, 43, 31, 32, 217, 218, 219, 220, 221, 222, 223, 224, 225, 226, 227, 228, 229, 230, 231, 232, 233, 234, 235, 236, 237, 242, 243, 244, 245, 246, 247, 248, 238, 239, 240, 241] (by decide +kernel) (by decide +kernel)
set_option maxRecDepth 20000 in
theorem gX8_isBalanced_X8_forecastAgain : GoodIn wsX8_isBalanced (wsV RX8 284 RX8 yX8_forecastAgain wsX8_forecastAgain) := goodIn_app (goodIn_of _ (by decide +kernel)) ggX8_isBalanced_X8_forecastAgain
set_option maxRecDepth 20000 in
theorem ggX8_isBalanced_X8_areGuessesTheSame : GoodIn wsX8_isBalanced wsX8_areGuessesTheSame := goodIn_r _ [176, 177, 178, 179, 4, 180, 6, 18, 181, 182, 183, 184, 126, 40, 41, 185, 186, 187, 28, 188, 189, 190, 191, 192, 30, 70, 31, 32, 193, 194, 195, 196, 197, 198, 199, 200, 201, 202, 203, 204, 205, 206, 207, 42, 43, 208, 209, 210, 211, 212, 213, 214, 215, 216, 26, 27, 29, 217, 218, 219, 220, 221, 222, 223, 224, 225, 226, 227, 228, 229, 230, 231, 232, 233, 234, 235, 236, 237, 242, 243, 244, 245, 246, 247, 248] (by decide +kernel) (by decide +kernel)
set_option maxRecDepth 20000 in
theorem gX8_isBalanced_X8_areGuessesTheSame : GoodIn wsX8_isBalanced (wsV RX8 287 RX8 yX8_areGuessesTheSame wsX8_areGuessesTheSame) := goodIn_app (goodIn_of _ (by decide +kernel)) ggX8_isBalanced_X8_areGuessesTheSame
theorem dX8_isBalanced_0 : decode cX8_isBalanced 0 = .ok (.aload_n 0, 1) := by decide +kernel
theorem dX8_isBalanced_1 : decode cX8_isBalanced 1 = .ok (.invokevirtual 274, 3) := by decide +kernel
theorem dX8_isBalanced_4 : decode cX8_isBalanced 4 = .ok (.ifCond .eq 32, 3) := by decide +kernel
theorem dX8_isBalanced_7 : decode cX8_isBalanced 7 = .ok (.aload_n 0, 1) := by decide +kernel
theorem dX8_isBalanced_8 : decode cX8_isBalanced 8 = .ok (.invokevirtual 278, 3) := by decide +kernel
theorem dX8_isBalanced_11 : decode cX8_isBalanced 11 = .ok (.ifCond .eq 25, 3) := by decide +kernel
theorem dX8_isBalanced_14 : decode cX8_isBalanced 14 = .ok (.aload_n 0, 1) := by decide +kernel
theorem dX8_isBalanced_15 : decode cX8_isBalanced 15 = .ok (.invokevirtual 281, 3) := by decide +kernel
theorem dX8_isBalanced_18 : decode cX8_isBalanced 18 = .ok (.aload_n 0, 1) := by decide +kernel
theorem dX8_isBalanced_19 : decode cX8_isBalanced 19 = .ok (.invokevirtual 284, 3) := by decide +kernel
theorem dX8_isBalanced_22 : decode cX8_isBalanced 22 = .ok (.if_icmp .ne 14, 3) := by decide +kernel
theorem dX8_isBalanced_25 : decode cX8_isBalanced 25 = .ok (.aload_n 0, 1) := by decide +kernel
theorem dX8_isBalanced_26 : decode cX8_isBalanced 26 = .ok (.invokevirtual 287, 3) := by decide +kernel
theorem dX8_isBalanced_29 : decode cX8_isBalanced 29 = .ok (.ifCond .eq 7, 3) := by decide +kernel
theorem dX8_isBalanced_32 : decode cX8_isBalanced 32 = .ok (.iconst 1, 1) := by decide +kernel
theorem dX8_isBalanced_33 : decode cX8_isBalanced 33 = .ok (.goto 4, 3) := by decide +kernel
theorem dX8_isBalanced_36 : decode cX8_isBalanced 36 = .ok (.iconst 0, 1) := by decide +kernel
theorem dX8_isBalanced_37 : decode cX8_isBalanced 37 = .ok (.istore_n 1, 1) := by decide +kernel
theorem dX8_isBalanced_38 : decode cX8_isBalanced 38 = .ok (.iload_n 1, 1) := by decide +kernel
theorem dX8_isBalanced_39 : decode cX8_isBalanced 39 = .ok (.ifCond .eq 7, 3) := by decide +kernel
theorem dX8_isBalanced_42 : decode cX8_isBalanced 42 = .ok (.iconst 1, 1) := by decide +kernel
theorem dX8_isBalanced_43 : decode cX8_isBalanced 43 = .ok (.goto 4, 3) := by decide +kernel
theorem dX8_isBalanced_46 : decode cX8_isBalanced 46 = .ok (.iconst 0, 1) := by decide +kernel
theorem dX8_isBalanced_47 : decode cX8_isBalanced 47 = .ok (.ireturn, 1) := by decide +kernel
set_option maxRecDepth 20000 in
theorem ggX8_meanRust_X8_sum : GoodIn wsX8_meanRust wsX8_sum := goodIn_r _ [8] (by decide +kernel) (by decide +kernel)
set_option maxRecDepth 20000 in
theorem gX8_meanRust_X8_sum : GoodIn wsX8_meanRust (va_wsS RX8 268 yX8_sum wsX8_sum) := goodIn_app (goodIn_of _ (by decide +kernel)) ggX8_meanRust_X8_sum
theorem dX8_meanRust_0 : decode cX8_meanRust 0 = .ok (.aload_n 0, 1) := by decide +kernel
theorem dX8_meanRust_1 : decode cX8_meanRust 1 = .ok (.getfield 12, 3) := by decide +kernel
theorem dX8_meanRust_4 : decode cX8_meanRust 4 = .ok (.getfield 75, 3) := by decide +kernel
theorem dX8_meanRust_7 : decode cX8_meanRust 7 = .ok (.getfield 160, 3) := by decide +kernel
theorem dX8_meanRust_10 : decode cX8_meanRust 10 = .ok (.istore_n 1, 1) := by decide +kernel
theorem dX8_meanRust_11 : decode cX8_meanRust 11 = .ok (.iload_n 1, 1) := by decide +kernel
theorem dX8_meanRust_12 : decode cX8_meanRust 12 = .ok (.ifCond .le 23, 3) := by decide +kernel
theorem dX8_meanRust_15 : decode cX8_meanRust 15 = .ok (.aload_n 0, 1) := by decide +kernel
theorem dX8_meanRust_16 : decode cX8_meanRust 16 = .ok (.getfield 12, 3) := by decide +kernel
theorem dX8_meanRust_19 : decode cX8_meanRust 19 = .ok (.getfield 75, 3) := by decide +kernel
theorem dX8_meanRust_22 : decode cX8_meanRust 22 = .ok (.getfield 96, 3) := by decide +kernel
theorem dX8_meanRust_25 : decode cX8_meanRust 25 = .ok (.invokestatic 268, 3) := by decide +kernel
theorem dX8_meanRust_28 : decode cX8_meanRust 28 = .ok (.i2d, 1) := by decide +kernel
theorem dX8_meanRust_29 : decode cX8_meanRust 29 = .ok (.iload_n 1, 1) := by decide +kernel
theorem dX8_meanRust_30 : decode cX8_meanRust 30 = .ok (.i2d, 1) := by decide +kernel
theorem dX8_meanRust_31 : decode cX8_meanRust 31 = .ok (.ddiv, 1) := by decide +kernel
theorem dX8_meanRust_32 : decode cX8_meanRust 32 = .ok (.goto 4, 3) := by decide +kernel
theorem dX8_meanRust_35 : decode cX8_meanRust 35 = .ok (.dconst 0, 1) := by decide +kernel
theorem dX8_meanRust_36 : decode cX8_meanRust 36 = .ok (.dreturn, 1) := by decide +kernel
theorem dX8_answerShare_0 : decode cX8_answerShare 0 = .ok (.aload_n 0, 1) := by decide +kernel
theorem dX8_answerShare_1 : decode cX8_answerShare 1 = .ok (.getfield 12, 3) := by decide +kernel
theorem dX8_answerShare_4 : decode cX8_answerShare 4 = .ok (.getfield 259, 3) := by decide +kernel
theorem dX8_answerShare_7 : decode cX8_answerShare 7 = .ok (.aload_n 0, 1) := by decide +kernel
theorem dX8_answerShare_8 : decode cX8_answerShare 8 = .ok (.getfield 12, 3) := by decide +kernel
theorem dX8_answerShare_11 : decode cX8_answerShare 11 = .ok (.getfield 261, 3) := by decide +kernel
theorem dX8_answerShare_14 : decode cX8_answerShare 14 = .ok (.iadd, 1) := by decide +kernel
theorem dX8_answerShare_15 : decode cX8_answerShare 15 = .ok (.aload_n 0, 1) := by decide +kernel
theorem dX8_answerShare_16 : decode cX8_answerShare 16 = .ok (.getfield 12, 3) := by decide +kernel
theorem dX8_answerShare_19 : decode cX8_answerShare 19 = .ok (.getfield 263, 3) := by decide +kernel
theorem dX8_answerShare_22 : decode cX8_answerShare 22 = .ok (.iadd, 1) := by decide +kernel
theorem dX8_answerShare_23 : decode cX8_answerShare 23 = .ok (.istore_n 1, 1) := by decide +kernel
theorem dX8_answerShare_24 : decode cX8_answerShare 24 = .ok (.iload_n 1, 1) := by decide +kernel
theorem dX8_answerShare_25 : decode cX8_answerShare 25 = .ok (.ifCond .le 17, 3) := by decide +kernel
theorem dX8_answerShare_28 : decode cX8_answerShare 28 = .ok (.aload_n 0, 1) := by decide +kernel
theorem dX8_answerShare_29 : decode cX8_answerShare 29 = .ok (.getfield 12, 3) := by decide +kernel
theorem dX8_answerShare_32 : decode cX8_answerShare 32 = .ok (.getfield 259, 3) := by decide +kernel
theorem dX8_answerShare_35 : decode cX8_answerShare 35 = .ok (.i2f, 1) := by decide +kernel
theorem dX8_answerShare_36 : decode cX8_answerShare 36 = .ok (.iload_n 1, 1) := by decide +kernel
theorem dX8_answerShare_37 : decode cX8_answerShare 37 = .ok (.i2f, 1) := by decide +kernel
theorem dX8_answerShare_38 : decode cX8_answerShare 38 = .ok (.fdiv, 1) := by decide +kernel
theorem dX8_answerShare_39 : decode cX8_answerShare 39 = .ok (.goto 4, 3) := by decide +kernel
theorem dX8_answerShare_42 : decode cX8_answerShare 42 = .ok (.fconst 0, 1) := by decide +kernel
theorem dX8_answerShare_43 : decode cX8_answerShare 43 = .ok (.freturn, 1) := by decide +kernel
set_option maxRecDepth 20000 in
theorem ggX8_undo_X1_stepBack : GoodIn wsX8_undo wsX1_stepBack := goodIn_r _ [8, 9, 10, 11, 12, 13, 14, 15, 16, 17, 7, 18, 19, 20, 21, 22, 23, 24, 25, 26, 27, 28, 29, 30, 31, 32, 33, 34, 35, 36, 37, 38, 39, 40, 41, 42, 43, 44, 45, 46, 47, 48, 49, 50, 51, 52, 53, 54, 55, 56, 57, 58, 59, 60, 61, 62, 63, 64, 65, 66, 67, 68, 69, 70, 71, 72, 73, 74, 75, 76, 77, 78, 79, 80, 81, 82, 83, 84, 85, 86, 87, 88, 89, 90, 91, 92, 93, 94, 95, 96, 97, 98, 99, 100, 101, 102, 103, 104, 105, 106, 116, 117, 118, 119, 120, 121, 122, 123, 124, 125, 126, 127, 128, 129, 130, 131, 132, 133, 134, 135, 136, 137, 138, 139, 140, 141, 142, 143, 144, 145, 146, 147] (by decide +kernel) (by decide +kernel)
set_option maxRecDepth 20000 in
theorem gX8_undo_X1_stepBack : GoodIn wsX8_undo (wsV RX8 290 RX1 yX1_stepBack wsX1_stepBack) := goodIn_app (goodIn_of _ (by decide +kernel)) ggX8_undo_X1_stepBack
theorem dX8_undo_0 : decode cX8_undo 0 = .ok (.aload_n 0, 1) := by decide +kernel
theorem dX8_undo_1 : decode cX8_undo 1 = .ok (.getfield 22, 3) := by decide +kernel
theorem dX8_undo_4 : decode cX8_undo 4 = .ok (.aload_n 0, 1) := by decide +kernel
theorem dX8_undo_5 : decode cX8_undo 5 = .ok (.getfield 12, 3) := by decide +kernel
theorem dX8_undo_8 : decode cX8_undo 8 = .ok (.invokevirtual 290, 3) := by decide +kernel
theorem dX8_undo_11 : decode cX8_undo 11 = .ok (.ifCond .eq 13, 3) := by decide +kernel
theorem dX8_undo_14 : decode cX8_undo 14 = .ok (.aload_n 0, 1) := by decide +kernel
theorem dX8_undo_15 : decode cX8_undo 15 = .ok (.getfield 22, 3) := by decide +kernel
theorem dX8_undo_18 : decode cX8_undo 18 = .ok (.getfield 273, 3) := by decide +kernel
theorem dX8_undo_21 : decode cX8_undo 21 = .ok (.goto 6, 3) := by decide +kernel
theorem dX8_undo_24 : decode cX8_undo 24 = .ok (.sipush (-1015), 3) := by decide +kernel
theorem dX8_undo_27 : decode cX8_undo 27 = .ok (.ireturn, 1) := by decide +kernel
set_option maxRecDepth 20000 in
theorem ggX8_save_X7_init : GoodIn wsX8_save wsX7_init := goodIn_r _ [9, 10, 11, 12, 13, 14, 15, 16, 17, 18, 19, 20, 21, 22, 23, 24, 25, 26, 27, 28, 29, 30, 31, 32, 33, 34, 35, 36, 37, 38, 39, 40, 41, 42, 43, 44, 45, 46, 47, 48, 109, 110, 111, 112, 113, 114, 115, 97, 98, 99, 100, 101, 102, 103, 104, 105, 106, 107, 108, 116, 117, 118, 119, 120, 121, 122, 123, 124, 125] (by decide +kernel) (by decide +kernel)
set_option maxRecDepth 20000 in
theorem gX8_save_X7_init_n11 : GoodIn wsX8_save (wsX7_init) := ggX8_save_X7_init
set_option maxRecDepth 20000 in
theorem ggX8_save_X7_copyFrom : GoodIn wsX8_save wsX7_copyFrom := goodIn_r _ [52, 16, 20, 24, 26, 53, 54, 55, 56, 57, 58, 59, 60, 61, 62, 63, 15, 64, 65, 30, 31, 32, 33, 34, 35, 66, 67, 68, 69, 70, 71, 72, 73, 74, 75, 76, 77, 78, 79, 19, 80, 81, 39, 40, 41, 82, 83, 84, 23, 85, 86, 87, 45, 46, 47, 48, 97, 98, 99, 100, 101, 102, 103, 104, 105, 106, 107, 108, 109, 110, 111, 112, 113, 114, 115, 116, 117, 118, 119, 120, 121, 122, 123, 124, 125] (by decide +kernel) (by decide +kernel)
set_option maxRecDepth 20000 in
theorem gX8_save_X7_copyFrom : GoodIn wsX8_save (wsV RX8 151 RX7 yX7_copyFrom wsX7_copyFrom) := goodIn_app (goodIn_of _ (by decide +kernel)) ggX8_save_X7_copyFrom
theorem dX8_save_0 : decode cX8_save 0 = .ok (.aload_n 0, 1) := by decide +kernel
theorem dX8_save_1 : decode cX8_save 1 = .ok (.getfield 294, 3) := by decide +kernel
theorem dX8_save_4 : decode cX8_save 4 = .ok (.ifnonnull 14, 3) := by decide +kernel
theorem dX8_save_7 : decode cX8_save 7 = .ok (.aload_n 0, 1) := by decide +kernel
theorem dX8_save_8 : decode cX8_save 8 = .ok (.new 9, 3) := by decide +kernel
theorem dX8_save_11 : decode cX8_save 11 = .ok (.dup, 1) := by decide +kernel
theorem dX8_save_12 : decode cX8_save 12 = .ok (.invokespecial 11, 3) := by decide +kernel
theorem dX8_save_15 : decode cX8_save 15 = .ok (.putfield 294, 3) := by decide +kernel
theorem dX8_save_18 : decode cX8_save 18 = .ok (.aload_n 0, 1) := by decide +kernel
theorem dX8_save_19 : decode cX8_save 19 = .ok (.getfield 294, 3) := by decide +kernel
theorem dX8_save_22 : decode cX8_save 22 = .ok (.aload_n 0, 1) := by decide +kernel
theorem dX8_save_23 : decode cX8_save 23 = .ok (.getfield 12, 3) := by decide +kernel
theorem dX8_save_26 : decode cX8_save 26 = .ok (.invokevirtual 151, 3) := by decide +kernel
theorem dX8_save_29 : decode cX8_save 29 = .ok (.aload_n 0, 1) := by decide +kernel
theorem dX8_save_30 : decode cX8_save 30 = .ok (.getfield 12, 3) := by decide +kernel
theorem dX8_save_33 : decode cX8_save 33 = .ok (.getfield 75, 3) := by decide +kernel
theorem dX8_save_36 : decode cX8_save 36 = .ok (.getfield 160, 3) := by decide +kernel
theorem dX8_save_39 : decode cX8_save 39 = .ok (.ireturn, 1) := by decide +kernel
set_option maxRecDepth 20000 in
theorem ggX8_restore_X7_copyFrom : GoodIn wsX8_restore wsX7_copyFrom := goodIn_r _ [11, 12, 13, 14, 15, 16, 17, 18, 19, 20, 21, 22, 23, 24, 25, 26, 27, 28, 29, 30, 31, 32, 33, 34, 35, 36, 37, 38, 39, 40, 41, 42, 43, 44, 45, 46, 47, 48, 49, 50, 51, 52, 53, 54, 55, 56, 57, 58, 59, 60, 61, 62, 63, 64, 65, 66, 79, 80, 81, 82, 83, 84, 85, 86, 87, 88, 89, 90, 91, 92, 93, 94, 95, 96, 97, 98, 99, 100, 101, 102, 103, 104, 105, 106, 107] (by decide +kernel) (by decide +kernel)
set_option maxRecDepth 20000 in
theorem gX8_restore_X7_copyFrom : GoodIn wsX8_restore (wsV RX8 151 RX7 yX7_copyFrom wsX7_copyFrom) := goodIn_app (goodIn_of _ (by decide +kernel)) ggX8_restore_X7_copyFrom
theorem dX8_restore_0 : decode cX8_restore 0 = .ok (.aload_n 0, 1) := by decide +kernel
theorem dX8_restore_1 : decode cX8_restore 1 = .ok (.getfield 294, 3) := by decide +kernel
theorem dX8_restore_4 : decode cX8_restore 4 = .ok (.ifnonnull 7, 3) := by decide +kernel
theorem dX8_restore_7 : decode cX8_restore 7 = .ok (.sipush (-1015), 3) := by decide +kernel
theorem dX8_restore_10 : decode cX8_restore 10 = .ok (.ireturn, 1) := by decide +kernel
theorem dX8_restore_11 : decode cX8_restore 11 = .ok (.aload_n 0, 1) := by decide +kernel
theorem dX8_restore_12 : decode cX8_restore 12 = .ok (.getfield 12, 3) := by decide +kernel
theorem dX8_restore_15 : decode cX8_restore 15 = .ok (.aload_n 0, 1) := by decide +kernel
theorem dX8_restore_16 : decode cX8_restore 16 = .ok (.getfield 294, 3) := by decide +kernel
theorem dX8_restore_19 : decode cX8_restore 19 = .ok (.invokevirtual 151, 3) := by decide +kernel
theorem dX8_restore_22 : decode cX8_restore 22 = .ok (.aload_n 0, 1) := by decide +kernel
theorem dX8_restore_23 : decode cX8_restore 23 = .ok (.getfield 22, 3) := by decide +kernel
theorem dX8_restore_26 : decode cX8_restore 26 = .ok (.iconst 0, 1) := by decide +kernel
theorem dX8_restore_27 : decode cX8_restore 27 = .ok (.putfield 273, 3) := by decide +kernel
theorem dX8_restore_30 : decode cX8_restore 30 = .ok (.aload_n 0, 1) := by decide +kernel
theorem dX8_restore_31 : decode cX8_restore 31 = .ok (.getfield 12, 3) := by decide +kernel
theorem dX8_restore_34 : decode cX8_restore 34 = .ok (.getfield 75, 3) := by decide +kernel
theorem dX8_restore_37 : decode cX8_restore 37 = .ok (.getfield 160, 3) := by decide +kernel
theorem dX8_restore_40 : decode cX8_restore 40 = .ok (.ireturn, 1) := by decide +kernel
set_option maxRecDepth 20000 in
theorem ggX8_settle_X1_keep : GoodIn wsX8_settle wsX1_keep := goodIn_r _ [6, 7, 8, 9, 10, 11, 12, 13, 14, 15, 16, 26, 27, 28] (by decide +kernel) (by decide +kernel)
set_option maxRecDepth 20000 in
theorem gX8_settle_X1_keep : GoodIn wsX8_settle (wsV RX8 297 RX1 yX1_keep wsX1_keep) := goodIn_app (goodIn_of _ (by decide +kernel)) ggX8_settle_X1_keep
theorem dX8_settle_0 : decode cX8_settle 0 = .ok (.iload_n 1, 1) := by decide +kernel
theorem dX8_settle_1 : decode cX8_settle 1 = .ok (.ifCond .lt 10, 3) := by decide +kernel
theorem dX8_settle_4 : decode cX8_settle 4 = .ok (.aload_n 0, 1) := by decide +kernel
theorem dX8_settle_5 : decode cX8_settle 5 = .ok (.getfield 22, 3) := by decide +kernel
theorem dX8_settle_8 : decode cX8_settle 8 = .ok (.invokevirtual 297, 3) := by decide +kernel
theorem dX8_settle_11 : decode cX8_settle 11 = .ok (.iload_n 1, 1) := by decide +kernel
theorem dX8_settle_12 : decode cX8_settle 12 = .ok (.ireturn, 1) := by decide +kernel
theorem dX8_refuse_0 : decode cX8_refuse 0 = .ok (.aload_n 0, 1) := by decide +kernel
theorem dX8_refuse_1 : decode cX8_refuse 1 = .ok (.iload_n 1, 1) := by decide +kernel
theorem dX8_refuse_2 : decode cX8_refuse 2 = .ok (.putfield 47, 3) := by decide +kernel
theorem dX8_refuse_5 : decode cX8_refuse 5 = .ok (.aload_n 0, 1) := by decide +kernel
theorem dX8_refuse_6 : decode cX8_refuse 6 = .ok (.iload_n 2, 1) := by decide +kernel
theorem dX8_refuse_7 : decode cX8_refuse 7 = .ok (.putfield 51, 3) := by decide +kernel
theorem dX8_refuse_10 : decode cX8_refuse 10 = .ok (.sipush (-1014), 3) := by decide +kernel
theorem dX8_refuse_13 : decode cX8_refuse 13 = .ok (.ireturn, 1) := by decide +kernel
set_option maxRecDepth 20000 in
theorem ggX8_bringRope_X8_isParish : GoodIn wsX8_bringRope wsX8_isParish := goodIn_r _ [7] (by decide +kernel) (by decide +kernel)
set_option maxRecDepth 20000 in
theorem gX8_bringRope_X8_isParish : GoodIn wsX8_bringRope (va_wsS RX8 192 yX8_isParish wsX8_isParish) := goodIn_app (goodIn_of _ (by decide +kernel)) ggX8_bringRope_X8_isParish
set_option maxRecDepth 20000 in
theorem ggX8_bringRope_X8_refuse : GoodIn wsX8_bringRope wsX8_refuse := goodIn_r _ [11, 12, 13, 24, 25, 26, 27, 28, 29, 30, 31, 32] (by decide +kernel) (by decide +kernel)
set_option maxRecDepth 20000 in
theorem gX8_bringRope_X8_refuse : GoodIn wsX8_bringRope (wsV RX8 235 RX8 yX8_refuse wsX8_refuse) := goodIn_app (goodIn_of _ (by decide +kernel)) ggX8_bringRope_X8_refuse
set_option maxRecDepth 20000 in
theorem ggX8_bringRope_X5_bring : GoodIn wsX8_bringRope wsX5_bring := goodIn_r _ [18, 19, 20, 21, 22, 6, 23, 45, 46, 47, 48, 49, 50, 51] (by decide +kernel) (by decide +kernel)
set_option maxRecDepth 20000 in
theorem gX8_bringRope_X5_bring : GoodIn wsX8_bringRope (wsV RX8 300 RX5 yX5_bring wsX5_bring) := goodIn_app (goodIn_of _ (by decide +kernel)) ggX8_bringRope_X5_bring
theorem dX8_bringRope_0 : decode cX8_bringRope 0 = .ok (.iload_n 1, 1) := by decide +kernel
theorem dX8_bringRope_1 : decode cX8_bringRope 1 = .ok (.invokestatic 192, 3) := by decide +kernel
theorem dX8_bringRope_4 : decode cX8_bringRope 4 = .ok (.ifCond .ne 7, 3) := by decide +kernel
theorem dX8_bringRope_7 : decode cX8_bringRope 7 = .ok (.sipush (-1012), 3) := by decide +kernel
theorem dX8_bringRope_10 : decode cX8_bringRope 10 = .ok (.ireturn, 1) := by decide +kernel
theorem dX8_bringRope_11 : decode cX8_bringRope 11 = .ok (.aload_n 0, 1) := by decide +kernel
theorem dX8_bringRope_12 : decode cX8_bringRope 12 = .ok (.getfield 12, 3) := by decide +kernel
theorem dX8_bringRope_15 : decode cX8_bringRope 15 = .ok (.getfield 75, 3) := by decide +kernel
theorem dX8_bringRope_18 : decode cX8_bringRope 18 = .ok (.getfield 160, 3) := by decide +kernel
theorem dX8_bringRope_21 : decode cX8_bringRope 21 = .ok (.bipush 12, 2) := by decide +kernel
theorem dX8_bringRope_23 : decode cX8_bringRope 23 = .ok (.if_icmp .lt 11, 3) := by decide +kernel
theorem dX8_bringRope_26 : decode cX8_bringRope 26 = .ok (.aload_n 0, 1) := by decide +kernel
theorem dX8_bringRope_27 : decode cX8_bringRope 27 = .ok (.iconst 1, 1) := by decide +kernel
theorem dX8_bringRope_28 : decode cX8_bringRope 28 = .ok (.bipush 12, 2) := by decide +kernel
theorem dX8_bringRope_30 : decode cX8_bringRope 30 = .ok (.invokevirtual 235, 3) := by decide +kernel
theorem dX8_bringRope_33 : decode cX8_bringRope 33 = .ok (.ireturn, 1) := by decide +kernel
theorem dX8_bringRope_34 : decode cX8_bringRope 34 = .ok (.aload_n 0, 1) := by decide +kernel
theorem dX8_bringRope_35 : decode cX8_bringRope 35 = .ok (.getfield 12, 3) := by decide +kernel
theorem dX8_bringRope_38 : decode cX8_bringRope 38 = .ok (.getfield 75, 3) := by decide +kernel
theorem dX8_bringRope_41 : decode cX8_bringRope 41 = .ok (.iload_n 1, 1) := by decide +kernel
theorem dX8_bringRope_42 : decode cX8_bringRope 42 = .ok (.invokevirtual 300, 3) := by decide +kernel
theorem dX8_bringRope_45 : decode cX8_bringRope 45 = .ok (.ireturn, 1) := by decide +kernel
set_option maxRecDepth 20000 in
theorem ggX8_giveRope_X5_has : GoodIn wsX8_giveRope wsX5_has := goodIn_r _ [8, 9, 47, 48, 49, 50, 51, 52, 53] (by decide +kernel) (by decide +kernel)
set_option maxRecDepth 20000 in
theorem gX8_giveRope_X5_has : GoodIn wsX8_giveRope (wsV RX8 79 RX5 yX5_has wsX5_has) := goodIn_app (goodIn_of _ (by decide +kernel)) ggX8_giveRope_X5_has
set_option maxRecDepth 20000 in
theorem ggX8_giveRope_X8_isParish : GoodIn wsX8_giveRope wsX8_isParish := goodIn_r _ [13] (by decide +kernel) (by decide +kernel)
set_option maxRecDepth 20000 in
theorem gX8_giveRope_X8_isParish : GoodIn wsX8_giveRope (va_wsS RX8 192 yX8_isParish wsX8_isParish) := goodIn_app (goodIn_of _ (by decide +kernel)) ggX8_giveRope_X8_isParish
set_option maxRecDepth 20000 in
theorem ggX8_giveRope_X8_at : GoodIn wsX8_giveRope wsX8_at := goodIn_r _ [16] (by decide +kernel) (by decide +kernel)
set_option maxRecDepth 20000 in
theorem gX8_giveRope_X8_at : GoodIn wsX8_giveRope (va_wsS RX8 89 yX8_at wsX8_at) := goodIn_app (goodIn_of _ (by decide +kernel)) ggX8_giveRope_X8_at
set_option maxRecDepth 20000 in
theorem ggX8_giveRope_X8_refuse : GoodIn wsX8_giveRope wsX8_refuse := goodIn_r _ [20, 21, 22, 26, 27, 28, 29, 30, 31, 32, 33, 34] (by decide +kernel) (by decide +kernel)
set_option maxRecDepth 20000 in
theorem gX8_giveRope_X8_refuse : GoodIn wsX8_giveRope (wsV RX8 235 RX8 yX8_refuse wsX8_refuse) := goodIn_app (goodIn_of _ (by decide +kernel)) ggX8_giveRope_X8_refuse
set_option maxRecDepth 20000 in
theorem ggX8_giveRope_X8_put : GoodIn wsX8_giveRope wsX8_put := goodIn_r _ [25] (by decide +kernel) (by decide +kernel)
set_option maxRecDepth 20000 in
theorem gX8_giveRope_X8_put : GoodIn wsX8_giveRope (va_wsS RX8 303 yX8_put wsX8_put) := goodIn_app (goodIn_of _ (by decide +kernel)) ggX8_giveRope_X8_put
theorem dX8_giveRope_0 : decode cX8_giveRope 0 = .ok (.aload_n 0, 1) := by decide +kernel
theorem dX8_giveRope_1 : decode cX8_giveRope 1 = .ok (.getfield 12, 3) := by decide +kernel
theorem dX8_giveRope_4 : decode cX8_giveRope 4 = .ok (.getfield 75, 3) := by decide +kernel
theorem dX8_giveRope_7 : decode cX8_giveRope 7 = .ok (.iload_n 1, 1) := by decide +kernel
theorem dX8_giveRope_8 : decode cX8_giveRope 8 = .ok (.invokevirtual 79, 3) := by decide +kernel
theorem dX8_giveRope_11 : decode cX8_giveRope 11 = .ok (.ifCond .ne 7, 3) := by decide +kernel
theorem dX8_giveRope_14 : decode cX8_giveRope 14 = .ok (.sipush (-1011), 3) := by decide +kernel
theorem dX8_giveRope_17 : decode cX8_giveRope 17 = .ok (.ireturn, 1) := by decide +kernel
theorem dX8_giveRope_18 : decode cX8_giveRope 18 = .ok (.iload_n 2, 1) := by decide +kernel
theorem dX8_giveRope_19 : decode cX8_giveRope 19 = .ok (.invokestatic 192, 3) := by decide +kernel
theorem dX8_giveRope_22 : decode cX8_giveRope 22 = .ok (.ifCond .ne 7, 3) := by decide +kernel
theorem dX8_giveRope_25 : decode cX8_giveRope 25 = .ok (.sipush (-1012), 3) := by decide +kernel
theorem dX8_giveRope_28 : decode cX8_giveRope 28 = .ok (.ireturn, 1) := by decide +kernel
theorem dX8_giveRope_29 : decode cX8_giveRope 29 = .ok (.aload_n 0, 1) := by decide +kernel
theorem dX8_giveRope_30 : decode cX8_giveRope 30 = .ok (.getfield 12, 3) := by decide +kernel
theorem dX8_giveRope_33 : decode cX8_giveRope 33 = .ok (.getfield 75, 3) := by decide +kernel
theorem dX8_giveRope_36 : decode cX8_giveRope 36 = .ok (.getfield 85, 3) := by decide +kernel
theorem dX8_giveRope_39 : decode cX8_giveRope 39 = .ok (.iload_n 1, 1) := by decide +kernel
theorem dX8_giveRope_40 : decode cX8_giveRope 40 = .ok (.invokestatic 89, 3) := by decide +kernel
theorem dX8_giveRope_43 : decode cX8_giveRope 43 = .ok (.istore_n 3, 1) := by decide +kernel
theorem dX8_giveRope_44 : decode cX8_giveRope 44 = .ok (.iload_n 3, 1) := by decide +kernel
theorem dX8_giveRope_45 : decode cX8_giveRope 45 = .ok (.iload_n 2, 1) := by decide +kernel
theorem dX8_giveRope_46 : decode cX8_giveRope 46 = .ok (.if_icmp .ne 10, 3) := by decide +kernel
theorem dX8_giveRope_49 : decode cX8_giveRope 49 = .ok (.aload_n 0, 1) := by decide +kernel
theorem dX8_giveRope_50 : decode cX8_giveRope 50 = .ok (.iconst 4, 1) := by decide +kernel
theorem dX8_giveRope_51 : decode cX8_giveRope 51 = .ok (.iload_n 2, 1) := by decide +kernel
theorem dX8_giveRope_52 : decode cX8_giveRope 52 = .ok (.invokevirtual 235, 3) := by decide +kernel
theorem dX8_giveRope_55 : decode cX8_giveRope 55 = .ok (.ireturn, 1) := by decide +kernel
theorem dX8_giveRope_56 : decode cX8_giveRope 56 = .ok (.aload_n 0, 1) := by decide +kernel
theorem dX8_giveRope_57 : decode cX8_giveRope 57 = .ok (.getfield 12, 3) := by decide +kernel
theorem dX8_giveRope_60 : decode cX8_giveRope 60 = .ok (.getfield 75, 3) := by decide +kernel
theorem dX8_giveRope_63 : decode cX8_giveRope 63 = .ok (.getfield 85, 3) := by decide +kernel
theorem dX8_giveRope_66 : decode cX8_giveRope 66 = .ok (.iload_n 1, 1) := by decide +kernel
theorem dX8_giveRope_67 : decode cX8_giveRope 67 = .ok (.iload_n 2, 1) := by decide +kernel
theorem dX8_giveRope_68 : decode cX8_giveRope 68 = .ok (.invokestatic 303, 3) := by decide +kernel
theorem dX8_giveRope_71 : decode cX8_giveRope 71 = .ok (.iload_n 3, 1) := by decide +kernel
theorem dX8_giveRope_72 : decode cX8_giveRope 72 = .ok (.ireturn, 1) := by decide +kernel
set_option maxRecDepth 20000 in
theorem ggX8_switchSensor_X5_has : GoodIn wsX8_switchSensor wsX5_has := goodIn_r _ [8, 9, 47, 48, 49, 50, 51, 52, 53] (by decide +kernel) (by decide +kernel)
set_option maxRecDepth 20000 in
theorem gX8_switchSensor_X5_has : GoodIn wsX8_switchSensor (wsV RX8 79 RX5 yX5_has wsX5_has) := goodIn_app (goodIn_of _ (by decide +kernel)) ggX8_switchSensor_X5_has
set_option maxRecDepth 20000 in
theorem ggX8_switchSensor_X8_at : GoodIn wsX8_switchSensor wsX8_at := goodIn_r _ [13] (by decide +kernel) (by decide +kernel)
set_option maxRecDepth 20000 in
theorem gX8_switchSensor_X8_at : GoodIn wsX8_switchSensor (va_wsS RX8 89 yX8_at wsX8_at) := goodIn_app (goodIn_of _ (by decide +kernel)) ggX8_switchSensor_X8_at
set_option maxRecDepth 20000 in
theorem ggX8_switchSensor_X8_refuse : GoodIn wsX8_switchSensor wsX8_refuse := goodIn_r _ [17, 18, 19, 26, 27, 28, 29, 30, 31, 32, 33, 34] (by decide +kernel) (by decide +kernel)
set_option maxRecDepth 20000 in
theorem gX8_switchSensor_X8_refuse : GoodIn wsX8_switchSensor (wsV RX8 235 RX8 yX8_refuse wsX8_refuse) := goodIn_app (goodIn_of _ (by decide +kernel)) ggX8_switchSensor_X8_refuse
set_option maxRecDepth 20000 in
theorem ggX8_switchSensor_X8_put : GoodIn wsX8_switchSensor wsX8_put := goodIn_r _ [22] (by decide +kernel) (by decide +kernel)
set_option maxRecDepth 20000 in
theorem gX8_switchSensor_X8_put : GoodIn wsX8_switchSensor (va_wsS RX8 303 yX8_put wsX8_put) := goodIn_app (goodIn_of _ (by decide +kernel)) ggX8_switchSensor_X8_put
set_option maxRecDepth 20000 in
theorem ggX8_switchSensor_X8_sum : GoodIn wsX8_switchSensor wsX8_sum := goodIn_r _ [25] (by decide +kernel) (by decide +kernel)
set_option maxRecDepth 20000 in
theorem gX8_switchSensor_X8_sum : GoodIn wsX8_switchSensor (va_wsS RX8 268 yX8_sum wsX8_sum) := goodIn_app (goodIn_of _ (by decide +kernel)) ggX8_switchSensor_X8_sum
theorem dX8_switchSensor_0 : decode cX8_switchSensor 0 = .ok (.aload_n 0, 1) := by decide +kernel
theorem dX8_switchSensor_1 : decode cX8_switchSensor 1 = .ok (.getfield 12, 3) := by decide +kernel
theorem dX8_switchSensor_4 : decode cX8_switchSensor 4 = .ok (.getfield 75, 3) := by decide +kernel
theorem dX8_switchSensor_7 : decode cX8_switchSensor 7 = .ok (.iload_n 1, 1) := by decide +kernel
theorem dX8_switchSensor_8 : decode cX8_switchSensor 8 = .ok (.invokevirtual 79, 3) := by decide +kernel
theorem dX8_switchSensor_11 : decode cX8_switchSensor 11 = .ok (.ifCond .ne 7, 3) := by decide +kernel
theorem dX8_switchSensor_14 : decode cX8_switchSensor 14 = .ok (.sipush (-1011), 3) := by decide +kernel
theorem dX8_switchSensor_17 : decode cX8_switchSensor 17 = .ok (.ireturn, 1) := by decide +kernel
theorem dX8_switchSensor_18 : decode cX8_switchSensor 18 = .ok (.iload_n 2, 1) := by decide +kernel
theorem dX8_switchSensor_19 : decode cX8_switchSensor 19 = .ok (.ifCond .eq 12, 3) := by decide +kernel
theorem dX8_switchSensor_22 : decode cX8_switchSensor 22 = .ok (.iload_n 2, 1) := by decide +kernel
theorem dX8_switchSensor_23 : decode cX8_switchSensor 23 = .ok (.iconst 1, 1) := by decide +kernel
theorem dX8_switchSensor_24 : decode cX8_switchSensor 24 = .ok (.if_icmp .eq 7, 3) := by decide +kernel
theorem dX8_switchSensor_27 : decode cX8_switchSensor 27 = .ok (.sipush (-1012), 3) := by decide +kernel
theorem dX8_switchSensor_30 : decode cX8_switchSensor 30 = .ok (.ireturn, 1) := by decide +kernel
theorem dX8_switchSensor_31 : decode cX8_switchSensor 31 = .ok (.aload_n 0, 1) := by decide +kernel
theorem dX8_switchSensor_32 : decode cX8_switchSensor 32 = .ok (.getfield 12, 3) := by decide +kernel
theorem dX8_switchSensor_35 : decode cX8_switchSensor 35 = .ok (.getfield 75, 3) := by decide +kernel
theorem dX8_switchSensor_38 : decode cX8_switchSensor 38 = .ok (.getfield 93, 3) := by decide +kernel
theorem dX8_switchSensor_41 : decode cX8_switchSensor 41 = .ok (.iload_n 1, 1) := by decide +kernel
theorem dX8_switchSensor_42 : decode cX8_switchSensor 42 = .ok (.invokestatic 89, 3) := by decide +kernel
theorem dX8_switchSensor_45 : decode cX8_switchSensor 45 = .ok (.iload_n 2, 1) := by decide +kernel
theorem dX8_switchSensor_46 : decode cX8_switchSensor 46 = .ok (.if_icmp .ne 10, 3) := by decide +kernel
theorem dX8_switchSensor_49 : decode cX8_switchSensor 49 = .ok (.aload_n 0, 1) := by decide +kernel
theorem dX8_switchSensor_50 : decode cX8_switchSensor 50 = .ok (.iconst 4, 1) := by decide +kernel
theorem dX8_switchSensor_51 : decode cX8_switchSensor 51 = .ok (.iload_n 2, 1) := by decide +kernel
theorem dX8_switchSensor_52 : decode cX8_switchSensor 52 = .ok (.invokevirtual 235, 3) := by decide +kernel
theorem dX8_switchSensor_55 : decode cX8_switchSensor 55 = .ok (.ireturn, 1) := by decide +kernel
theorem dX8_switchSensor_56 : decode cX8_switchSensor 56 = .ok (.aload_n 0, 1) := by decide +kernel
theorem dX8_switchSensor_57 : decode cX8_switchSensor 57 = .ok (.getfield 12, 3) := by decide +kernel
theorem dX8_switchSensor_60 : decode cX8_switchSensor 60 = .ok (.getfield 75, 3) := by decide +kernel
theorem dX8_switchSensor_63 : decode cX8_switchSensor 63 = .ok (.getfield 93, 3) := by decide +kernel
theorem dX8_switchSensor_66 : decode cX8_switchSensor 66 = .ok (.iload_n 1, 1) := by decide +kernel
theorem dX8_switchSensor_67 : decode cX8_switchSensor 67 = .ok (.iload_n 2, 1) := by decide +kernel
theorem dX8_switchSensor_68 : decode cX8_switchSensor 68 = .ok (.invokestatic 303, 3) := by decide +kernel
theorem dX8_switchSensor_71 : decode cX8_switchSensor 71 = .ok (.aload_n 0, 1) := by decide +kernel
theorem dX8_switchSensor_72 : decode cX8_switchSensor 72 = .ok (.getfield 12, 3) := by decide +kernel
theorem dX8_switchSensor_75 : decode cX8_switchSensor 75 = .ok (.getfield 75, 3) := by decide +kernel
theorem dX8_switchSensor_78 : decode cX8_switchSensor 78 = .ok (.getfield 93, 3) := by decide +kernel
theorem dX8_switchSensor_81 : decode cX8_switchSensor 81 = .ok (.invokestatic 268, 3) := by decide +kernel
theorem dX8_switchSensor_84 : decode cX8_switchSensor 84 = .ok (.ireturn, 1) := by decide +kernel
set_option maxRecDepth 20000 in
theorem ggX8_oilRope_X5_has : GoodIn wsX8_oilRope wsX5_has := goodIn_r _ [8, 9, 44, 45, 46, 47, 48, 49, 50] (by decide +kernel) (by decide +kernel)
set_option maxRecDepth 20000 in
theorem gX8_oilRope_X5_has : GoodIn wsX8_oilRope (wsV RX8 79 RX5 yX5_has wsX5_has) := goodIn_app (goodIn_of _ (by decide +kernel)) ggX8_oilRope_X5_has
set_option maxRecDepth 20000 in
theorem ggX8_oilRope_X8_at : GoodIn wsX8_oilRope wsX8_at := goodIn_r _ [13] (by decide +kernel) (by decide +kernel)
set_option maxRecDepth 20000 in
theorem gX8_oilRope_X8_at : GoodIn wsX8_oilRope (va_wsS RX8 89 yX8_at wsX8_at) := goodIn_app (goodIn_of _ (by decide +kernel)) ggX8_oilRope_X8_at
set_option maxRecDepth 20000 in
theorem ggX8_oilRope_X8_refuse : GoodIn wsX8_oilRope wsX8_refuse := goodIn_r _ [17, 18, 19, 23, 24, 25, 26, 27, 28, 29, 30, 31] (by decide +kernel) (by decide +kernel)
set_option maxRecDepth 20000 in
theorem gX8_oilRope_X8_refuse : GoodIn wsX8_oilRope (wsV RX8 235 RX8 yX8_refuse wsX8_refuse) := goodIn_app (goodIn_of _ (by decide +kernel)) ggX8_oilRope_X8_refuse
set_option maxRecDepth 20000 in
theorem ggX8_oilRope_X8_put : GoodIn wsX8_oilRope wsX8_put := goodIn_r _ [22] (by decide +kernel) (by decide +kernel)
set_option maxRecDepth 20000 in
theorem gX8_oilRope_X8_put : GoodIn wsX8_oilRope (va_wsS RX8 303 yX8_put wsX8_put) := goodIn_app (goodIn_of _ (by decide +kernel)) ggX8_oilRope_X8_put
theorem dX8_oilRope_0 : decode cX8_oilRope 0 = .ok (.aload_n 0, 1) := by decide +kernel
theorem dX8_oilRope_1 : decode cX8_oilRope 1 = .ok (.getfield 12, 3) := by decide +kernel
theorem dX8_oilRope_4 : decode cX8_oilRope 4 = .ok (.getfield 75, 3) := by decide +kernel
theorem dX8_oilRope_7 : decode cX8_oilRope 7 = .ok (.iload_n 1, 1) := by decide +kernel
theorem dX8_oilRope_8 : decode cX8_oilRope 8 = .ok (.invokevirtual 79, 3) := by decide +kernel
theorem dX8_oilRope_11 : decode cX8_oilRope 11 = .ok (.ifCond .ne 7, 3) := by decide +kernel
theorem dX8_oilRope_14 : decode cX8_oilRope 14 = .ok (.sipush (-1011), 3) := by decide +kernel
theorem dX8_oilRope_17 : decode cX8_oilRope 17 = .ok (.ireturn, 1) := by decide +kernel
theorem dX8_oilRope_18 : decode cX8_oilRope 18 = .ok (.iload_n 2, 1) := by decide +kernel
theorem dX8_oilRope_19 : decode cX8_oilRope 19 = .ok (.iconst 1, 1) := by decide +kernel
theorem dX8_oilRope_20 : decode cX8_oilRope 20 = .ok (.if_icmp .lt 9, 3) := by decide +kernel
theorem dX8_oilRope_23 : decode cX8_oilRope 23 = .ok (.iload_n 2, 1) := by decide +kernel
theorem dX8_oilRope_24 : decode cX8_oilRope 24 = .ok (.bipush 9, 2) := by decide +kernel
theorem dX8_oilRope_26 : decode cX8_oilRope 26 = .ok (.if_icmp .le 7, 3) := by decide +kernel
theorem dX8_oilRope_29 : decode cX8_oilRope 29 = .ok (.sipush (-1012), 3) := by decide +kernel
theorem dX8_oilRope_32 : decode cX8_oilRope 32 = .ok (.ireturn, 1) := by decide +kernel
theorem dX8_oilRope_33 : decode cX8_oilRope 33 = .ok (.aload_n 0, 1) := by decide +kernel
theorem dX8_oilRope_34 : decode cX8_oilRope 34 = .ok (.getfield 12, 3) := by decide +kernel
theorem dX8_oilRope_37 : decode cX8_oilRope 37 = .ok (.getfield 75, 3) := by decide +kernel
theorem dX8_oilRope_40 : decode cX8_oilRope 40 = .ok (.getfield 96, 3) := by decide +kernel
theorem dX8_oilRope_43 : decode cX8_oilRope 43 = .ok (.iload_n 1, 1) := by decide +kernel
theorem dX8_oilRope_44 : decode cX8_oilRope 44 = .ok (.invokestatic 89, 3) := by decide +kernel
theorem dX8_oilRope_47 : decode cX8_oilRope 47 = .ok (.istore_n 3, 1) := by decide +kernel
theorem dX8_oilRope_48 : decode cX8_oilRope 48 = .ok (.iload_n 3, 1) := by decide +kernel
theorem dX8_oilRope_49 : decode cX8_oilRope 49 = .ok (.iload_n 2, 1) := by decide +kernel
theorem dX8_oilRope_50 : decode cX8_oilRope 50 = .ok (.if_icmp .ge 10, 3) := by decide +kernel
theorem dX8_oilRope_53 : decode cX8_oilRope 53 = .ok (.aload_n 0, 1) := by decide +kernel
theorem dX8_oilRope_54 : decode cX8_oilRope 54 = .ok (.iconst 5, 1) := by decide +kernel
theorem dX8_oilRope_55 : decode cX8_oilRope 55 = .ok (.iload_n 3, 1) := by decide +kernel
theorem dX8_oilRope_56 : decode cX8_oilRope 56 = .ok (.invokevirtual 235, 3) := by decide +kernel
theorem dX8_oilRope_59 : decode cX8_oilRope 59 = .ok (.ireturn, 1) := by decide +kernel
theorem dX8_oilRope_60 : decode cX8_oilRope 60 = .ok (.aload_n 0, 1) := by decide +kernel
theorem dX8_oilRope_61 : decode cX8_oilRope 61 = .ok (.getfield 12, 3) := by decide +kernel
theorem dX8_oilRope_64 : decode cX8_oilRope 64 = .ok (.getfield 75, 3) := by decide +kernel
theorem dX8_oilRope_67 : decode cX8_oilRope 67 = .ok (.getfield 96, 3) := by decide +kernel
theorem dX8_oilRope_70 : decode cX8_oilRope 70 = .ok (.iload_n 1, 1) := by decide +kernel
theorem dX8_oilRope_71 : decode cX8_oilRope 71 = .ok (.iload_n 3, 1) := by decide +kernel
theorem dX8_oilRope_72 : decode cX8_oilRope 72 = .ok (.iload_n 2, 1) := by decide +kernel
theorem dX8_oilRope_73 : decode cX8_oilRope 73 = .ok (.isub, 1) := by decide +kernel
theorem dX8_oilRope_74 : decode cX8_oilRope 74 = .ok (.invokestatic 303, 3) := by decide +kernel
theorem dX8_oilRope_77 : decode cX8_oilRope 77 = .ok (.iload_n 3, 1) := by decide +kernel
theorem dX8_oilRope_78 : decode cX8_oilRope 78 = .ok (.iload_n 2, 1) := by decide +kernel
theorem dX8_oilRope_79 : decode cX8_oilRope 79 = .ok (.isub, 1) := by decide +kernel
theorem dX8_oilRope_80 : decode cX8_oilRope 80 = .ok (.ireturn, 1) := by decide +kernel
set_option maxRecDepth 20000 in
theorem ggX8_letWait_X5_has : GoodIn wsX8_letWait wsX5_has := goodIn_r _ [11, 12, 72, 73, 74, 75, 76, 77, 78] (by decide +kernel) (by decide +kernel)
set_option maxRecDepth 20000 in
theorem gX8_letWait_X5_has : GoodIn wsX8_letWait (wsV RX8 79 RX5 yX5_has wsX5_has) := goodIn_app (goodIn_of _ (by decide +kernel)) ggX8_letWait_X5_has
set_option maxRecDepth 20000 in
theorem ggX8_letWait_X8_isHour : GoodIn wsX8_letWait wsX8_isHour := goodIn_r _ [16] (by decide +kernel) (by decide +kernel)
set_option maxRecDepth 20000 in
theorem gX8_letWait_X8_isHour : GoodIn wsX8_letWait (va_wsS RX8 180 yX8_isHour wsX8_isHour) := goodIn_app (goodIn_of _ (by decide +kernel)) ggX8_letWait_X8_isHour
set_option maxRecDepth 20000 in
theorem ggX8_letWait_X8_isStrength : GoodIn wsX8_letWait wsX8_isStrength := goodIn_r _ [19] (by decide +kernel) (by decide +kernel)
set_option maxRecDepth 20000 in
theorem gX8_letWait_X8_isStrength : GoodIn wsX8_letWait (va_wsS RX8 144 yX8_isStrength wsX8_isStrength) := goodIn_app (goodIn_of _ (by decide +kernel)) ggX8_letWait_X8_isStrength
set_option maxRecDepth 20000 in
theorem ggX8_letWait_X8_refuse : GoodIn wsX8_letWait wsX8_refuse := goodIn_r _ [23, 24, 25, 47, 48, 49, 50, 51, 52, 53, 54, 55] (by decide +kernel) (by decide +kernel)
set_option maxRecDepth 20000 in
theorem gX8_letWait_X8_refuse : GoodIn wsX8_letWait (wsV RX8 235 RX8 yX8_refuse wsX8_refuse) := goodIn_app (goodIn_of _ (by decide +kernel)) ggX8_letWait_X8_refuse
set_option maxRecDepth 20000 in
theorem ggX8_letWait_X4_insert : GoodIn wsX8_letWait wsX4_insert := goodIn_r _ [30, 31, 32, 33, 34, 35, 36, 37, 29, 38, 39, 15, 40, 41, 42, 43, 44, 45, 46, 68, 69, 70, 71] (by decide +kernel) (by decide +kernel)
set_option maxRecDepth 20000 in
theorem gX8_letWait_X4_insert : GoodIn wsX8_letWait (wsV RX8 307 RX4 yX4_insert wsX4_insert) := goodIn_app (goodIn_of _ (by decide +kernel)) ggX8_letWait_X4_insert
theorem dX8_letWait_0 : decode cX8_letWait 0 = .ok (.aload_n 0, 1) := by decide +kernel
theorem dX8_letWait_1 : decode cX8_letWait 1 = .ok (.getfield 12, 3) := by decide +kernel
theorem dX8_letWait_4 : decode cX8_letWait 4 = .ok (.getfield 75, 3) := by decide +kernel
theorem dX8_letWait_7 : decode cX8_letWait 7 = .ok (.iload_n 1, 1) := by decide +kernel
theorem dX8_letWait_8 : decode cX8_letWait 8 = .ok (.invokevirtual 79, 3) := by decide +kernel
theorem dX8_letWait_11 : decode cX8_letWait 11 = .ok (.ifCond .ne 7, 3) := by decide +kernel
theorem dX8_letWait_14 : decode cX8_letWait 14 = .ok (.sipush (-1011), 3) := by decide +kernel
theorem dX8_letWait_17 : decode cX8_letWait 17 = .ok (.ireturn, 1) := by decide +kernel
theorem dX8_letWait_18 : decode cX8_letWait 18 = .ok (.iload_n 2, 1) := by decide +kernel
theorem dX8_letWait_19 : decode cX8_letWait 19 = .ok (.invokestatic 180, 3) := by decide +kernel
theorem dX8_letWait_22 : decode cX8_letWait 22 = .ok (.ifCond .eq 10, 3) := by decide +kernel
theorem dX8_letWait_25 : decode cX8_letWait 25 = .ok (.iload_n 3, 1) := by decide +kernel
theorem dX8_letWait_26 : decode cX8_letWait 26 = .ok (.invokestatic 144, 3) := by decide +kernel
theorem dX8_letWait_29 : decode cX8_letWait 29 = .ok (.ifCond .ne 7, 3) := by decide +kernel
theorem dX8_letWait_32 : decode cX8_letWait 32 = .ok (.sipush (-1012), 3) := by decide +kernel
theorem dX8_letWait_35 : decode cX8_letWait 35 = .ok (.ireturn, 1) := by decide +kernel
theorem dX8_letWait_36 : decode cX8_letWait 36 = .ok (.iload_n 2, 1) := by decide +kernel
theorem dX8_letWait_37 : decode cX8_letWait 37 = .ok (.aload_n 0, 1) := by decide +kernel
theorem dX8_letWait_38 : decode cX8_letWait 38 = .ok (.getfield 12, 3) := by decide +kernel
theorem dX8_letWait_41 : decode cX8_letWait 41 = .ok (.getfield 252, 3) := by decide +kernel
theorem dX8_letWait_44 : decode cX8_letWait 44 = .ok (.if_icmp .ge 16, 3) := by decide +kernel
theorem dX8_letWait_47 : decode cX8_letWait 47 = .ok (.aload_n 0, 1) := by decide +kernel
theorem dX8_letWait_48 : decode cX8_letWait 48 = .ok (.iconst 2, 1) := by decide +kernel
theorem dX8_letWait_49 : decode cX8_letWait 49 = .ok (.aload_n 0, 1) := by decide +kernel
theorem dX8_letWait_50 : decode cX8_letWait 50 = .ok (.getfield 12, 3) := by decide +kernel
theorem dX8_letWait_53 : decode cX8_letWait 53 = .ok (.getfield 252, 3) := by decide +kernel
theorem dX8_letWait_56 : decode cX8_letWait 56 = .ok (.invokevirtual 235, 3) := by decide +kernel
theorem dX8_letWait_59 : decode cX8_letWait 59 = .ok (.ireturn, 1) := by decide +kernel
theorem dX8_letWait_60 : decode cX8_letWait 60 = .ok (.aload_n 0, 1) := by decide +kernel
theorem dX8_letWait_61 : decode cX8_letWait 61 = .ok (.getfield 12, 3) := by decide +kernel
theorem dX8_letWait_64 : decode cX8_letWait 64 = .ok (.getfield 108, 3) := by decide +kernel
theorem dX8_letWait_67 : decode cX8_letWait 67 = .ok (.getfield 154, 3) := by decide +kernel
theorem dX8_letWait_70 : decode cX8_letWait 70 = .ok (.bipush 16, 2) := by decide +kernel
theorem dX8_letWait_72 : decode cX8_letWait 72 = .ok (.if_icmp .lt 11, 3) := by decide +kernel
theorem dX8_letWait_75 : decode cX8_letWait 75 = .ok (.aload_n 0, 1) := by decide +kernel
theorem dX8_letWait_76 : decode cX8_letWait 76 = .ok (.iconst 1, 1) := by decide +kernel
theorem dX8_letWait_77 : decode cX8_letWait 77 = .ok (.bipush 16, 2) := by decide +kernel
theorem dX8_letWait_79 : decode cX8_letWait 79 = .ok (.invokevirtual 235, 3) := by decide +kernel
theorem dX8_letWait_82 : decode cX8_letWait 82 = .ok (.ireturn, 1) := by decide +kernel
theorem dX8_letWait_83 : decode cX8_letWait 83 = .ok (.aload_n 0, 1) := by decide +kernel
theorem dX8_letWait_84 : decode cX8_letWait 84 = .ok (.getfield 12, 3) := by decide +kernel
theorem dX8_letWait_87 : decode cX8_letWait 87 = .ok (.dup, 1) := by decide +kernel
theorem dX8_letWait_88 : decode cX8_letWait 88 = .ok (.getfield 256, 3) := by decide +kernel
theorem dX8_letWait_91 : decode cX8_letWait 91 = .ok (.iconst 1, 1) := by decide +kernel
theorem dX8_letWait_92 : decode cX8_letWait 92 = .ok (.iadd, 1) := by decide +kernel
theorem dX8_letWait_93 : decode cX8_letWait 93 = .ok (.putfield 256, 3) := by decide +kernel
theorem dX8_letWait_96 : decode cX8_letWait 96 = .ok (.aload_n 0, 1) := by decide +kernel
theorem dX8_letWait_97 : decode cX8_letWait 97 = .ok (.getfield 12, 3) := by decide +kernel
theorem dX8_letWait_100 : decode cX8_letWait 100 = .ok (.getfield 108, 3) := by decide +kernel
theorem dX8_letWait_103 : decode cX8_letWait 103 = .ok (.iload_n 1, 1) := by decide +kernel
theorem dX8_letWait_104 : decode cX8_letWait 104 = .ok (.iload_n 2, 1) := by decide +kernel
theorem dX8_letWait_105 : decode cX8_letWait 105 = .ok (.iload_n 3, 1) := by decide +kernel
theorem dX8_letWait_106 : decode cX8_letWait 106 = .ok (.invokevirtual 307, 3) := by decide +kernel
theorem dX8_letWait_109 : decode cX8_letWait 109 = .ok (.ireturn, 1) := by decide +kernel
set_option maxRecDepth 20000 in
theorem ggX8_takeAway_X5_has : GoodIn wsX8_takeAway wsX5_has := goodIn_r _ [10, 11, 73, 74, 75, 76, 77, 78, 79] (by decide +kernel) (by decide +kernel)
set_option maxRecDepth 20000 in
theorem gX8_takeAway_X5_has : GoodIn wsX8_takeAway (wsV RX8 79 RX5 yX5_has wsX5_has) := goodIn_app (goodIn_of _ (by decide +kernel)) ggX8_takeAway_X5_has
set_option maxRecDepth 20000 in
theorem ggX8_takeAway_X4_numberOf : GoodIn wsX8_takeAway wsX4_numberOf := goodIn_r _ [16, 17, 18, 19, 20, 21, 22, 15, 23, 24, 25, 26, 27, 28, 29, 69, 70, 71, 72] (by decide +kernel) (by decide +kernel)
set_option maxRecDepth 20000 in
theorem gX8_takeAway_X4_numberOf : GoodIn wsX8_takeAway (wsV RX8 112 RX4 yX4_numberOf wsX4_numberOf) := goodIn_app (goodIn_of _ (by decide +kernel)) ggX8_takeAway_X4_numberOf
set_option maxRecDepth 20000 in
theorem ggX8_takeAway_X8_refuse : GoodIn wsX8_takeAway wsX8_refuse := goodIn_r _ [33, 34, 35, 48, 49, 50, 51, 52, 53, 54, 55, 56] (by decide +kernel) (by decide +kernel)
set_option maxRecDepth 20000 in
theorem gX8_takeAway_X8_refuse : GoodIn wsX8_takeAway (wsV RX8 235 RX8 yX8_refuse wsX8_refuse) := goodIn_app (goodIn_of _ (by decide +kernel)) ggX8_takeAway_X8_refuse
set_option maxRecDepth 20000 in
theorem ggX8_takeAway_X4_removeAllOf : GoodIn wsX8_takeAway wsX4_removeAllOf := goodIn_r _ [39, 24, 25, 26, 18, 27, 40, 41, 42, 15, 43, 44, 45, 46, 47, 69, 70, 71, 72] (by decide +kernel) (by decide +kernel)
set_option maxRecDepth 20000 in
theorem gX8_takeAway_X4_removeAllOf : GoodIn wsX8_takeAway (wsV RX8 310 RX4 yX4_removeAllOf wsX4_removeAllOf) := goodIn_app (goodIn_of _ (by decide +kernel)) ggX8_takeAway_X4_removeAllOf
theorem dX8_takeAway_0 : decode cX8_takeAway 0 = .ok (.aload_n 0, 1) := by decide +kernel
theorem dX8_takeAway_1 : decode cX8_takeAway 1 = .ok (.getfield 12, 3) := by decide +kernel
theorem dX8_takeAway_4 : decode cX8_takeAway 4 = .ok (.getfield 75, 3) := by decide +kernel
theorem dX8_takeAway_7 : decode cX8_takeAway 7 = .ok (.iload_n 1, 1) := by decide +kernel
theorem dX8_takeAway_8 : decode cX8_takeAway 8 = .ok (.invokevirtual 79, 3) := by decide +kernel
theorem dX8_takeAway_11 : decode cX8_takeAway 11 = .ok (.ifCond .ne 7, 3) := by decide +kernel
theorem dX8_takeAway_14 : decode cX8_takeAway 14 = .ok (.sipush (-1011), 3) := by decide +kernel
theorem dX8_takeAway_17 : decode cX8_takeAway 17 = .ok (.ireturn, 1) := by decide +kernel
theorem dX8_takeAway_18 : decode cX8_takeAway 18 = .ok (.aload_n 0, 1) := by decide +kernel
theorem dX8_takeAway_19 : decode cX8_takeAway 19 = .ok (.getfield 12, 3) := by decide +kernel
theorem dX8_takeAway_22 : decode cX8_takeAway 22 = .ok (.getfield 108, 3) := by decide +kernel
theorem dX8_takeAway_25 : decode cX8_takeAway 25 = .ok (.iload_n 1, 1) := by decide +kernel
theorem dX8_takeAway_26 : decode cX8_takeAway 26 = .ok (.invokevirtual 112, 3) := by decide +kernel
theorem dX8_takeAway_29 : decode cX8_takeAway 29 = .ok (.istore_n 2, 1) := by decide +kernel
theorem dX8_takeAway_30 : decode cX8_takeAway 30 = .ok (.iload_n 2, 1) := by decide +kernel
theorem dX8_takeAway_31 : decode cX8_takeAway 31 = .ok (.ifCond .ne 20, 3) := by decide +kernel
theorem dX8_takeAway_34 : decode cX8_takeAway 34 = .ok (.aload_n 0, 1) := by decide +kernel
theorem dX8_takeAway_35 : decode cX8_takeAway 35 = .ok (.bipush 6, 2) := by decide +kernel
theorem dX8_takeAway_37 : decode cX8_takeAway 37 = .ok (.aload_n 0, 1) := by decide +kernel
theorem dX8_takeAway_38 : decode cX8_takeAway 38 = .ok (.getfield 12, 3) := by decide +kernel
theorem dX8_takeAway_41 : decode cX8_takeAway 41 = .ok (.getfield 108, 3) := by decide +kernel
theorem dX8_takeAway_44 : decode cX8_takeAway 44 = .ok (.getfield 154, 3) := by decide +kernel
theorem dX8_takeAway_47 : decode cX8_takeAway 47 = .ok (.invokevirtual 235, 3) := by decide +kernel
theorem dX8_takeAway_50 : decode cX8_takeAway 50 = .ok (.ireturn, 1) := by decide +kernel
theorem dX8_takeAway_51 : decode cX8_takeAway 51 = .ok (.aload_n 0, 1) := by decide +kernel
theorem dX8_takeAway_52 : decode cX8_takeAway 52 = .ok (.getfield 12, 3) := by decide +kernel
theorem dX8_takeAway_55 : decode cX8_takeAway 55 = .ok (.getfield 108, 3) := by decide +kernel
theorem dX8_takeAway_58 : decode cX8_takeAway 58 = .ok (.iload_n 1, 1) := by decide +kernel
theorem dX8_takeAway_59 : decode cX8_takeAway 59 = .ok (.invokevirtual 310, 3) := by decide +kernel
theorem dX8_takeAway_62 : decode cX8_takeAway 62 = .ok (.aload_n 0, 1) := by decide +kernel
theorem dX8_takeAway_63 : decode cX8_takeAway 63 = .ok (.getfield 12, 3) := by decide +kernel
theorem dX8_takeAway_66 : decode cX8_takeAway 66 = .ok (.dup, 1) := by decide +kernel
theorem dX8_takeAway_67 : decode cX8_takeAway 67 = .ok (.getfield 265, 3) := by decide +kernel
theorem dX8_takeAway_70 : decode cX8_takeAway 70 = .ok (.iload_n 2, 1) := by decide +kernel
theorem dX8_takeAway_71 : decode cX8_takeAway 71 = .ok (.iadd, 1) := by decide +kernel
theorem dX8_takeAway_72 : decode cX8_takeAway 72 = .ok (.putfield 265, 3) := by decide +kernel
theorem dX8_takeAway_75 : decode cX8_takeAway 75 = .ok (.aload_n 0, 1) := by decide +kernel
theorem dX8_takeAway_76 : decode cX8_takeAway 76 = .ok (.getfield 12, 3) := by decide +kernel
theorem dX8_takeAway_79 : decode cX8_takeAway 79 = .ok (.getfield 108, 3) := by decide +kernel
theorem dX8_takeAway_82 : decode cX8_takeAway 82 = .ok (.getfield 154, 3) := by decide +kernel
theorem dX8_takeAway_85 : decode cX8_takeAway 85 = .ok (.ireturn, 1) := by decide +kernel
