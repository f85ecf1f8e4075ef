set_option maxRecDepth 20000 in
theorem ggX8_ringNext_X7_ringFirst : GoodIn wsX8_ringNext wsX7_ringFirst := goodIn_r _ [9, 10, 11, 12, 13, 14, 15, 16, 17, 18, 19, 20, 21, 22, 23, 24, 25, 26, 27, 28, 29, 30, 31, 32, 33, 34, 35, 36, 37, 38, 39, 40, 41, 42, 43, 44, 45, 46, 47, 48, 49, 50, 51, 52, 53, 54, 55, 56, 57, 8, 58, 59, 60, 61, 62, 63, 64, 65, 66, 67, 68, 69, 70, 71, 72, 73, 74, 75, 76, 77, 78, 79, 80, 81, 82, 83, 84, 85, 86, 87, 88, 89, 90, 91, 92, 93, 109, 110, 111, 112, 113, 114, 115, 116, 117, 118, 119, 120, 121, 122, 123, 124, 125, 126, 127, 128, 129, 130, 131, 132, 133, 134, 135, 136, 137] (by decide +kernel) (by decide +kernel)
set_option maxRecDepth 20000 in
theorem gX8_ringNext_X7_ringFirst : GoodIn wsX8_ringNext (wsV RX8 157 RX7 yX7_ringFirst wsX7_ringFirst) := goodIn_app (goodIn_of _ (by decide +kernel)) ggX8_ringNext_X7_ringFirst
set_option maxRecDepth 20000 in
theorem ggX8_ringNext_X8_refuse : GoodIn wsX8_ringNext wsX8_refuse := goodIn_r _ [97, 98, 99, 100, 101, 102, 103, 104, 105, 106, 107, 108] (by decide +kernel) (by decide +kernel)
set_option maxRecDepth 20000 in
theorem gX8_ringNext_X8_refuse : GoodIn wsX8_ringNext (wsV RX8 235 RX8 yX8_refuse wsX8_refuse) := goodIn_app (goodIn_of _ (by decide +kernel)) ggX8_ringNext_X8_refuse
theorem dX8_ringNext_0 : decode cX8_ringNext 0 = .ok (.aload_n 0, 1) := by decide +kernel
theorem dX8_ringNext_1 : decode cX8_ringNext 1 = .ok (.getfield 12, 3) := by decide +kernel
theorem dX8_ringNext_4 : decode cX8_ringNext 4 = .ok (.getfield 108, 3) := by decide +kernel
theorem dX8_ringNext_7 : decode cX8_ringNext 7 = .ok (.getfield 154, 3) := by decide +kernel
theorem dX8_ringNext_10 : decode cX8_ringNext 10 = .ok (.ifCond .le 13, 3) := by decide +kernel
theorem dX8_ringNext_13 : decode cX8_ringNext 13 = .ok (.aload_n 0, 1) := by decide +kernel
theorem dX8_ringNext_14 : decode cX8_ringNext 14 = .ok (.getfield 12, 3) := by decide +kernel
theorem dX8_ringNext_17 : decode cX8_ringNext 17 = .ok (.invokevirtual 157, 3) := by decide +kernel
theorem dX8_ringNext_20 : decode cX8_ringNext 20 = .ok (.goto 15, 3) := by decide +kernel
theorem dX8_ringNext_23 : decode cX8_ringNext 23 = .ok (.aload_n 0, 1) := by decide +kernel
theorem dX8_ringNext_24 : decode cX8_ringNext 24 = .ok (.iconst 3, 1) := by decide +kernel
theorem dX8_ringNext_25 : decode cX8_ringNext 25 = .ok (.aload_n 0, 1) := by decide +kernel
theorem dX8_ringNext_26 : decode cX8_ringNext 26 = .ok (.getfield 12, 3) := by decide +kernel
theorem dX8_ringNext_29 : decode cX8_ringNext 29 = .ok (.getfield 313, 3) := by decide +kernel
theorem dX8_ringNext_32 : decode cX8_ringNext 32 = .ok (.invokevirtual 235, 3) := by decide +kernel
theorem dX8_ringNext_35 : decode cX8_ringNext 35 = .ok (.ireturn, 1) := by decide +kernel
set_option maxRecDepth 20000 in
theorem ggX8_ringHour_X8_refuse : GoodIn wsX8_ringHour wsX8_refuse := goodIn_r _ [10, 11, 12, 105, 106, 107, 108, 109, 110, 111, 112, 113] (by decide +kernel) (by decide +kernel)
set_option maxRecDepth 20000 in
theorem gX8_ringHour_X8_refuse : GoodIn wsX8_ringHour (wsV RX8 235 RX8 yX8_refuse wsX8_refuse) := goodIn_app (goodIn_of _ (by decide +kernel)) ggX8_ringHour_X8_refuse
set_option maxRecDepth 20000 in
theorem ggX8_ringHour_X8_at : GoodIn wsX8_ringHour wsX8_at := goodIn_r _ [15] (by decide +kernel) (by decide +kernel)
set_option maxRecDepth 20000 in
theorem gX8_ringHour_X8_at : GoodIn wsX8_ringHour (va_wsS RX8 89 yX8_at wsX8_at) := goodIn_app (goodIn_of _ (by decide +kernel)) ggX8_ringHour_X8_at
set_option maxRecDepth 20000 in
theorem ggX8_ringHour_X4_isNextAt : GoodIn wsX8_ringHour wsX4_isNextAt := goodIn_r _ [20, 21, 22, 14, 9, 15, 126, 127, 128, 129] (by decide +kernel) (by decide +kernel)
set_option maxRecDepth 20000 in
theorem gX8_ringHour_X4_isNextAt : GoodIn wsX8_ringHour (wsV RX8 316 RX4 yX4_isNextAt wsX4_isNextAt) := goodIn_app (goodIn_of _ (by decide +kernel)) ggX8_ringHour_X4_isNextAt
set_option maxRecDepth 20000 in
theorem ggX8_ringHour_X7_ringFirst : GoodIn wsX8_ringHour wsX7_ringFirst := goodIn_r _ [27, 28, 29, 30, 31, 32, 33, 34, 35, 36, 37, 14, 9, 15, 38, 39, 40, 19, 41, 21, 42, 43, 44, 45, 46, 47, 48, 49, 50, 22, 51, 52, 53, 54, 55, 56, 57, 13, 58, 59, 60, 61, 62, 63, 64, 65, 66, 67, 68, 26, 69, 70, 71, 72, 73, 74, 75, 76, 77, 78, 79, 80, 81, 82, 83, 84, 85, 86, 87, 88, 89, 90, 91, 92, 93, 94, 95, 96, 97, 98, 99, 100, 101, 102, 103, 104, 114, 115, 116, 117, 118, 119, 120, 121, 122, 123, 124, 125, 126, 127, 128, 129, 130, 131, 132, 133, 134, 135, 136, 137, 138, 139, 140, 141, 142] (by decide +kernel) (by decide +kernel)
set_option maxRecDepth 20000 in
theorem gX8_ringHour_X7_ringFirst : GoodIn wsX8_ringHour (wsV RX8 157 RX7 yX7_ringFirst wsX7_ringFirst) := goodIn_app (goodIn_of _ (by decide +kernel)) ggX8_ringHour_X7_ringFirst
theorem dX8_ringHour_0 : decode cX8_ringHour 0 = .ok (.aload_n 0, 1) := by decide +kernel
theorem dX8_ringHour_1 : decode cX8_ringHour 1 = .ok (.getfield 12, 3) := by decide +kernel
theorem dX8_ringHour_4 : decode cX8_ringHour 4 = .ok (.getfield 108, 3) := by decide +kernel
theorem dX8_ringHour_7 : decode cX8_ringHour 7 = .ok (.getfield 154, 3) := by decide +kernel
theorem dX8_ringHour_10 : decode cX8_ringHour 10 = .ok (.ifCond .ne 16, 3) := by decide +kernel
theorem dX8_ringHour_13 : decode cX8_ringHour 13 = .ok (.aload_n 0, 1) := by decide +kernel
theorem dX8_ringHour_14 : decode cX8_ringHour 14 = .ok (.iconst 3, 1) := by decide +kernel
theorem dX8_ringHour_15 : decode cX8_ringHour 15 = .ok (.aload_n 0, 1) := by decide +kernel
theorem dX8_ringHour_16 : decode cX8_ringHour 16 = .ok (.getfield 12, 3) := by decide +kernel
theorem dX8_ringHour_19 : decode cX8_ringHour 19 = .ok (.getfield 313, 3) := by decide +kernel
theorem dX8_ringHour_22 : decode cX8_ringHour 22 = .ok (.invokevirtual 235, 3) := by decide +kernel
theorem dX8_ringHour_25 : decode cX8_ringHour 25 = .ok (.ireturn, 1) := by decide +kernel
theorem dX8_ringHour_26 : decode cX8_ringHour 26 = .ok (.aload_n 0, 1) := by decide +kernel
theorem dX8_ringHour_27 : decode cX8_ringHour 27 = .ok (.getfield 12, 3) := by decide +kernel
theorem dX8_ringHour_30 : decode cX8_ringHour 30 = .ok (.getfield 108, 3) := by decide +kernel
theorem dX8_ringHour_33 : decode cX8_ringHour 33 = .ok (.getfield 138, 3) := by decide +kernel
theorem dX8_ringHour_36 : decode cX8_ringHour 36 = .ok (.iconst 0, 1) := by decide +kernel
theorem dX8_ringHour_37 : decode cX8_ringHour 37 = .ok (.invokestatic 89, 3) := by decide +kernel
theorem dX8_ringHour_40 : decode cX8_ringHour 40 = .ok (.istore_n 1, 1) := by decide +kernel
theorem dX8_ringHour_41 : decode cX8_ringHour 41 = .ok (.iconst 0, 1) := by decide +kernel
theorem dX8_ringHour_42 : decode cX8_ringHour 42 = .ok (.istore_n 2, 1) := by decide +kernel
theorem dX8_ringHour_43 : decode cX8_ringHour 43 = .ok (.iconst 0, 1) := by decide +kernel
theorem dX8_ringHour_44 : decode cX8_ringHour 44 = .ok (.istore_n 3, 1) := by decide +kernel
theorem dX8_ringHour_45 : decode cX8_ringHour 45 = .ok (.iload_n 3, 1) := by decide +kernel
theorem dX8_ringHour_46 : decode cX8_ringHour 46 = .ok (.bipush 16, 2) := by decide +kernel
theorem dX8_ringHour_48 : decode cX8_ringHour 48 = .ok (.if_icmp .ge 37, 3) := by decide +kernel
theorem dX8_ringHour_51 : decode cX8_ringHour 51 = .ok (.aload_n 0, 1) := by decide +kernel
theorem dX8_ringHour_52 : decode cX8_ringHour 52 = .ok (.getfield 12, 3) := by decide +kernel
theorem dX8_ringHour_55 : decode cX8_ringHour 55 = .ok (.getfield 108, 3) := by decide +kernel
theorem dX8_ringHour_58 : decode cX8_ringHour 58 = .ok (.iload_n 1, 1) := by decide +kernel
theorem dX8_ringHour_59 : decode cX8_ringHour 59 = .ok (.invokevirtual 316, 3) := by decide +kernel
theorem dX8_ringHour_62 : decode cX8_ringHour 62 = .ok (.ifCond .eq 23, 3) := by decide +kernel
theorem dX8_ringHour_65 : decode cX8_ringHour 65 = .ok (.aload_n 0, 1) := by decide +kernel
theorem dX8_ringHour_66 : decode cX8_ringHour 66 = .ok (.getfield 12, 3) := by decide +kernel
theorem dX8_ringHour_69 : decode cX8_ringHour 69 = .ok (.invokevirtual 157, 3) := by decide +kernel
theorem dX8_ringHour_72 : decode cX8_ringHour 72 = .ok (.iconst 1, 1) := by decide +kernel
theorem dX8_ringHour_73 : decode cX8_ringHour 73 = .ok (.if_icmp .ne 6, 3) := by decide +kernel
theorem dX8_ringHour_76 : decode cX8_ringHour 76 = .ok (.iinc 2 1, 3) := by decide +kernel
theorem dX8_ringHour_79 : decode cX8_ringHour 79 = .ok (.iinc 3 1, 3) := by decide +kernel
theorem dX8_ringHour_82 : decode cX8_ringHour 82 = .ok (.goto (-37), 3) := by decide +kernel
theorem dX8_ringHour_85 : decode cX8_ringHour 85 = .ok (.iload_n 2, 1) := by decide +kernel
theorem dX8_ringHour_86 : decode cX8_ringHour 86 = .ok (.ireturn, 1) := by decide +kernel
set_option maxRecDepth 20000 in
theorem ggX8_carryOut_X3_numberAt : GoodIn wsX8_carryOut wsX3_numberAt := goodIn_r _ [8, 9, 10, 11, 12, 218, 219, 220, 221] (by decide +kernel) (by decide +kernel)
set_option maxRecDepth 20000 in
theorem gX8_carryOut_X3_numberAt : GoodIn wsX8_carryOut (wsV RX8 319 RX3 yX3_numberAt wsX3_numberAt) := goodIn_app (goodIn_of _ (by decide +kernel)) ggX8_carryOut_X3_numberAt
set_option maxRecDepth 20000 in
theorem ggX8_carryOut_X8_at : GoodIn wsX8_carryOut wsX8_at := goodIn_r _ [12] (by decide +kernel) (by decide +kernel)
set_option maxRecDepth 20000 in
theorem gX8_carryOut_X8_at : GoodIn wsX8_carryOut (va_wsS RX8 89 yX8_at wsX8_at) := goodIn_app (goodIn_of _ (by decide +kernel)) ggX8_carryOut_X8_at
set_option maxRecDepth 20000 in
theorem ggX8_carryOut_X8_bringRope : GoodIn wsX8_carryOut wsX8_bringRope := goodIn_r _ [17, 3, 18, 19, 20, 21, 11, 22, 23, 24, 25, 26, 27, 28, 29, 30, 31, 32, 33, 34, 35, 36, 37, 38, 209, 210, 211, 212, 213, 214, 215, 216, 217, 222, 223, 224, 225, 226, 227, 228, 229, 230, 231, 232, 233, 234, 235, 236, 237, 238, 239, 240] (by decide +kernel) (by decide +kernel)
set_option maxRecDepth 20000 in
theorem gX8_carryOut_X8_bringRope : GoodIn wsX8_carryOut (wsV RX8 58 RX8 yX8_bringRope wsX8_bringRope) := goodIn_app (goodIn_of _ (by decide +kernel)) ggX8_carryOut_X8_bringRope
set_option maxRecDepth 20000 in
theorem ggX8_carryOut_X8_giveRope : GoodIn wsX8_carryOut wsX8_giveRope := goodIn_r _ [42, 3, 18, 43, 44, 45, 46, 32, 47, 34, 20, 21, 11, 22, 13, 10, 12, 23, 24, 25, 26, 27, 28, 48, 37, 38, 209, 210, 211, 212, 213, 214, 215, 216, 217, 222, 223, 224, 225, 226, 227, 228, 229, 230, 231, 232, 233, 234, 235, 236, 237, 238, 239, 240] (by decide +kernel) (by decide +kernel)
set_option maxRecDepth 20000 in
theorem gX8_carryOut_X8_giveRope : GoodIn wsX8_carryOut (wsV RX8 65 RX8 yX8_giveRope wsX8_giveRope) := goodIn_app (goodIn_of _ (by decide +kernel)) ggX8_carryOut_X8_giveRope
set_option maxRecDepth 20000 in
theorem ggX8_carryOut_X8_switchSensor : GoodIn wsX8_carryOut wsX8_switchSensor := goodIn_r _ [52, 3, 18, 53, 44, 45, 46, 32, 47, 34, 13, 10, 11, 12, 23, 24, 25, 26, 27, 28, 48, 37, 38, 54, 55, 56, 209, 210, 211, 212, 213, 214, 215, 216, 217, 222, 223, 224, 225, 226, 227, 228, 229, 230, 231, 232, 233, 234, 235, 236, 237, 238, 239, 240] (by decide +kernel) (by decide +kernel)
set_option maxRecDepth 20000 in
theorem gX8_carryOut_X8_switchSensor : GoodIn wsX8_carryOut (wsV RX8 69 RX8 yX8_switchSensor wsX8_switchSensor) := goodIn_app (goodIn_of _ (by decide +kernel)) ggX8_carryOut_X8_switchSensor
set_option maxRecDepth 20000 in
theorem ggX8_carryOut_X8_letWait : GoodIn wsX8_carryOut wsX8_letWait := goodIn_r _ [60, 3, 18, 61, 62, 63, 64, 44, 45, 46, 32, 47, 34, 65, 66, 11, 67, 68, 69, 70, 23, 24, 25, 26, 27, 28, 71, 72, 73, 74, 75, 76, 77, 78, 79, 80, 81, 82, 83, 10, 12, 84, 85, 86, 87, 37, 38, 209, 210, 211, 212, 213, 214, 215, 216, 217, 222, 223, 224, 225, 226, 227, 228, 229, 230, 231, 232, 233, 241, 242, 243, 244, 234, 235, 236, 237, 238, 239, 240] (by decide +kernel) (by decide +kernel)
set_option maxRecDepth 20000 in
theorem gX8_carryOut_X8_letWait : GoodIn wsX8_carryOut (wsV RX8 117 RX8 yX8_letWait wsX8_letWait) := goodIn_app (goodIn_of _ (by decide +kernel)) ggX8_carryOut_X8_letWait
set_option maxRecDepth 20000 in
theorem ggX8_carryOut_X8_takeAway : GoodIn wsX8_carryOut wsX8_takeAway := goodIn_r _ [91, 3, 18, 62, 63, 92, 44, 45, 46, 32, 47, 34, 93, 94, 95, 74, 96, 97, 11, 98, 99, 100, 101, 102, 76, 77, 10, 12, 103, 104, 23, 24, 25, 26, 27, 28, 105, 106, 107, 108, 84, 85, 86, 87, 78, 79, 37, 38, 209, 210, 211, 212, 213, 214, 215, 216, 217, 222, 223, 224, 225, 226, 227, 228, 229, 230, 231, 232, 233, 241, 242, 243, 244, 234, 235, 236, 237, 238, 239, 240] (by decide +kernel) (by decide +kernel)
set_option maxRecDepth 20000 in
theorem gX8_carryOut_X8_takeAway : GoodIn wsX8_carryOut (wsV RX8 121 RX8 yX8_takeAway wsX8_takeAway) := goodIn_app (goodIn_of _ (by decide +kernel)) ggX8_carryOut_X8_takeAway
set_option maxRecDepth 20000 in
theorem ggX8_carryOut_X8_ringNext : GoodIn wsX8_carryOut wsX8_ringNext := goodIn_r _ [112, 3, 62, 63, 113, 114, 115, 116, 117, 118, 119, 120, 121, 122, 123, 124, 125, 126, 127, 128, 10, 11, 12, 129, 130, 131, 74, 132, 76, 133, 134, 135, 136, 84, 85, 86, 87, 77, 78, 79, 37, 38, 103, 104, 137, 138, 13, 48, 139, 140, 141, 32, 142, 36, 143, 144, 145, 146, 147, 148, 149, 150, 151, 152, 153, 154, 155, 156, 157, 158, 159, 160, 161, 162, 163, 164, 97, 98, 165, 166, 167, 168, 169, 170, 171, 172, 173, 174, 175, 176, 177, 178, 179, 180, 23, 24, 25, 26, 27, 28, 209, 210, 211, 212, 213, 214, 215, 216, 217, 222, 223, 224, 225, 226, 227, 228, 229, 230, 231, 232, 233, 241, 242, 243, 244, 234, 235, 236, 237, 238, 239, 240, 245, 246, 247, 248, 249, 250] (by decide +kernel) (by decide +kernel)
set_option maxRecDepth 20000 in
theorem gX8_carryOut_X8_ringNext : GoodIn wsX8_carryOut (wsV RX8 124 RX8 yX8_ringNext wsX8_ringNext) := goodIn_app (goodIn_of _ (by decide +kernel)) ggX8_carryOut_X8_ringNext
set_option maxRecDepth 20000 in
theorem ggX8_carryOut_X8_ringHour : GoodIn wsX8_carryOut wsX8_ringHour := goodIn_r _ [184, 3, 62, 63, 113, 185, 23, 24, 25, 11, 26, 27, 28, 13, 10, 12, 186, 187, 188, 74, 189, 76, 78, 114, 115, 116, 117, 118, 119, 120, 121, 122, 123, 124, 125, 126, 127, 128, 129, 130, 131, 132, 133, 134, 135, 136, 84, 85, 86, 87, 77, 79, 37, 38, 103, 104, 137, 138, 48, 139, 140, 141, 32, 142, 36, 143, 144, 145, 146, 147, 148, 149, 150, 151, 152, 153, 154, 155, 156, 157, 158, 159, 160, 161, 162, 163, 164, 97, 98, 165, 166, 167, 168, 169, 170, 171, 172, 173, 174, 175, 176, 177, 178, 179, 180, 209, 210, 211, 212, 213, 214, 215, 216, 217, 222, 223, 224, 225, 226, 227, 228, 229, 230, 231, 232, 233, 241, 242, 243, 244, 234, 235, 236, 237, 238, 239, 240, 245, 246, 247, 248, 249, 250] (by decide +kernel) (by decide +kernel)
set_option maxRecDepth 20000 in
theorem gX8_carryOut_X8_ringHour : GoodIn wsX8_carryOut (wsV RX8 128 RX8 yX8_ringHour wsX8_ringHour) := goodIn_app (goodIn_of _ (by decide +kernel)) ggX8_carryOut_X8_ringHour
set_option maxRecDepth 20000 in
theorem ggX8_carryOut_X8_oilRope : GoodIn wsX8_carryOut wsX8_oilRope := goodIn_r _ [193, 3, 18, 194, 44, 45, 46, 32, 47, 34, 13, 10, 11, 12, 23, 24, 25, 26, 27, 28, 48, 37, 38, 209, 210, 211, 212, 213, 214, 215, 216, 217, 222, 223, 224, 225, 226, 227, 228, 229, 230, 231, 232, 233, 234, 235, 236, 237, 238, 239, 240] (by decide +kernel) (by decide +kernel)
set_option maxRecDepth 20000 in
theorem gX8_carryOut_X8_oilRope : GoodIn wsX8_carryOut (wsV RX8 72 RX8 yX8_oilRope wsX8_oilRope) := goodIn_app (goodIn_of _ (by decide +kernel)) ggX8_carryOut_X8_oilRope
set_option maxRecDepth 20000 in
theorem ggX8_carryOut_X7_endDay : GoodIn wsX8_carryOut wsX7_endDay := goodIn_r _ [198, 119, 199, 120, 127, 125, 123, 157, 10, 11, 12, 144, 145, 146, 117, 147, 148, 149, 137, 138, 13, 48, 37, 38, 200, 201, 202, 203, 204, 205, 206, 32, 207, 34, 143, 208, 134, 135, 136, 103, 104, 222, 223, 224, 225, 226, 227, 228, 229, 230, 231, 232, 233, 241, 242, 243, 244, 234, 235, 236, 237, 238, 239, 240] (by decide +kernel) (by decide +kernel)
set_option maxRecDepth 20000 in
theorem gX8_carryOut_X7_endDay : GoodIn wsX8_carryOut (wsV RX8 131 RX7 yX7_endDay wsX7_endDay) := goodIn_app (goodIn_of _ (by decide +kernel)) ggX8_carryOut_X7_endDay
theorem dX8_carryOut_0 : decode cX8_carryOut 0 = .ok (.aload_n 0, 1) := by decide +kernel
theorem dX8_carryOut_1 : decode cX8_carryOut 1 = .ok (.getfield 36, 3) := by decide +kernel
theorem dX8_carryOut_4 : decode cX8_carryOut 4 = .ok (.iload_n 1, 1) := by decide +kernel
theorem dX8_carryOut_5 : decode cX8_carryOut 5 = .ok (.iconst 0, 1) := by decide +kernel
theorem dX8_carryOut_6 : decode cX8_carryOut 6 = .ok (.invokevirtual 319, 3) := by decide +kernel
theorem dX8_carryOut_9 : decode cX8_carryOut 9 = .ok (.istore_n 2, 1) := by decide +kernel
theorem dX8_carryOut_10 : decode cX8_carryOut 10 = .ok (.aload_n 0, 1) := by decide +kernel
theorem dX8_carryOut_11 : decode cX8_carryOut 11 = .ok (.getfield 36, 3) := by decide +kernel
theorem dX8_carryOut_14 : decode cX8_carryOut 14 = .ok (.iload_n 1, 1) := by decide +kernel
theorem dX8_carryOut_15 : decode cX8_carryOut 15 = .ok (.iconst 1, 1) := by decide +kernel
theorem dX8_carryOut_16 : decode cX8_carryOut 16 = .ok (.invokevirtual 319, 3) := by decide +kernel
theorem dX8_carryOut_19 : decode cX8_carryOut 19 = .ok (.istore_n 3, 1) := by decide +kernel
theorem dX8_carryOut_20 : decode cX8_carryOut 20 = .ok (.aload_n 0, 1) := by decide +kernel
theorem dX8_carryOut_21 : decode cX8_carryOut 21 = .ok (.getfield 36, 3) := by decide +kernel
theorem dX8_carryOut_24 : decode cX8_carryOut 24 = .ok (.getfield 322, 3) := by decide +kernel
theorem dX8_carryOut_27 : decode cX8_carryOut 27 = .ok (.iload_n 1, 1) := by decide +kernel
theorem dX8_carryOut_28 : decode cX8_carryOut 28 = .ok (.invokestatic 89, 3) := by decide +kernel
theorem dX8_carryOut_31 : decode cX8_carryOut 31 = .ok (.tableswitch 152 99 118 #[129, 152, 152, 152, 152, 140, 152, 152, 152, 152, 152, 135, 145, 113, 152, 93, 106, 152, 152, 99], 93) := by decide +kernel
theorem dX8_carryOut_124 : decode cX8_carryOut 124 = .ok (.aload_n 0, 1) := by decide +kernel
theorem dX8_carryOut_125 : decode cX8_carryOut 125 = .ok (.iload_n 2, 1) := by decide +kernel
theorem dX8_carryOut_126 : decode cX8_carryOut 126 = .ok (.invokevirtual 58, 3) := by decide +kernel
theorem dX8_carryOut_129 : decode cX8_carryOut 129 = .ok (.ireturn, 1) := by decide +kernel
theorem dX8_carryOut_130 : decode cX8_carryOut 130 = .ok (.aload_n 0, 1) := by decide +kernel
theorem dX8_carryOut_131 : decode cX8_carryOut 131 = .ok (.iload_n 2, 1) := by decide +kernel
theorem dX8_carryOut_132 : decode cX8_carryOut 132 = .ok (.iload_n 3, 1) := by decide +kernel
theorem dX8_carryOut_133 : decode cX8_carryOut 133 = .ok (.invokevirtual 65, 3) := by decide +kernel
theorem dX8_carryOut_136 : decode cX8_carryOut 136 = .ok (.ireturn, 1) := by decide +kernel
theorem dX8_carryOut_137 : decode cX8_carryOut 137 = .ok (.aload_n 0, 1) := by decide +kernel
theorem dX8_carryOut_138 : decode cX8_carryOut 138 = .ok (.iload_n 2, 1) := by decide +kernel
theorem dX8_carryOut_139 : decode cX8_carryOut 139 = .ok (.iload_n 3, 1) := by decide +kernel
theorem dX8_carryOut_140 : decode cX8_carryOut 140 = .ok (.invokevirtual 69, 3) := by decide +kernel
theorem dX8_carryOut_143 : decode cX8_carryOut 143 = .ok (.ireturn, 1) := by decide +kernel
theorem dX8_carryOut_144 : decode cX8_carryOut 144 = .ok (.aload_n 0, 1) := by decide +kernel
theorem dX8_carryOut_145 : decode cX8_carryOut 145 = .ok (.iload_n 2, 1) := by decide +kernel
theorem dX8_carryOut_146 : decode cX8_carryOut 146 = .ok (.iload_n 3, 1) := by decide +kernel
theorem dX8_carryOut_147 : decode cX8_carryOut 147 = .ok (.aload_n 0, 1) := by decide +kernel
theorem dX8_carryOut_148 : decode cX8_carryOut 148 = .ok (.getfield 36, 3) := by decide +kernel
theorem dX8_carryOut_151 : decode cX8_carryOut 151 = .ok (.iload_n 1, 1) := by decide +kernel
theorem dX8_carryOut_152 : decode cX8_carryOut 152 = .ok (.iconst 2, 1) := by decide +kernel
theorem dX8_carryOut_153 : decode cX8_carryOut 153 = .ok (.invokevirtual 319, 3) := by decide +kernel
theorem dX8_carryOut_156 : decode cX8_carryOut 156 = .ok (.invokevirtual 117, 3) := by decide +kernel
theorem dX8_carryOut_159 : decode cX8_carryOut 159 = .ok (.ireturn, 1) := by decide +kernel
theorem dX8_carryOut_160 : decode cX8_carryOut 160 = .ok (.aload_n 0, 1) := by decide +kernel
theorem dX8_carryOut_161 : decode cX8_carryOut 161 = .ok (.iload_n 2, 1) := by decide +kernel
theorem dX8_carryOut_162 : decode cX8_carryOut 162 = .ok (.invokevirtual 121, 3) := by decide +kernel
theorem dX8_carryOut_165 : decode cX8_carryOut 165 = .ok (.ireturn, 1) := by decide +kernel
theorem dX8_carryOut_166 : decode cX8_carryOut 166 = .ok (.aload_n 0, 1) := by decide +kernel
theorem dX8_carryOut_167 : decode cX8_carryOut 167 = .ok (.invokevirtual 124, 3) := by decide +kernel
theorem dX8_carryOut_170 : decode cX8_carryOut 170 = .ok (.ireturn, 1) := by decide +kernel
theorem dX8_carryOut_171 : decode cX8_carryOut 171 = .ok (.aload_n 0, 1) := by decide +kernel
theorem dX8_carryOut_172 : decode cX8_carryOut 172 = .ok (.invokevirtual 128, 3) := by decide +kernel
theorem dX8_carryOut_175 : decode cX8_carryOut 175 = .ok (.ireturn, 1) := by decide +kernel
theorem dX8_carryOut_176 : decode cX8_carryOut 176 = .ok (.aload_n 0, 1) := by decide +kernel
theorem dX8_carryOut_177 : decode cX8_carryOut 177 = .ok (.iload_n 2, 1) := by decide +kernel
theorem dX8_carryOut_178 : decode cX8_carryOut 178 = .ok (.iload_n 3, 1) := by decide +kernel
theorem dX8_carryOut_179 : decode cX8_carryOut 179 = .ok (.invokevirtual 72, 3) := by decide +kernel
theorem dX8_carryOut_182 : decode cX8_carryOut 182 = .ok (.ireturn, 1) := by decide +kernel
theorem dX8_carryOut_183 : decode cX8_carryOut 183 = .ok (.aload_n 0, 1) := by decide +kernel
theorem dX8_carryOut_184 : decode cX8_carryOut 184 = .ok (.getfield 12, 3) := by decide +kernel
theorem dX8_carryOut_187 : decode cX8_carryOut 187 = .ok (.invokevirtual 131, 3) := by decide +kernel
theorem dX8_carryOut_190 : decode cX8_carryOut 190 = .ok (.ireturn, 1) := by decide +kernel
set_option maxRecDepth 20000 in
theorem ggX8_hoursGuessed_X8_guess : GoodIn wsX8_hoursGuessed wsX8_guess := goodIn_r _ [5, 6, 7, 8, 9, 10, 4, 11, 12, 13, 14, 15, 16, 17, 18, 19, 20, 21, 22, 23, 24, 25, 26, 27, 28, 29, 30, 31, 32, 33, 34, 35, 36, 37, 38, 39, 40, 41, 42, 43, 44, 45, 46, 47, 48, 49, 50, 51, 52, 53, 54, 55, 56, 57, 58, 59, 60, 61, 62] (by decide +kernel) (by decide +kernel)
set_option maxRecDepth 20000 in
theorem gX8_hoursGuessed_X8_guess : GoodIn wsX8_hoursGuessed (wsV RX8 325 RX8 yX8_guess wsX8_guess) := goodIn_app (goodIn_of _ (by decide +kernel)) ggX8_hoursGuessed_X8_guess
theorem dX8_hoursGuessed_0 : decode cX8_hoursGuessed 0 = .ok (.iconst 0, 1) := by decide +kernel
theorem dX8_hoursGuessed_1 : decode cX8_hoursGuessed 1 = .ok (.istore_n 2, 1) := by decide +kernel
theorem dX8_hoursGuessed_2 : decode cX8_hoursGuessed 2 = .ok (.iconst 0, 1) := by decide +kernel
theorem dX8_hoursGuessed_3 : decode cX8_hoursGuessed 3 = .ok (.istore_n 3, 1) := by decide +kernel
theorem dX8_hoursGuessed_4 : decode cX8_hoursGuessed 4 = .ok (.iload_n 3, 1) := by decide +kernel
theorem dX8_hoursGuessed_5 : decode cX8_hoursGuessed 5 = .ok (.bipush 24, 2) := by decide +kernel
theorem dX8_hoursGuessed_7 : decode cX8_hoursGuessed 7 = .ok (.if_icmp .ge 21, 3) := by decide +kernel
theorem dX8_hoursGuessed_10 : decode cX8_hoursGuessed 10 = .ok (.aload_n 0, 1) := by decide +kernel
theorem dX8_hoursGuessed_11 : decode cX8_hoursGuessed 11 = .ok (.iload_n 3, 1) := by decide +kernel
theorem dX8_hoursGuessed_12 : decode cX8_hoursGuessed 12 = .ok (.invokevirtual 325, 3) := by decide +kernel
theorem dX8_hoursGuessed_15 : decode cX8_hoursGuessed 15 = .ok (.iload_n 1, 1) := by decide +kernel
theorem dX8_hoursGuessed_16 : decode cX8_hoursGuessed 16 = .ok (.if_icmp .ne 6, 3) := by decide +kernel
theorem dX8_hoursGuessed_19 : decode cX8_hoursGuessed 19 = .ok (.iinc 2 1, 3) := by decide +kernel
theorem dX8_hoursGuessed_22 : decode cX8_hoursGuessed 22 = .ok (.iinc 3 1, 3) := by decide +kernel
theorem dX8_hoursGuessed_25 : decode cX8_hoursGuessed 25 = .ok (.goto (-21), 3) := by decide +kernel
theorem dX8_hoursGuessed_28 : decode cX8_hoursGuessed 28 = .ok (.iload_n 2, 1) := by decide +kernel
theorem dX8_hoursGuessed_29 : decode cX8_hoursGuessed 29 = .ok (.ireturn, 1) := by decide +kernel
theorem dX8_arePullsAccountedFor_0 : decode cX8_arePullsAccountedFor 0 = .ok (.aload_n 0, 1) := by decide +kernel
theorem dX8_arePullsAccountedFor_1 : decode cX8_arePullsAccountedFor 1 = .ok (.getfield 12, 3) := by decide +kernel
theorem dX8_arePullsAccountedFor_4 : decode cX8_arePullsAccountedFor 4 = .ok (.getfield 256, 3) := by decide +kernel
theorem dX8_arePullsAccountedFor_7 : decode cX8_arePullsAccountedFor 7 = .ok (.aload_n 0, 1) := by decide +kernel
theorem dX8_arePullsAccountedFor_8 : decode cX8_arePullsAccountedFor 8 = .ok (.getfield 12, 3) := by decide +kernel
theorem dX8_arePullsAccountedFor_11 : decode cX8_arePullsAccountedFor 11 = .ok (.getfield 108, 3) := by decide +kernel
theorem dX8_arePullsAccountedFor_14 : decode cX8_arePullsAccountedFor 14 = .ok (.getfield 154, 3) := by decide +kernel
theorem dX8_arePullsAccountedFor_17 : decode cX8_arePullsAccountedFor 17 = .ok (.aload_n 0, 1) := by decide +kernel
theorem dX8_arePullsAccountedFor_18 : decode cX8_arePullsAccountedFor 18 = .ok (.getfield 12, 3) := by decide +kernel
theorem dX8_arePullsAccountedFor_21 : decode cX8_arePullsAccountedFor 21 = .ok (.getfield 259, 3) := by decide +kernel
theorem dX8_arePullsAccountedFor_24 : decode cX8_arePullsAccountedFor 24 = .ok (.iadd, 1) := by decide +kernel
theorem dX8_arePullsAccountedFor_25 : decode cX8_arePullsAccountedFor 25 = .ok (.aload_n 0, 1) := by decide +kernel
theorem dX8_arePullsAccountedFor_26 : decode cX8_arePullsAccountedFor 26 = .ok (.getfield 12, 3) := by decide +kernel
theorem dX8_arePullsAccountedFor_29 : decode cX8_arePullsAccountedFor 29 = .ok (.getfield 261, 3) := by decide +kernel
theorem dX8_arePullsAccountedFor_32 : decode cX8_arePullsAccountedFor 32 = .ok (.iadd, 1) := by decide +kernel
theorem dX8_arePullsAccountedFor_33 : decode cX8_arePullsAccountedFor 33 = .ok (.aload_n 0, 1) := by decide +kernel
theorem dX8_arePullsAccountedFor_34 : decode cX8_arePullsAccountedFor 34 = .ok (.getfield 12, 3) := by decide +kernel
theorem dX8_arePullsAccountedFor_37 : decode cX8_arePullsAccountedFor 37 = .ok (.getfield 263, 3) := by decide +kernel
theorem dX8_arePullsAccountedFor_40 : decode cX8_arePullsAccountedFor 40 = .ok (.iadd, 1) := by decide +kernel
theorem dX8_arePullsAccountedFor_41 : decode cX8_arePullsAccountedFor 41 = .ok (.aload_n 0, 1) := by decide +kernel
theorem dX8_arePullsAccountedFor_42 : decode cX8_arePullsAccountedFor 42 = .ok (.getfield 12, 3) := by decide +kernel
theorem dX8_arePullsAccountedFor_45 : decode cX8_arePullsAccountedFor 45 = .ok (.getfield 265, 3) := by decide +kernel
theorem dX8_arePullsAccountedFor_48 : decode cX8_arePullsAccountedFor 48 = .ok (.iadd, 1) := by decide +kernel
theorem dX8_arePullsAccountedFor_49 : decode cX8_arePullsAccountedFor 49 = .ok (.if_icmp .ne 7, 3) := by decide +kernel
theorem dX8_arePullsAccountedFor_52 : decode cX8_arePullsAccountedFor 52 = .ok (.iconst 1, 1) := by decide +kernel
theorem dX8_arePullsAccountedFor_53 : decode cX8_arePullsAccountedFor 53 = .ok (.goto 4, 3) := by decide +kernel
theorem dX8_arePullsAccountedFor_56 : decode cX8_arePullsAccountedFor 56 = .ok (.iconst 0, 1) := by decide +kernel
theorem dX8_arePullsAccountedFor_57 : decode cX8_arePullsAccountedFor 57 = .ok (.ireturn, 1) := by decide +kernel
set_option maxRecDepth 20000 in
theorem ggX8_areRopesAccountedFor_X8_sum : GoodIn wsX8_areRopesAccountedFor wsX8_sum := goodIn_r _ [14] (by decide +kernel) (by decide +kernel)
set_option maxRecDepth 20000 in
theorem gX8_areRopesAccountedFor_X8_sum : GoodIn wsX8_areRopesAccountedFor (va_wsS RX8 268 yX8_sum wsX8_sum) := goodIn_app (goodIn_of _ (by decide +kernel)) ggX8_areRopesAccountedFor_X8_sum
set_option maxRecDepth 20000 in
theorem ggX8_areRopesAccountedFor_X5_setOfAll : GoodIn wsX8_areRopesAccountedFor wsX5_setOfAll := goodIn_r _ [19, 20, 21, 13, 22, 55, 56, 57, 58, 59, 60, 61] (by decide +kernel) (by decide +kernel)
set_option maxRecDepth 20000 in
theorem gX8_areRopesAccountedFor_X5_setOfAll : GoodIn wsX8_areRopesAccountedFor (wsV RX8 328 RX5 yX5_setOfAll wsX5_setOfAll) := goodIn_app (goodIn_of _ (by decide +kernel)) ggX8_areRopesAccountedFor_X5_setOfAll
set_option maxRecDepth 20000 in
theorem ggX8_areRopesAccountedFor_X4_numberIn : GoodIn wsX8_areRopesAccountedFor wsX4_numberIn := goodIn_r _ [27, 28, 29, 30, 13, 31, 32, 33, 62, 63, 64, 65] (by decide +kernel) (by decide +kernel)
set_option maxRecDepth 20000 in
theorem gX8_areRopesAccountedFor_X4_numberIn : GoodIn wsX8_areRopesAccountedFor (wsV RX8 209 RX4 yX4_numberIn wsX4_numberIn) := goodIn_app (goodIn_of _ (by decide +kernel)) ggX8_areRopesAccountedFor_X4_numberIn
theorem dX8_areRopesAccountedFor_0 : decode cX8_areRopesAccountedFor 0 = .ok (.aload_n 0, 1) := by decide +kernel
theorem dX8_areRopesAccountedFor_1 : decode cX8_areRopesAccountedFor 1 = .ok (.getfield 12, 3) := by decide +kernel
theorem dX8_areRopesAccountedFor_4 : decode cX8_areRopesAccountedFor 4 = .ok (.getfield 75, 3) := by decide +kernel
theorem dX8_areRopesAccountedFor_7 : decode cX8_areRopesAccountedFor 7 = .ok (.getfield 99, 3) := by decide +kernel
theorem dX8_areRopesAccountedFor_10 : decode cX8_areRopesAccountedFor 10 = .ok (.invokestatic 268, 3) := by decide +kernel
theorem dX8_areRopesAccountedFor_13 : decode cX8_areRopesAccountedFor 13 = .ok (.aload_n 0, 1) := by decide +kernel
theorem dX8_areRopesAccountedFor_14 : decode cX8_areRopesAccountedFor 14 = .ok (.getfield 12, 3) := by decide +kernel
theorem dX8_areRopesAccountedFor_17 : decode cX8_areRopesAccountedFor 17 = .ok (.getfield 259, 3) := by decide +kernel
theorem dX8_areRopesAccountedFor_20 : decode cX8_areRopesAccountedFor 20 = .ok (.if_icmp .ne 86, 3) := by decide +kernel
theorem dX8_areRopesAccountedFor_23 : decode cX8_areRopesAccountedFor 23 = .ok (.aload_n 0, 1) := by decide +kernel
theorem dX8_areRopesAccountedFor_24 : decode cX8_areRopesAccountedFor 24 = .ok (.getfield 12, 3) := by decide +kernel
theorem dX8_areRopesAccountedFor_27 : decode cX8_areRopesAccountedFor 27 = .ok (.getfield 75, 3) := by decide +kernel
theorem dX8_areRopesAccountedFor_30 : decode cX8_areRopesAccountedFor 30 = .ok (.getfield 102, 3) := by decide +kernel
theorem dX8_areRopesAccountedFor_33 : decode cX8_areRopesAccountedFor 33 = .ok (.invokestatic 268, 3) := by decide +kernel
theorem dX8_areRopesAccountedFor_36 : decode cX8_areRopesAccountedFor 36 = .ok (.aload_n 0, 1) := by decide +kernel
theorem dX8_areRopesAccountedFor_37 : decode cX8_areRopesAccountedFor 37 = .ok (.getfield 12, 3) := by decide +kernel
theorem dX8_areRopesAccountedFor_40 : decode cX8_areRopesAccountedFor 40 = .ok (.getfield 261, 3) := by decide +kernel
theorem dX8_areRopesAccountedFor_43 : decode cX8_areRopesAccountedFor 43 = .ok (.if_icmp .ne 63, 3) := by decide +kernel
theorem dX8_areRopesAccountedFor_46 : decode cX8_areRopesAccountedFor 46 = .ok (.aload_n 0, 1) := by decide +kernel
theorem dX8_areRopesAccountedFor_47 : decode cX8_areRopesAccountedFor 47 = .ok (.getfield 12, 3) := by decide +kernel
theorem dX8_areRopesAccountedFor_50 : decode cX8_areRopesAccountedFor 50 = .ok (.getfield 75, 3) := by decide +kernel
theorem dX8_areRopesAccountedFor_53 : decode cX8_areRopesAccountedFor 53 = .ok (.getfield 105, 3) := by decide +kernel
theorem dX8_areRopesAccountedFor_56 : decode cX8_areRopesAccountedFor 56 = .ok (.invokestatic 268, 3) := by decide +kernel
theorem dX8_areRopesAccountedFor_59 : decode cX8_areRopesAccountedFor 59 = .ok (.aload_n 0, 1) := by decide +kernel
theorem dX8_areRopesAccountedFor_60 : decode cX8_areRopesAccountedFor 60 = .ok (.getfield 12, 3) := by decide +kernel
theorem dX8_areRopesAccountedFor_63 : decode cX8_areRopesAccountedFor 63 = .ok (.getfield 263, 3) := by decide +kernel
theorem dX8_areRopesAccountedFor_66 : decode cX8_areRopesAccountedFor 66 = .ok (.if_icmp .ne 40, 3) := by decide +kernel
theorem dX8_areRopesAccountedFor_69 : decode cX8_areRopesAccountedFor 69 = .ok (.aload_n 0, 1) := by decide +kernel
theorem dX8_areRopesAccountedFor_70 : decode cX8_areRopesAccountedFor 70 = .ok (.getfield 12, 3) := by decide +kernel
theorem dX8_areRopesAccountedFor_73 : decode cX8_areRopesAccountedFor 73 = .ok (.getfield 108, 3) := by decide +kernel
theorem dX8_areRopesAccountedFor_76 : decode cX8_areRopesAccountedFor 76 = .ok (.aload_n 0, 1) := by decide +kernel
theorem dX8_areRopesAccountedFor_77 : decode cX8_areRopesAccountedFor 77 = .ok (.getfield 12, 3) := by decide +kernel
theorem dX8_areRopesAccountedFor_80 : decode cX8_areRopesAccountedFor 80 = .ok (.getfield 75, 3) := by decide +kernel
theorem dX8_areRopesAccountedFor_83 : decode cX8_areRopesAccountedFor 83 = .ok (.invokevirtual 328, 3) := by decide +kernel
theorem dX8_areRopesAccountedFor_86 : decode cX8_areRopesAccountedFor 86 = .ok (.invokevirtual 209, 3) := by decide +kernel
theorem dX8_areRopesAccountedFor_89 : decode cX8_areRopesAccountedFor 89 = .ok (.aload_n 0, 1) := by decide +kernel
theorem dX8_areRopesAccountedFor_90 : decode cX8_areRopesAccountedFor 90 = .ok (.getfield 12, 3) := by decide +kernel
theorem dX8_areRopesAccountedFor_93 : decode cX8_areRopesAccountedFor 93 = .ok (.getfield 108, 3) := by decide +kernel
theorem dX8_areRopesAccountedFor_96 : decode cX8_areRopesAccountedFor 96 = .ok (.getfield 154, 3) := by decide +kernel
theorem dX8_areRopesAccountedFor_99 : decode cX8_areRopesAccountedFor 99 = .ok (.if_icmp .ne 7, 3) := by decide +kernel
theorem dX8_areRopesAccountedFor_102 : decode cX8_areRopesAccountedFor 102 = .ok (.iconst 1, 1) := by decide +kernel
theorem dX8_areRopesAccountedFor_103 : decode cX8_areRopesAccountedFor 103 = .ok (.goto 4, 3) := by decide +kernel
theorem dX8_areRopesAccountedFor_106 : decode cX8_areRopesAccountedFor 106 = .ok (.iconst 0, 1) := by decide +kernel
theorem dX8_areRopesAccountedFor_107 : decode cX8_areRopesAccountedFor 107 = .ok (.ireturn, 1) := by decide +kernel
set_option maxRecDepth 20000 in
theorem ggX8_areGuessesTheSame_X8_guess : GoodIn wsX8_areGuessesTheSame wsX8_guess := goodIn_r _ [5, 6, 7, 8, 9, 10, 4, 11, 12, 13, 14, 15, 16, 17, 18, 19, 20, 21, 22, 23, 24, 25, 26, 27, 28, 29, 30, 31, 32, 33, 34, 57, 58, 59, 60, 61, 62, 63, 64, 65, 66, 67, 68, 69, 70, 71, 72, 73, 74, 75, 76, 77, 78, 79, 80, 81, 82, 83, 84] (by decide +kernel) (by decide +kernel)
set_option maxRecDepth 20000 in
theorem gX8_areGuessesTheSame_X8_guess : GoodIn wsX8_areGuessesTheSame (wsV RX8 325 RX8 yX8_guess wsX8_guess) := goodIn_app (goodIn_of _ (by decide +kernel)) ggX8_areGuessesTheSame_X8_guess
set_option maxRecDepth 20000 in
theorem ggX8_areGuessesTheSame_X8_guessAgain : GoodIn wsX8_areGuessesTheSame wsX8_guessAgain := goodIn_r _ [38, 6, 7, 8, 9, 10, 4, 11, 12, 13, 14, 39, 40, 41, 18, 42, 24, 25, 43, 44, 45, 46, 47, 48, 49, 50, 51, 52, 53, 54, 55, 56, 26, 27, 57, 58, 59, 60, 61, 62, 63, 64, 65, 66, 67, 68, 69, 70, 71, 72, 73, 74, 75, 76, 77, 78, 79, 80, 81, 82, 83, 84] (by decide +kernel) (by decide +kernel)
set_option maxRecDepth 20000 in
theorem gX8_areGuessesTheSame_X8_guessAgain : GoodIn wsX8_areGuessesTheSame (wsV RX8 331 RX8 yX8_guessAgain wsX8_guessAgain) := goodIn_app (goodIn_of _ (by decide +kernel)) ggX8_areGuessesTheSame_X8_guessAgain
theorem dX8_areGuessesTheSame_0 : decode cX8_areGuessesTheSame 0 = .ok (.iconst 0, 1) := by decide +kernel
theorem dX8_areGuessesTheSame_1 : decode cX8_areGuessesTheSame 1 = .ok (.istore_n 1, 1) := by decide +kernel
theorem dX8_areGuessesTheSame_2 : decode cX8_areGuessesTheSame 2 = .ok (.iload_n 1, 1) := by decide +kernel
theorem dX8_areGuessesTheSame_3 : decode cX8_areGuessesTheSame 3 = .ok (.bipush 24, 2) := by decide +kernel
theorem dX8_areGuessesTheSame_5 : decode cX8_areGuessesTheSame 5 = .ok (.if_icmp .ge 24, 3) := by decide +kernel
theorem dX8_areGuessesTheSame_8 : decode cX8_areGuessesTheSame 8 = .ok (.aload_n 0, 1) := by decide +kernel
theorem dX8_areGuessesTheSame_9 : decode cX8_areGuessesTheSame 9 = .ok (.iload_n 1, 1) := by decide +kernel
theorem dX8_areGuessesTheSame_10 : decode cX8_areGuessesTheSame 10 = .ok (.invokevirtual 325, 3) := by decide +kernel
theorem dX8_areGuessesTheSame_13 : decode cX8_areGuessesTheSame 13 = .ok (.aload_n 0, 1) := by decide +kernel
theorem dX8_areGuessesTheSame_14 : decode cX8_areGuessesTheSame 14 = .ok (.iload_n 1, 1) := by decide +kernel
theorem dX8_areGuessesTheSame_15 : decode cX8_areGuessesTheSame 15 = .ok (.invokevirtual 331, 3) := by decide +kernel
theorem dX8_areGuessesTheSame_18 : decode cX8_areGuessesTheSame 18 = .ok (.if_icmp .eq 5, 3) := by decide +kernel
theorem dX8_areGuessesTheSame_21 : decode cX8_areGuessesTheSame 21 = .ok (.iconst 0, 1) := by decide +kernel
theorem dX8_areGuessesTheSame_22 : decode cX8_areGuessesTheSame 22 = .ok (.ireturn, 1) := by decide +kernel
theorem dX8_areGuessesTheSame_23 : decode cX8_areGuessesTheSame 23 = .ok (.iinc 1 1, 3) := by decide +kernel
theorem dX8_areGuessesTheSame_26 : decode cX8_areGuessesTheSame 26 = .ok (.goto (-24), 3) := by decide +kernel
theorem dX8_areGuessesTheSame_29 : decode cX8_areGuessesTheSame 29 = .ok (.iconst 1, 1) := by decide +kernel
theorem dX8_areGuessesTheSame_30 : decode cX8_areGuessesTheSame 30 = .ok (.ireturn, 1) := by decide +kernel
set_option maxRecDepth 20000 in
theorem ggX8_tellRope_X2_writeNumber : GoodIn wsX8_tellRope wsX2_writeNumber := goodIn_r _ [11, 12, 13, 14, 10, 15, 16, 17, 18, 19, 20, 21, 22, 23, 24, 57, 58] (by decide +kernel) (by decide +kernel)
set_option maxRecDepth 20000 in
theorem gX8_tellRope_X2_writeNumber : GoodIn wsX8_tellRope (wsV RX8 334 RX2 yX2_writeNumber wsX2_writeNumber) := goodIn_app (goodIn_of _ (by decide +kernel)) ggX8_tellRope_X2_writeNumber
set_option maxRecDepth 20000 in
theorem ggX8_tellRope_X2_write : GoodIn wsX8_tellRope wsX2_write := goodIn_r _ [15, 16, 17, 18, 19, 20, 21, 22, 23, 24, 57, 58] (by decide +kernel) (by decide +kernel)
set_option maxRecDepth 20000 in
theorem gX8_tellRope_X2_write : GoodIn wsX8_tellRope (wsV RX8 337 RX2 yX2_write wsX2_write) := goodIn_app (goodIn_of _ (by decide +kernel)) ggX8_tellRope_X2_write
set_option maxRecDepth 20000 in
theorem ggX8_tellRope_X8_at : GoodIn wsX8_tellRope wsX8_at := goodIn_r _ [28] (by decide +kernel) (by decide +kernel)
set_option maxRecDepth 20000 in
theorem gX8_tellRope_X8_at : GoodIn wsX8_tellRope (va_wsS RX8 89 yX8_at wsX8_at) := goodIn_app (goodIn_of _ (by decide +kernel)) ggX8_tellRope_X8_at
theorem dX8_tellRope_0 : decode cX8_tellRope 0 = .ok (.aload_n 0, 1) := by decide +kernel
theorem dX8_tellRope_1 : decode cX8_tellRope 1 = .ok (.getfield 43, 3) := by decide +kernel
theorem dX8_tellRope_4 : decode cX8_tellRope 4 = .ok (.iload_n 1, 1) := by decide +kernel
theorem dX8_tellRope_5 : decode cX8_tellRope 5 = .ok (.invokevirtual 334, 3) := by decide +kernel
theorem dX8_tellRope_8 : decode cX8_tellRope 8 = .ok (.aload_n 0, 1) := by decide +kernel
theorem dX8_tellRope_9 : decode cX8_tellRope 9 = .ok (.getfield 43, 3) := by decide +kernel
theorem dX8_tellRope_12 : decode cX8_tellRope 12 = .ok (.bipush 58, 2) := by decide +kernel
theorem dX8_tellRope_14 : decode cX8_tellRope 14 = .ok (.invokevirtual 337, 3) := by decide +kernel
theorem dX8_tellRope_17 : decode cX8_tellRope 17 = .ok (.aload_n 0, 1) := by decide +kernel
theorem dX8_tellRope_18 : decode cX8_tellRope 18 = .ok (.getfield 43, 3) := by decide +kernel
theorem dX8_tellRope_21 : decode cX8_tellRope 21 = .ok (.aload_n 0, 1) := by decide +kernel
theorem dX8_tellRope_22 : decode cX8_tellRope 22 = .ok (.getfield 12, 3) := by decide +kernel
theorem dX8_tellRope_25 : decode cX8_tellRope 25 = .ok (.getfield 75, 3) := by decide +kernel
theorem dX8_tellRope_28 : decode cX8_tellRope 28 = .ok (.getfield 85, 3) := by decide +kernel
theorem dX8_tellRope_31 : decode cX8_tellRope 31 = .ok (.iload_n 1, 1) := by decide +kernel
theorem dX8_tellRope_32 : decode cX8_tellRope 32 = .ok (.invokestatic 89, 3) := by decide +kernel
theorem dX8_tellRope_35 : decode cX8_tellRope 35 = .ok (.invokevirtual 334, 3) := by decide +kernel
theorem dX8_tellRope_38 : decode cX8_tellRope 38 = .ok (.aload_n 0, 1) := by decide +kernel
theorem dX8_tellRope_39 : decode cX8_tellRope 39 = .ok (.getfield 12, 3) := by decide +kernel
theorem dX8_tellRope_42 : decode cX8_tellRope 42 = .ok (.getfield 75, 3) := by decide +kernel
theorem dX8_tellRope_45 : decode cX8_tellRope 45 = .ok (.getfield 93, 3) := by decide +kernel
theorem dX8_tellRope_48 : decode cX8_tellRope 48 = .ok (.iload_n 1, 1) := by decide +kernel
theorem dX8_tellRope_49 : decode cX8_tellRope 49 = .ok (.invokestatic 89, 3) := by decide +kernel
theorem dX8_tellRope_52 : decode cX8_tellRope 52 = .ok (.ifCond .ne 12, 3) := by decide +kernel
theorem dX8_tellRope_55 : decode cX8_tellRope 55 = .ok (.aload_n 0, 1) := by decide +kernel
theorem dX8_tellRope_56 : decode cX8_tellRope 56 = .ok (.getfield 43, 3) := by decide +kernel
theorem dX8_tellRope_59 : decode cX8_tellRope 59 = .ok (.bipush 35, 2) := by decide +kernel
theorem dX8_tellRope_61 : decode cX8_tellRope 61 = .ok (.invokevirtual 337, 3) := by decide +kernel
theorem dX8_tellRope_64 : decode cX8_tellRope 64 = .ok (.aload_n 0, 1) := by decide +kernel
theorem dX8_tellRope_65 : decode cX8_tellRope 65 = .ok (.getfield 12, 3) := by decide +kernel
theorem dX8_tellRope_68 : decode cX8_tellRope 68 = .ok (.getfield 75, 3) := by decide +kernel
theorem dX8_tellRope_71 : decode cX8_tellRope 71 = .ok (.getfield 96, 3) := by decide +kernel
theorem dX8_tellRope_74 : decode cX8_tellRope 74 = .ok (.iload_n 1, 1) := by decide +kernel
theorem dX8_tellRope_75 : decode cX8_tellRope 75 = .ok (.invokestatic 89, 3) := by decide +kernel
theorem dX8_tellRope_78 : decode cX8_tellRope 78 = .ok (.istore_n 2, 1) := by decide +kernel
theorem dX8_tellRope_79 : decode cX8_tellRope 79 = .ok (.iconst 0, 1) := by decide +kernel
theorem dX8_tellRope_80 : decode cX8_tellRope 80 = .ok (.istore_n 3, 1) := by decide +kernel
theorem dX8_tellRope_81 : decode cX8_tellRope 81 = .ok (.iload_n 3, 1) := by decide +kernel
theorem dX8_tellRope_82 : decode cX8_tellRope 82 = .ok (.iload_n 2, 1) := by decide +kernel
theorem dX8_tellRope_83 : decode cX8_tellRope 83 = .ok (.if_icmp .ge 18, 3) := by decide +kernel
theorem dX8_tellRope_86 : decode cX8_tellRope 86 = .ok (.aload_n 0, 1) := by decide +kernel
theorem dX8_tellRope_87 : decode cX8_tellRope 87 = .ok (.getfield 43, 3) := by decide +kernel
theorem dX8_tellRope_90 : decode cX8_tellRope 90 = .ok (.bipush 126, 2) := by decide +kernel
theorem dX8_tellRope_92 : decode cX8_tellRope 92 = .ok (.invokevirtual 337, 3) := by decide +kernel
theorem dX8_tellRope_95 : decode cX8_tellRope 95 = .ok (.iinc 3 1, 3) := by decide +kernel
theorem dX8_tellRope_98 : decode cX8_tellRope 98 = .ok (.goto (-17), 3) := by decide +kernel
theorem dX8_tellRope_101 : decode cX8_tellRope 101 = .ok (.return_, 1) := by decide +kernel
set_option maxRecDepth 20000 in
theorem ggX8_tellPulls_X8_at : GoodIn wsX8_tellPulls wsX8_at := goodIn_r _ [11] (by decide +kernel) (by decide +kernel)
set_option maxRecDepth 20000 in
theorem gX8_tellPulls_X8_at : GoodIn wsX8_tellPulls (va_wsS RX8 89 yX8_at wsX8_at) := goodIn_app (goodIn_of _ (by decide +kernel)) ggX8_tellPulls_X8_at
set_option maxRecDepth 20000 in
theorem ggX8_tellPulls_X2_write : GoodIn wsX8_tellPulls wsX2_write := goodIn_r _ [16, 17, 18, 19, 20, 21, 22, 23, 10, 24, 55, 56] (by decide +kernel) (by decide +kernel)
set_option maxRecDepth 20000 in
theorem gX8_tellPulls_X2_write : GoodIn wsX8_tellPulls (wsV RX8 337 RX2 yX2_write wsX2_write) := goodIn_app (goodIn_of _ (by decide +kernel)) ggX8_tellPulls_X2_write
set_option maxRecDepth 20000 in
theorem ggX8_tellPulls_X2_writeNumber : GoodIn wsX8_tellPulls wsX2_writeNumber := goodIn_r _ [28, 29, 13, 14, 15, 16, 17, 18, 19, 20, 21, 22, 23, 10, 24, 55, 56] (by decide +kernel) (by decide +kernel)
set_option maxRecDepth 20000 in
theorem gX8_tellPulls_X2_writeNumber : GoodIn wsX8_tellPulls (wsV RX8 334 RX2 yX2_writeNumber wsX2_writeNumber) := goodIn_app (goodIn_of _ (by decide +kernel)) ggX8_tellPulls_X2_writeNumber
theorem dX8_tellPulls_0 : decode cX8_tellPulls 0 = .ok (.iconst 0, 1) := by decide +kernel
theorem dX8_tellPulls_1 : decode cX8_tellPulls 1 = .ok (.istore_n 2, 1) := by decide +kernel
theorem dX8_tellPulls_2 : decode cX8_tellPulls 2 = .ok (.iload_n 2, 1) := by decide +kernel
theorem dX8_tellPulls_3 : decode cX8_tellPulls 3 = .ok (.aload_n 0, 1) := by decide +kernel
theorem dX8_tellPulls_4 : decode cX8_tellPulls 4 = .ok (.getfield 12, 3) := by decide +kernel
theorem dX8_tellPulls_7 : decode cX8_tellPulls 7 = .ok (.getfield 108, 3) := by decide +kernel
theorem dX8_tellPulls_10 : decode cX8_tellPulls 10 = .ok (.getfield 154, 3) := by decide +kernel
theorem dX8_tellPulls_13 : decode cX8_tellPulls 13 = .ok (.if_icmp .ge 87, 3) := by decide +kernel
theorem dX8_tellPulls_16 : decode cX8_tellPulls 16 = .ok (.aload_n 0, 1) := by decide +kernel
theorem dX8_tellPulls_17 : decode cX8_tellPulls 17 = .ok (.getfield 12, 3) := by decide +kernel
theorem dX8_tellPulls_20 : decode cX8_tellPulls 20 = .ok (.getfield 108, 3) := by decide +kernel
theorem dX8_tellPulls_23 : decode cX8_tellPulls 23 = .ok (.getfield 135, 3) := by decide +kernel
theorem dX8_tellPulls_26 : decode cX8_tellPulls 26 = .ok (.iload_n 2, 1) := by decide +kernel
theorem dX8_tellPulls_27 : decode cX8_tellPulls 27 = .ok (.invokestatic 89, 3) := by decide +kernel
theorem dX8_tellPulls_30 : decode cX8_tellPulls 30 = .ok (.iload_n 1, 1) := by decide +kernel
theorem dX8_tellPulls_31 : decode cX8_tellPulls 31 = .ok (.if_icmp .ne 63, 3) := by decide +kernel
theorem dX8_tellPulls_34 : decode cX8_tellPulls 34 = .ok (.aload_n 0, 1) := by decide +kernel
theorem dX8_tellPulls_35 : decode cX8_tellPulls 35 = .ok (.getfield 43, 3) := by decide +kernel
theorem dX8_tellPulls_38 : decode cX8_tellPulls 38 = .ok (.bipush 64, 2) := by decide +kernel
theorem dX8_tellPulls_40 : decode cX8_tellPulls 40 = .ok (.invokevirtual 337, 3) := by decide +kernel
theorem dX8_tellPulls_43 : decode cX8_tellPulls 43 = .ok (.aload_n 0, 1) := by decide +kernel
theorem dX8_tellPulls_44 : decode cX8_tellPulls 44 = .ok (.getfield 43, 3) := by decide +kernel
theorem dX8_tellPulls_47 : decode cX8_tellPulls 47 = .ok (.aload_n 0, 1) := by decide +kernel
theorem dX8_tellPulls_48 : decode cX8_tellPulls 48 = .ok (.getfield 12, 3) := by decide +kernel
theorem dX8_tellPulls_51 : decode cX8_tellPulls 51 = .ok (.getfield 108, 3) := by decide +kernel
theorem dX8_tellPulls_54 : decode cX8_tellPulls 54 = .ok (.getfield 138, 3) := by decide +kernel
theorem dX8_tellPulls_57 : decode cX8_tellPulls 57 = .ok (.iload_n 2, 1) := by decide +kernel
theorem dX8_tellPulls_58 : decode cX8_tellPulls 58 = .ok (.invokestatic 89, 3) := by decide +kernel
theorem dX8_tellPulls_61 : decode cX8_tellPulls 61 = .ok (.invokevirtual 334, 3) := by decide +kernel
theorem dX8_tellPulls_64 : decode cX8_tellPulls 64 = .ok (.aload_n 0, 1) := by decide +kernel
theorem dX8_tellPulls_65 : decode cX8_tellPulls 65 = .ok (.getfield 43, 3) := by decide +kernel
theorem dX8_tellPulls_68 : decode cX8_tellPulls 68 = .ok (.bipush 42, 2) := by decide +kernel
theorem dX8_tellPulls_70 : decode cX8_tellPulls 70 = .ok (.invokevirtual 337, 3) := by decide +kernel
theorem dX8_tellPulls_73 : decode cX8_tellPulls 73 = .ok (.aload_n 0, 1) := by decide +kernel
theorem dX8_tellPulls_74 : decode cX8_tellPulls 74 = .ok (.getfield 43, 3) := by decide +kernel
theorem dX8_tellPulls_77 : decode cX8_tellPulls 77 = .ok (.aload_n 0, 1) := by decide +kernel
theorem dX8_tellPulls_78 : decode cX8_tellPulls 78 = .ok (.getfield 12, 3) := by decide +kernel
theorem dX8_tellPulls_81 : decode cX8_tellPulls 81 = .ok (.getfield 108, 3) := by decide +kernel
theorem dX8_tellPulls_84 : decode cX8_tellPulls 84 = .ok (.getfield 141, 3) := by decide +kernel
theorem dX8_tellPulls_87 : decode cX8_tellPulls 87 = .ok (.iload_n 2, 1) := by decide +kernel
theorem dX8_tellPulls_88 : decode cX8_tellPulls 88 = .ok (.invokestatic 89, 3) := by decide +kernel
theorem dX8_tellPulls_91 : decode cX8_tellPulls 91 = .ok (.invokevirtual 334, 3) := by decide +kernel
theorem dX8_tellPulls_94 : decode cX8_tellPulls 94 = .ok (.iinc 2 1, 3) := by decide +kernel
theorem dX8_tellPulls_97 : decode cX8_tellPulls 97 = .ok (.goto (-95), 3) := by decide +kernel
theorem dX8_tellPulls_100 : decode cX8_tellPulls 100 = .ok (.return_, 1) := by decide +kernel
set_option maxRecDepth 20000 in
theorem ggX8_tellHour_X2_write : GoodIn wsX8_tellHour wsX2_write := goodIn_r _ [7, 8, 9, 10, 11, 12, 13, 14, 15, 16, 64, 65] (by decide +kernel) (by decide +kernel)
set_option maxRecDepth 20000 in
theorem gX8_tellHour_X2_write : GoodIn wsX8_tellHour (wsV RX8 337 RX2 yX2_write wsX2_write) := goodIn_app (goodIn_of _ (by decide +kernel)) ggX8_tellHour_X2_write
set_option maxRecDepth 20000 in
theorem ggX8_tellHour_X2_writeNumber : GoodIn wsX8_tellHour wsX2_writeNumber := goodIn_r _ [20, 21, 4, 5, 6, 7, 8, 9, 10, 11, 12, 13, 14, 15, 16, 64, 65] (by decide +kernel) (by decide +kernel)
set_option maxRecDepth 20000 in
theorem gX8_tellHour_X2_writeNumber : GoodIn wsX8_tellHour (wsV RX8 334 RX2 yX2_writeNumber wsX2_writeNumber) := goodIn_app (goodIn_of _ (by decide +kernel)) ggX8_tellHour_X2_writeNumber
set_option maxRecDepth 20000 in
theorem ggX8_tellHour_X8_guess : GoodIn wsX8_tellHour wsX8_guess := goodIn_r _ [25, 26, 27, 28, 29, 30, 15, 31, 32, 33, 34, 35, 36, 37, 38, 39, 40, 41, 42, 43, 44, 45, 46, 47, 48, 49, 50, 51, 52, 53, 54, 55, 56, 57, 58, 59, 60, 61, 62, 63, 66, 67, 68, 69, 70, 71, 72, 73, 74, 75, 76, 77, 78, 79, 80, 81, 82, 83, 84] (by decide +kernel) (by decide +kernel)
set_option maxRecDepth 20000 in
theorem gX8_tellHour_X8_guess : GoodIn wsX8_tellHour (wsV RX8 325 RX8 yX8_guess wsX8_guess) := goodIn_app (goodIn_of _ (by decide +kernel)) ggX8_tellHour_X8_guess
theorem dX8_tellHour_0 : decode cX8_tellHour 0 = .ok (.aload_n 0, 1) := by decide +kernel
theorem dX8_tellHour_1 : decode cX8_tellHour 1 = .ok (.getfield 43, 3) := by decide +kernel
theorem dX8_tellHour_4 : decode cX8_tellHour 4 = .ok (.getfield 238, 3) := by decide +kernel
theorem dX8_tellHour_7 : decode cX8_tellHour 7 = .ok (.ifCond .le 12, 3) := by decide +kernel
theorem dX8_tellHour_10 : decode cX8_tellHour 10 = .ok (.aload_n 0, 1) := by decide +kernel
theorem dX8_tellHour_11 : decode cX8_tellHour 11 = .ok (.getfield 43, 3) := by decide +kernel
theorem dX8_tellHour_14 : decode cX8_tellHour 14 = .ok (.bipush 32, 2) := by decide +kernel
theorem dX8_tellHour_16 : decode cX8_tellHour 16 = .ok (.invokevirtual 337, 3) := by decide +kernel
theorem dX8_tellHour_19 : decode cX8_tellHour 19 = .ok (.aload_n 0, 1) := by decide +kernel
theorem dX8_tellHour_20 : decode cX8_tellHour 20 = .ok (.getfield 43, 3) := by decide +kernel
theorem dX8_tellHour_23 : decode cX8_tellHour 23 = .ok (.iload_n 1, 1) := by decide +kernel
theorem dX8_tellHour_24 : decode cX8_tellHour 24 = .ok (.invokevirtual 334, 3) := by decide +kernel
theorem dX8_tellHour_27 : decode cX8_tellHour 27 = .ok (.aload_n 0, 1) := by decide +kernel
theorem dX8_tellHour_28 : decode cX8_tellHour 28 = .ok (.getfield 43, 3) := by decide +kernel
theorem dX8_tellHour_31 : decode cX8_tellHour 31 = .ok (.bipush 61, 2) := by decide +kernel
theorem dX8_tellHour_33 : decode cX8_tellHour 33 = .ok (.invokevirtual 337, 3) := by decide +kernel
theorem dX8_tellHour_36 : decode cX8_tellHour 36 = .ok (.aload_n 0, 1) := by decide +kernel
theorem dX8_tellHour_37 : decode cX8_tellHour 37 = .ok (.getfield 43, 3) := by decide +kernel
theorem dX8_tellHour_40 : decode cX8_tellHour 40 = .ok (.aload_n 0, 1) := by decide +kernel
theorem dX8_tellHour_41 : decode cX8_tellHour 41 = .ok (.iload_n 1, 1) := by decide +kernel
theorem dX8_tellHour_42 : decode cX8_tellHour 42 = .ok (.invokevirtual 325, 3) := by decide +kernel
theorem dX8_tellHour_45 : decode cX8_tellHour 45 = .ok (.invokevirtual 334, 3) := by decide +kernel
theorem dX8_tellHour_48 : decode cX8_tellHour 48 = .ok (.return_, 1) := by decide +kernel
theorem dX8_isParish_0 : decode cX8_isParish 0 = .ok (.iload_n 0, 1) := by decide +kernel
theorem dX8_isParish_1 : decode cX8_isParish 1 = .ok (.ifCond .lt 12, 3) := by decide +kernel
theorem dX8_isParish_4 : decode cX8_isParish 4 = .ok (.iload_n 0, 1) := by decide +kernel
theorem dX8_isParish_5 : decode cX8_isParish 5 = .ok (.iconst 4, 1) := by decide +kernel
theorem dX8_isParish_6 : decode cX8_isParish 6 = .ok (.if_icmp .ge 7, 3) := by decide +kernel
theorem dX8_isParish_9 : decode cX8_isParish 9 = .ok (.iconst 1, 1) := by decide +kernel
theorem dX8_isParish_10 : decode cX8_isParish 10 = .ok (.goto 4, 3) := by decide +kernel
theorem dX8_isParish_13 : decode cX8_isParish 13 = .ok (.iconst 0, 1) := by decide +kernel
theorem dX8_isParish_14 : decode cX8_isParish 14 = .ok (.ireturn, 1) := by decide +kernel
theorem dX8_isHour_0 : decode cX8_isHour 0 = .ok (.iload_n 0, 1) := by decide +kernel
theorem dX8_isHour_1 : decode cX8_isHour 1 = .ok (.ifCond .lt 13, 3) := by decide +kernel
theorem dX8_isHour_4 : decode cX8_isHour 4 = .ok (.iload_n 0, 1) := by decide +kernel
theorem dX8_isHour_5 : decode cX8_isHour 5 = .ok (.bipush 24, 2) := by decide +kernel
theorem dX8_isHour_7 : decode cX8_isHour 7 = .ok (.if_icmp .ge 7, 3) := by decide +kernel
theorem dX8_isHour_10 : decode cX8_isHour 10 = .ok (.iconst 1, 1) := by decide +kernel
theorem dX8_isHour_11 : decode cX8_isHour 11 = .ok (.goto 4, 3) := by decide +kernel
theorem dX8_isHour_14 : decode cX8_isHour 14 = .ok (.iconst 0, 1) := by decide +kernel
theorem dX8_isHour_15 : decode cX8_isHour 15 = .ok (.ireturn, 1) := by decide +kernel
theorem dX8_isStrength_0 : decode cX8_isStrength 0 = .ok (.iload_n 0, 1) := by decide +kernel
theorem dX8_isStrength_1 : decode cX8_isStrength 1 = .ok (.iconst 1, 1) := by decide +kernel
theorem dX8_isStrength_2 : decode cX8_isStrength 2 = .ok (.if_icmp .lt 13, 3) := by decide +kernel
theorem dX8_isStrength_5 : decode cX8_isStrength 5 = .ok (.iload_n 0, 1) := by decide +kernel
theorem dX8_isStrength_6 : decode cX8_isStrength 6 = .ok (.bipush 9, 2) := by decide +kernel
theorem dX8_isStrength_8 : decode cX8_isStrength 8 = .ok (.if_icmp .gt 7, 3) := by decide +kernel
theorem dX8_isStrength_11 : decode cX8_isStrength 11 = .ok (.iconst 1, 1) := by decide +kernel
theorem dX8_isStrength_12 : decode cX8_isStrength 12 = .ok (.goto 4, 3) := by decide +kernel
theorem dX8_isStrength_15 : decode cX8_isStrength 15 = .ok (.iconst 0, 1) := by decide +kernel
theorem dX8_isStrength_16 : decode cX8_isStrength 16 = .ok (.ireturn, 1) := by decide +kernel
theorem dX8_isDigit_0 : decode cX8_isDigit 0 = .ok (.iload_n 0, 1) := by decide +kernel
theorem dX8_isDigit_1 : decode cX8_isDigit 1 = .ok (.bipush 48, 2) := by decide +kernel
theorem dX8_isDigit_3 : decode cX8_isDigit 3 = .ok (.if_icmp .lt 13, 3) := by decide +kernel
theorem dX8_isDigit_6 : decode cX8_isDigit 6 = .ok (.iload_n 0, 1) := by decide +kernel
theorem dX8_isDigit_7 : decode cX8_isDigit 7 = .ok (.bipush 57, 2) := by decide +kernel
theorem dX8_isDigit_9 : decode cX8_isDigit 9 = .ok (.if_icmp .gt 7, 3) := by decide +kernel
theorem dX8_isDigit_12 : decode cX8_isDigit 12 = .ok (.iconst 1, 1) := by decide +kernel
theorem dX8_isDigit_13 : decode cX8_isDigit 13 = .ok (.goto 4, 3) := by decide +kernel
theorem dX8_isDigit_16 : decode cX8_isDigit 16 = .ok (.iconst 0, 1) := by decide +kernel
theorem dX8_isDigit_17 : decode cX8_isDigit 17 = .ok (.ireturn, 1) := by decide +kernel
theorem dX8_bit_0 : decode cX8_bit 0 = .ok (.iconst 1, 1) := by decide +kernel
theorem dX8_bit_1 : decode cX8_bit 1 = .ok (.iload_n 0, 1) := by decide +kernel
theorem dX8_bit_2 : decode cX8_bit 2 = .ok (.ishl, 1) := by decide +kernel
theorem dX8_bit_3 : decode cX8_bit 3 = .ok (.ireturn, 1) := by decide +kernel
theorem dX8_isIn_0 : decode cX8_isIn 0 = .ok (.iload_n 0, 1) := by decide +kernel
theorem dX8_isIn_1 : decode cX8_isIn 1 = .ok (.iload_n 1, 1) := by decide +kernel
theorem dX8_isIn_2 : decode cX8_isIn 2 = .ok (.ishr, 1) := by decide +kernel
theorem dX8_isIn_3 : decode cX8_isIn 3 = .ok (.iconst 1, 1) := by decide +kernel
theorem dX8_isIn_4 : decode cX8_isIn 4 = .ok (.iand, 1) := by decide +kernel
theorem dX8_isIn_5 : decode cX8_isIn 5 = .ok (.ifCond .eq 7, 3) := by decide +kernel
theorem dX8_isIn_8 : decode cX8_isIn 8 = .ok (.iconst 1, 1) := by decide +kernel
theorem dX8_isIn_9 : decode cX8_isIn 9 = .ok (.goto 4, 3) := by decide +kernel
theorem dX8_isIn_12 : decode cX8_isIn 12 = .ok (.iconst 0, 1) := by decide +kernel
theorem dX8_isIn_13 : decode cX8_isIn 13 = .ok (.ireturn, 1) := by decide +kernel
theorem dX8_at_0 : decode cX8_at 0 = .ok (.iload_n 1, 1) := by decide +kernel
theorem dX8_at_1 : decode cX8_at 1 = .ok (.ifCond .lt 15, 3) := by decide +kernel
theorem dX8_at_4 : decode cX8_at 4 = .ok (.iload_n 1, 1) := by decide +kernel
theorem dX8_at_5 : decode cX8_at 5 = .ok (.aload_n 0, 1) := by decide +kernel
theorem dX8_at_6 : decode cX8_at 6 = .ok (.arraylength, 1) := by decide +kernel
theorem dX8_at_7 : decode cX8_at 7 = .ok (.if_icmp .ge 9, 3) := by decide +kernel
theorem dX8_at_10 : decode cX8_at 10 = .ok (.aload_n 0, 1) := by decide +kernel
theorem dX8_at_11 : decode cX8_at 11 = .ok (.iload_n 1, 1) := by decide +kernel
theorem dX8_at_12 : decode cX8_at 12 = .ok (.iaload, 1) := by decide +kernel
theorem dX8_at_13 : decode cX8_at 13 = .ok (.goto 4, 3) := by decide +kernel
theorem dX8_at_16 : decode cX8_at 16 = .ok (.iconst 0, 1) := by decide +kernel
theorem dX8_at_17 : decode cX8_at 17 = .ok (.ireturn, 1) := by decide +kernel
theorem dX8_put_0 : decode cX8_put 0 = .ok (.iload_n 1, 1) := by decide +kernel
theorem dX8_put_1 : decode cX8_put 1 = .ok (.ifCond .lt 13, 3) := by decide +kernel
theorem dX8_put_4 : decode cX8_put 4 = .ok (.iload_n 1, 1) := by decide +kernel
theorem dX8_put_5 : decode cX8_put 5 = .ok (.aload_n 0, 1) := by decide +kernel
theorem dX8_put_6 : decode cX8_put 6 = .ok (.arraylength, 1) := by decide +kernel
theorem dX8_put_7 : decode cX8_put 7 = .ok (.if_icmp .ge 7, 3) := by decide +kernel
theorem dX8_put_10 : decode cX8_put 10 = .ok (.aload_n 0, 1) := by decide +kernel
theorem dX8_put_11 : decode cX8_put 11 = .ok (.iload_n 1, 1) := by decide +kernel
theorem dX8_put_12 : decode cX8_put 12 = .ok (.iload_n 2, 1) := by decide +kernel
theorem dX8_put_13 : decode cX8_put 13 = .ok (.iastore, 1) := by decide +kernel
theorem dX8_put_14 : decode cX8_put 14 = .ok (.return_, 1) := by decide +kernel
set_option maxRecDepth 20000 in
theorem ggX8_add_X8_at : GoodIn wsX8_add wsX8_at := goodIn_r _ [4] (by decide +kernel) (by decide +kernel)
set_option maxRecDepth 20000 in
theorem gX8_add_X8_at : GoodIn wsX8_add (va_wsS RX8 89 yX8_at wsX8_at) := goodIn_app (goodIn_of _ (by decide +kernel)) ggX8_add_X8_at
set_option maxRecDepth 20000 in
theorem ggX8_add_X8_put : GoodIn wsX8_add wsX8_put := goodIn_r _ [7] (by decide +kernel) (by decide +kernel)
set_option maxRecDepth 20000 in
theorem gX8_add_X8_put : GoodIn wsX8_add (va_wsS RX8 303 yX8_put wsX8_put) := goodIn_app (goodIn_of _ (by decide +kernel)) ggX8_add_X8_put
theorem dX8_add_0 : decode cX8_add 0 = .ok (.aload_n 0, 1) := by decide +kernel
theorem dX8_add_1 : decode cX8_add 1 = .ok (.iload_n 1, 1) := by decide +kernel
theorem dX8_add_2 : decode cX8_add 2 = .ok (.aload_n 0, 1) := by decide +kernel
theorem dX8_add_3 : decode cX8_add 3 = .ok (.iload_n 1, 1) := by decide +kernel
theorem dX8_add_4 : decode cX8_add 4 = .ok (.invokestatic 89, 3) := by decide +kernel
theorem dX8_add_7 : decode cX8_add 7 = .ok (.iload_n 2, 1) := by decide +kernel
theorem dX8_add_8 : decode cX8_add 8 = .ok (.iadd, 1) := by decide +kernel
theorem dX8_add_9 : decode cX8_add 9 = .ok (.invokestatic 303, 3) := by decide +kernel
theorem dX8_add_12 : decode cX8_add 12 = .ok (.return_, 1) := by decide +kernel
theorem dX8_sum_0 : decode cX8_sum 0 = .ok (.iconst 0, 1) := by decide +kernel
theorem dX8_sum_1 : decode cX8_sum 1 = .ok (.istore_n 1, 1) := by decide +kernel
theorem dX8_sum_2 : decode cX8_sum 2 = .ok (.aload_n 0, 1) := by decide +kernel
theorem dX8_sum_3 : decode cX8_sum 3 = .ok (.astore_n 2, 1) := by decide +kernel
theorem dX8_sum_4 : decode cX8_sum 4 = .ok (.aload_n 2, 1) := by decide +kernel
theorem dX8_sum_5 : decode cX8_sum 5 = .ok (.arraylength, 1) := by decide +kernel
theorem dX8_sum_6 : decode cX8_sum 6 = .ok (.istore_n 3, 1) := by decide +kernel
theorem dX8_sum_7 : decode cX8_sum 7 = .ok (.iconst 0, 1) := by decide +kernel
theorem dX8_sum_8 : decode cX8_sum 8 = .ok (.istore 4, 2) := by decide +kernel
theorem dX8_sum_10 : decode cX8_sum 10 = .ok (.iload 4, 2) := by decide +kernel
theorem dX8_sum_12 : decode cX8_sum 12 = .ok (.iload_n 3, 1) := by decide +kernel
theorem dX8_sum_13 : decode cX8_sum 13 = .ok (.if_icmp .ge 20, 3) := by decide +kernel
theorem dX8_sum_16 : decode cX8_sum 16 = .ok (.aload_n 2, 1) := by decide +kernel
theorem dX8_sum_17 : decode cX8_sum 17 = .ok (.iload 4, 2) := by decide +kernel
theorem dX8_sum_19 : decode cX8_sum 19 = .ok (.iaload, 1) := by decide +kernel
theorem dX8_sum_20 : decode cX8_sum 20 = .ok (.istore 5, 2) := by decide +kernel
theorem dX8_sum_22 : decode cX8_sum 22 = .ok (.iload_n 1, 1) := by decide +kernel
theorem dX8_sum_23 : decode cX8_sum 23 = .ok (.iload 5, 2) := by decide +kernel
theorem dX8_sum_25 : decode cX8_sum 25 = .ok (.iadd, 1) := by decide +kernel
theorem dX8_sum_26 : decode cX8_sum 26 = .ok (.istore_n 1, 1) := by decide +kernel
theorem dX8_sum_27 : decode cX8_sum 27 = .ok (.iinc 4 1, 3) := by decide +kernel
theorem dX8_sum_30 : decode cX8_sum 30 = .ok (.goto (-20), 3) := by decide +kernel
theorem dX8_sum_33 : decode cX8_sum 33 = .ok (.iload_n 1, 1) := by decide +kernel
theorem dX8_sum_34 : decode cX8_sum 34 = .ok (.ireturn, 1) := by decide +kernel
theorem dX8_copy_0 : decode cX8_copy 0 = .ok (.aload_n 0, 1) := by decide +kernel
theorem dX8_copy_1 : decode cX8_copy 1 = .ok (.iconst 0, 1) := by decide +kernel
theorem dX8_copy_2 : decode cX8_copy 2 = .ok (.aload_n 1, 1) := by decide +kernel
theorem dX8_copy_3 : decode cX8_copy 3 = .ok (.iconst 0, 1) := by decide +kernel
theorem dX8_copy_4 : decode cX8_copy 4 = .ok (.aload_n 0, 1) := by decide +kernel
theorem dX8_copy_5 : decode cX8_copy 5 = .ok (.arraylength, 1) := by decide +kernel
theorem dX8_copy_6 : decode cX8_copy 6 = .ok (.aload_n 1, 1) := by decide +kernel
theorem dX8_copy_7 : decode cX8_copy 7 = .ok (.arraylength, 1) := by decide +kernel
theorem dX8_copy_8 : decode cX8_copy 8 = .ok (.invokestatic 340, 3) := by decide +kernel
theorem dX8_copy_11 : decode cX8_copy 11 = .ok (.invokestatic 345, 3) := by decide +kernel
theorem dX8_copy_14 : decode cX8_copy 14 = .ok (.return_, 1) := by decide +kernel
theorem dX9_init_0 : decode cX9_init 0 = .ok (.aload_n 0, 1) := by decide +kernel
theorem dX9_init_1 : decode cX9_init 1 = .ok (.invokespecial 1, 3) := by decide +kernel
theorem dX9_init_4 : decode cX9_init 4 = .ok (.aload_n 0, 1) := by decide +kernel
theorem dX9_init_5 : decode cX9_init 5 = .ok (.iload_n 1, 1) := by decide +kernel
theorem dX9_init_6 : decode cX9_init 6 = .ok (.putfield 7, 3) := by decide +kernel
theorem dX9_init_9 : decode cX9_init 9 = .ok (.return_, 1) := by decide +kernel
theorem dX9_next_0 : decode cX9_next 0 = .ok (.aload_n 0, 1) := by decide +kernel
theorem dX9_next_1 : decode cX9_next 1 = .ok (.aload_n 0, 1) := by decide +kernel
theorem dX9_next_2 : decode cX9_next 2 = .ok (.getfield 7, 3) := by decide +kernel
theorem dX9_next_5 : decode cX9_next 5 = .ok (.ldc 13, 2) := by decide +kernel
theorem dX9_next_7 : decode cX9_next 7 = .ok (.imul, 1) := by decide +kernel
theorem dX9_next_8 : decode cX9_next 8 = .ok (.sipush 12345, 3) := by decide +kernel
theorem dX9_next_11 : decode cX9_next 11 = .ok (.iadd, 1) := by decide +kernel
theorem dX9_next_12 : decode cX9_next 12 = .ok (.putfield 7, 3) := by decide +kernel
theorem dX9_next_15 : decode cX9_next 15 = .ok (.aload_n 0, 1) := by decide +kernel
theorem dX9_next_16 : decode cX9_next 16 = .ok (.getfield 7, 3) := by decide +kernel
theorem dX9_next_19 : decode cX9_next 19 = .ok (.bipush 16, 2) := by decide +kernel
theorem dX9_next_21 : decode cX9_next 21 = .ok (.iushr, 1) := by decide +kernel
theorem dX9_next_22 : decode cX9_next 22 = .ok (.iload_n 1, 1) := by decide +kernel
theorem dX9_next_23 : decode cX9_next 23 = .ok (.irem, 1) := by decide +kernel
theorem dX9_next_24 : decode cX9_next 24 = .ok (.ireturn, 1) := by decide +kernel
theorem dJ5_init_d00df_0 : decode cJ5_init_d00df 0 = .ok (.aload_n 0, 1) := by decide +kernel
theorem dJ5_init_d00df_1 : decode cJ5_init_d00df 1 = .ok (.invokespecial 3, 3) := by decide +kernel
theorem dJ5_init_d00df_4 : decode cJ5_init_d00df 4 = .ok (.getstatic 18, 3) := by decide +kernel
theorem dJ5_init_d00df_7 : decode cJ5_init_d00df 7 = .ok (.ifCond .eq 18, 3) := by decide +kernel
theorem dJ5_init_d00df_10 : decode cJ5_init_d00df 10 = .ok (.aload_n 0, 1) := by decide +kernel
theorem dJ5_init_d00df_11 : decode cJ5_init_d00df 11 = .ok (.iload_n 1, 1) := by decide +kernel
theorem dJ5_init_d00df_12 : decode cJ5_init_d00df 12 = .ok (.newarray .byte, 2) := by decide +kernel
theorem dJ5_init_d00df_14 : decode cJ5_init_d00df 14 = .ok (.putfield 15, 3) := by decide +kernel
theorem dJ5_init_d00df_17 : decode cJ5_init_d00df 17 = .ok (.aload_n 0, 1) := by decide +kernel
theorem dJ5_init_d00df_18 : decode cJ5_init_d00df 18 = .ok (.iconst 0, 1) := by decide +kernel
theorem dJ5_init_d00df_19 : decode cJ5_init_d00df 19 = .ok (.putfield 22, 3) := by decide +kernel
theorem dJ5_init_d00df_22 : decode cJ5_init_d00df 22 = .ok (.goto 16, 3) := by decide +kernel
theorem dJ5_init_d00df_25 : decode cJ5_init_d00df 25 = .ok (.aload_n 0, 1) := by decide +kernel
theorem dJ5_init_d00df_26 : decode cJ5_init_d00df 26 = .ok (.iload_n 1, 1) := by decide +kernel
theorem dJ5_init_d00df_27 : decode cJ5_init_d00df 27 = .ok (.invokestatic 26, 3) := by decide +kernel
theorem dJ5_init_d00df_30 : decode cJ5_init_d00df 30 = .ok (.putfield 15, 3) := by decide +kernel
theorem dJ5_init_d00df_33 : decode cJ5_init_d00df 33 = .ok (.aload_n 0, 1) := by decide +kernel
theorem dJ5_init_d00df_34 : decode cJ5_init_d00df 34 = .ok (.iconst 1, 1) := by decide +kernel
theorem dJ5_init_d00df_35 : decode cJ5_init_d00df 35 = .ok (.putfield 22, 3) := by decide +kernel
theorem dJ5_init_d00df_38 : decode cJ5_init_d00df 38 = .ok (.return_, 1) := by decide +kernel
theorem dJ5_length_8abf5_0 : decode cJ5_length_8abf5 0 = .ok (.aload_n 0, 1) := by decide +kernel
theorem dJ5_length_8abf5_1 : decode cJ5_length_8abf5 1 = .ok (.getfield 79, 3) := by decide +kernel
theorem dJ5_length_8abf5_4 : decode cJ5_length_8abf5 4 = .ok (.ireturn, 1) := by decide +kernel
theorem dJ5_ensureCapacityInternal_d00df_0 : decode cJ5_ensureCapacityInternal_d00df 0 = .ok (.aload_n 0, 1) := by decide +kernel
theorem dJ5_ensureCapacityInternal_d00df_1 : decode cJ5_ensureCapacityInternal_d00df 1 = .ok (.getfield 15, 3) := by decide +kernel
theorem dJ5_ensureCapacityInternal_d00df_4 : decode cJ5_ensureCapacityInternal_d00df 4 = .ok (.arraylength, 1) := by decide +kernel
theorem dJ5_ensureCapacityInternal_d00df_5 : decode cJ5_ensureCapacityInternal_d00df 5 = .ok (.aload_n 0, 1) := by decide +kernel
theorem dJ5_ensureCapacityInternal_d00df_6 : decode cJ5_ensureCapacityInternal_d00df 6 = .ok (.getfield 22, 3) := by decide +kernel
theorem dJ5_ensureCapacityInternal_d00df_9 : decode cJ5_ensureCapacityInternal_d00df 9 = .ok (.ishr, 1) := by decide +kernel
theorem dJ5_ensureCapacityInternal_d00df_10 : decode cJ5_ensureCapacityInternal_d00df 10 = .ok (.istore_n 2, 1) := by decide +kernel
theorem dJ5_ensureCapacityInternal_d00df_11 : decode cJ5_ensureCapacityInternal_d00df 11 = .ok (.iload_n 1, 1) := by decide +kernel
theorem dJ5_ensureCapacityInternal_d00df_12 : decode cJ5_ensureCapacityInternal_d00df 12 = .ok (.iload_n 2, 1) := by decide +kernel
theorem dJ5_ensureCapacityInternal_d00df_13 : decode cJ5_ensureCapacityInternal_d00df 13 = .ok (.isub, 1) := by decide +kernel
theorem dJ5_ensureCapacityInternal_d00df_14 : decode cJ5_ensureCapacityInternal_d00df 14 = .ok (.ifCond .le 24, 3) := by decide +kernel
theorem dJ5_ensureCapacityInternal_d00df_17 : decode cJ5_ensureCapacityInternal_d00df 17 = .ok (.aload_n 0, 1) := by decide +kernel
theorem dJ5_ensureCapacityInternal_d00df_18 : decode cJ5_ensureCapacityInternal_d00df 18 = .ok (.aload_n 0, 1) := by decide +kernel
theorem dJ5_ensureCapacityInternal_d00df_19 : decode cJ5_ensureCapacityInternal_d00df 19 = .ok (.getfield 15, 3) := by decide +kernel
theorem dJ5_ensureCapacityInternal_d00df_22 : decode cJ5_ensureCapacityInternal_d00df 22 = .ok (.aload_n 0, 1) := by decide +kernel
theorem dJ5_ensureCapacityInternal_d00df_23 : decode cJ5_ensureCapacityInternal_d00df 23 = .ok (.iload_n 1, 1) := by decide +kernel
theorem dJ5_ensureCapacityInternal_d00df_24 : decode cJ5_ensureCapacityInternal_d00df 24 = .ok (.invokevirtual 104, 3) := by decide +kernel
theorem dJ5_ensureCapacityInternal_d00df_27 : decode cJ5_ensureCapacityInternal_d00df 27 = .ok (.aload_n 0, 1) := by decide +kernel
theorem dJ5_ensureCapacityInternal_d00df_28 : decode cJ5_ensureCapacityInternal_d00df 28 = .ok (.getfield 22, 3) := by decide +kernel
theorem dJ5_ensureCapacityInternal_d00df_31 : decode cJ5_ensureCapacityInternal_d00df 31 = .ok (.ishl, 1) := by decide +kernel
theorem dJ5_ensureCapacityInternal_d00df_32 : decode cJ5_ensureCapacityInternal_d00df 32 = .ok (.invokestatic 108, 3) := by decide +kernel
theorem dJ5_ensureCapacityInternal_d00df_35 : decode cJ5_ensureCapacityInternal_d00df 35 = .ok (.putfield 15, 3) := by decide +kernel
theorem dJ5_ensureCapacityInternal_d00df_38 : decode cJ5_ensureCapacityInternal_d00df 38 = .ok (.return_, 1) := by decide +kernel
theorem dJ5_newCapacity_0f7a4_0 : decode cJ5_newCapacity_0f7a4 0 = .ok (.aload_n 0, 1) := by decide +kernel
theorem dJ5_newCapacity_0f7a4_1 : decode cJ5_newCapacity_0f7a4 1 = .ok (.getfield 15, 3) := by decide +kernel
theorem dJ5_newCapacity_0f7a4_4 : decode cJ5_newCapacity_0f7a4 4 = .ok (.arraylength, 1) := by decide +kernel
theorem dJ5_newCapacity_0f7a4_5 : decode cJ5_newCapacity_0f7a4 5 = .ok (.istore_n 2, 1) := by decide +kernel
theorem dJ5_newCapacity_0f7a4_6 : decode cJ5_newCapacity_0f7a4 6 = .ok (.iload_n 1, 1) := by decide +kernel
theorem dJ5_newCapacity_0f7a4_7 : decode cJ5_newCapacity_0f7a4 7 = .ok (.aload_n 0, 1) := by decide +kernel
theorem dJ5_newCapacity_0f7a4_8 : decode cJ5_newCapacity_0f7a4 8 = .ok (.getfield 22, 3) := by decide +kernel
theorem dJ5_newCapacity_0f7a4_11 : decode cJ5_newCapacity_0f7a4 11 = .ok (.ishl, 1) := by decide +kernel
theorem dJ5_newCapacity_0f7a4_12 : decode cJ5_newCapacity_0f7a4 12 = .ok (.istore_n 3, 1) := by decide +kernel
theorem dJ5_newCapacity_0f7a4_13 : decode cJ5_newCapacity_0f7a4 13 = .ok (.iload_n 3, 1) := by decide +kernel
theorem dJ5_newCapacity_0f7a4_14 : decode cJ5_newCapacity_0f7a4 14 = .ok (.iload_n 2, 1) := by decide +kernel
theorem dJ5_newCapacity_0f7a4_15 : decode cJ5_newCapacity_0f7a4 15 = .ok (.isub, 1) := by decide +kernel
theorem dJ5_newCapacity_0f7a4_16 : decode cJ5_newCapacity_0f7a4 16 = .ok (.istore 4, 2) := by decide +kernel
theorem dJ5_newCapacity_0f7a4_18 : decode cJ5_newCapacity_0f7a4 18 = .ok (.iload_n 2, 1) := by decide +kernel
theorem dJ5_newCapacity_0f7a4_19 : decode cJ5_newCapacity_0f7a4 19 = .ok (.iload 4, 2) := by decide +kernel
theorem dJ5_newCapacity_0f7a4_21 : decode cJ5_newCapacity_0f7a4 21 = .ok (.iload_n 2, 1) := by decide +kernel
theorem dJ5_newCapacity_0f7a4_22 : decode cJ5_newCapacity_0f7a4 22 = .ok (.iconst 2, 1) := by decide +kernel
theorem dJ5_newCapacity_0f7a4_23 : decode cJ5_newCapacity_0f7a4 23 = .ok (.aload_n 0, 1) := by decide +kernel
theorem dJ5_newCapacity_0f7a4_24 : decode cJ5_newCapacity_0f7a4 24 = .ok (.getfield 22, 3) := by decide +kernel
theorem dJ5_newCapacity_0f7a4_27 : decode cJ5_newCapacity_0f7a4 27 = .ok (.ishl, 1) := by decide +kernel
theorem dJ5_newCapacity_0f7a4_28 : decode cJ5_newCapacity_0f7a4 28 = .ok (.iadd, 1) := by decide +kernel
theorem dJ5_newCapacity_0f7a4_29 : decode cJ5_newCapacity_0f7a4 29 = .ok (.invokestatic 114, 3) := by decide +kernel
theorem dJ5_newCapacity_0f7a4_32 : decode cJ5_newCapacity_0f7a4 32 = .ok (.istore 5, 2) := by decide +kernel
theorem dJ5_newCapacity_0f7a4_34 : decode cJ5_newCapacity_0f7a4 34 = .ok (.iload 5, 2) := by decide +kernel
theorem dJ5_newCapacity_0f7a4_36 : decode cJ5_newCapacity_0f7a4 36 = .ok (.ldc 39, 2) := by decide +kernel
theorem dJ5_newCapacity_0f7a4_38 : decode cJ5_newCapacity_0f7a4 38 = .ok (.if_icmp .ne 13, 3) := by decide +kernel
theorem dJ5_newCapacity_0f7a4_41 : decode cJ5_newCapacity_0f7a4 41 = .ok (.new 120, 3) := by decide +kernel
theorem dJ5_newCapacity_0f7a4_44 : decode cJ5_newCapacity_0f7a4 44 = .ok (.dup, 1) := by decide +kernel
theorem dJ5_newCapacity_0f7a4_45 : decode cJ5_newCapacity_0f7a4 45 = .ok (.ldc 122, 2) := by decide +kernel
theorem dJ5_newCapacity_0f7a4_47 : decode cJ5_newCapacity_0f7a4 47 = .ok (.invokespecial 124, 3) := by decide +kernel
theorem dJ5_newCapacity_0f7a4_50 : decode cJ5_newCapacity_0f7a4 50 = .ok (.athrow, 1) := by decide +kernel
theorem dJ5_newCapacity_0f7a4_51 : decode cJ5_newCapacity_0f7a4 51 = .ok (.iload 5, 2) := by decide +kernel
theorem dJ5_newCapacity_0f7a4_53 : decode cJ5_newCapacity_0f7a4 53 = .ok (.aload_n 0, 1) := by decide +kernel
theorem dJ5_newCapacity_0f7a4_54 : decode cJ5_newCapacity_0f7a4 54 = .ok (.getfield 22, 3) := by decide +kernel
theorem dJ5_newCapacity_0f7a4_57 : decode cJ5_newCapacity_0f7a4 57 = .ok (.ishr, 1) := by decide +kernel
theorem dJ5_newCapacity_0f7a4_58 : decode cJ5_newCapacity_0f7a4 58 = .ok (.ireturn, 1) := by decide +kernel
theorem dJ5_inflate_da8c8_0 : decode cJ5_inflate_da8c8 0 = .ok (.aload_n 0, 1) := by decide +kernel
theorem dJ5_inflate_da8c8_1 : decode cJ5_inflate_da8c8 1 = .ok (.invokevirtual 83, 3) := by decide +kernel
theorem dJ5_inflate_da8c8_4 : decode cJ5_inflate_da8c8 4 = .ok (.ifCond .ne 4, 3) := by decide +kernel
theorem dJ5_inflate_da8c8_7 : decode cJ5_inflate_da8c8 7 = .ok (.return_, 1) := by decide +kernel
theorem dJ5_inflate_da8c8_8 : decode cJ5_inflate_da8c8 8 = .ok (.aload_n 0, 1) := by decide +kernel
theorem dJ5_inflate_da8c8_9 : decode cJ5_inflate_da8c8 9 = .ok (.getfield 15, 3) := by decide +kernel
theorem dJ5_inflate_da8c8_12 : decode cJ5_inflate_da8c8 12 = .ok (.arraylength, 1) := by decide +kernel
theorem dJ5_inflate_da8c8_13 : decode cJ5_inflate_da8c8 13 = .ok (.invokestatic 26, 3) := by decide +kernel
theorem dJ5_inflate_da8c8_16 : decode cJ5_inflate_da8c8 16 = .ok (.astore_n 1, 1) := by decide +kernel
theorem dJ5_inflate_da8c8_17 : decode cJ5_inflate_da8c8 17 = .ok (.aload_n 0, 1) := by decide +kernel
theorem dJ5_inflate_da8c8_18 : decode cJ5_inflate_da8c8 18 = .ok (.getfield 15, 3) := by decide +kernel
theorem dJ5_inflate_da8c8_21 : decode cJ5_inflate_da8c8 21 = .ok (.iconst 0, 1) := by decide +kernel
theorem dJ5_inflate_da8c8_22 : decode cJ5_inflate_da8c8 22 = .ok (.aload_n 1, 1) := by decide +kernel
theorem dJ5_inflate_da8c8_23 : decode cJ5_inflate_da8c8 23 = .ok (.iconst 0, 1) := by decide +kernel
theorem dJ5_inflate_da8c8_24 : decode cJ5_inflate_da8c8 24 = .ok (.aload_n 0, 1) := by decide +kernel
theorem dJ5_inflate_da8c8_25 : decode cJ5_inflate_da8c8 25 = .ok (.getfield 79, 3) := by decide +kernel
theorem dJ5_inflate_da8c8_28 : decode cJ5_inflate_da8c8 28 = .ok (.invokestatic 125, 3) := by decide +kernel
theorem dJ5_inflate_da8c8_31 : decode cJ5_inflate_da8c8 31 = .ok (.aload_n 0, 1) := by decide +kernel
theorem dJ5_inflate_da8c8_32 : decode cJ5_inflate_da8c8 32 = .ok (.aload_n 1, 1) := by decide +kernel
theorem dJ5_inflate_da8c8_33 : decode cJ5_inflate_da8c8 33 = .ok (.putfield 15, 3) := by decide +kernel
theorem dJ5_inflate_da8c8_36 : decode cJ5_inflate_da8c8 36 = .ok (.aload_n 0, 1) := by decide +kernel
theorem dJ5_inflate_da8c8_37 : decode cJ5_inflate_da8c8 37 = .ok (.iconst 1, 1) := by decide +kernel
theorem dJ5_inflate_da8c8_38 : decode cJ5_inflate_da8c8 38 = .ok (.putfield 22, 3) := by decide +kernel
theorem dJ5_inflate_da8c8_41 : decode cJ5_inflate_da8c8 41 = .ok (.return_, 1) := by decide +kernel
theorem dJ5_append_cf1ce_0 : decode cJ5_append_cf1ce 0 = .ok (.aload_n 1, 1) := by decide +kernel
theorem dJ5_append_cf1ce_1 : decode cJ5_append_cf1ce 1 = .ok (.ifnonnull 8, 3) := by decide +kernel
theorem dJ5_append_cf1ce_4 : decode cJ5_append_cf1ce 4 = .ok (.aload_n 0, 1) := by decide +kernel
theorem dJ5_append_cf1ce_5 : decode cJ5_append_cf1ce 5 = .ok (.invokevirtual 204, 3) := by decide +kernel
theorem dJ5_append_cf1ce_8 : decode cJ5_append_cf1ce 8 = .ok (.areturn, 1) := by decide +kernel
theorem dJ5_append_cf1ce_9 : decode cJ5_append_cf1ce 9 = .ok (.aload_n 1, 1) := by decide +kernel
theorem dJ5_append_cf1ce_10 : decode cJ5_append_cf1ce 10 = .ok (.invokevirtual 32, 3) := by decide +kernel
theorem dJ5_append_cf1ce_13 : decode cJ5_append_cf1ce 13 = .ok (.istore_n 2, 1) := by decide +kernel
theorem dJ5_append_cf1ce_14 : decode cJ5_append_cf1ce 14 = .ok (.aload_n 0, 1) := by decide +kernel
theorem dJ5_append_cf1ce_15 : decode cJ5_append_cf1ce 15 = .ok (.aload_n 0, 1) := by decide +kernel
theorem dJ5_append_cf1ce_16 : decode cJ5_append_cf1ce 16 = .ok (.getfield 79, 3) := by decide +kernel
theorem dJ5_append_cf1ce_19 : decode cJ5_append_cf1ce 19 = .ok (.iload_n 2, 1) := by decide +kernel
theorem dJ5_append_cf1ce_20 : decode cJ5_append_cf1ce 20 = .ok (.iadd, 1) := by decide +kernel
theorem dJ5_append_cf1ce_21 : decode cJ5_append_cf1ce 21 = .ok (.invokevirtual 100, 3) := by decide +kernel
theorem dJ5_append_cf1ce_24 : decode cJ5_append_cf1ce 24 = .ok (.aload_n 0, 1) := by decide +kernel
theorem dJ5_append_cf1ce_25 : decode cJ5_append_cf1ce 25 = .ok (.aload_n 0, 1) := by decide +kernel
theorem dJ5_append_cf1ce_26 : decode cJ5_append_cf1ce 26 = .ok (.getfield 79, 3) := by decide +kernel
theorem dJ5_append_cf1ce_29 : decode cJ5_append_cf1ce 29 = .ok (.aload_n 1, 1) := by decide +kernel
theorem dJ5_append_cf1ce_30 : decode cJ5_append_cf1ce 30 = .ok (.invokevirtual 208, 3) := by decide +kernel
theorem dJ5_append_cf1ce_33 : decode cJ5_append_cf1ce 33 = .ok (.aload_n 0, 1) := by decide +kernel
theorem dJ5_append_cf1ce_34 : decode cJ5_append_cf1ce 34 = .ok (.dup, 1) := by decide +kernel
theorem dJ5_append_cf1ce_35 : decode cJ5_append_cf1ce 35 = .ok (.getfield 79, 3) := by decide +kernel
theorem dJ5_append_cf1ce_38 : decode cJ5_append_cf1ce 38 = .ok (.iload_n 2, 1) := by decide +kernel
theorem dJ5_append_cf1ce_39 : decode cJ5_append_cf1ce 39 = .ok (.iadd, 1) := by decide +kernel
theorem dJ5_append_cf1ce_40 : decode cJ5_append_cf1ce 40 = .ok (.putfield 79, 3) := by decide +kernel
theorem dJ5_append_cf1ce_43 : decode cJ5_append_cf1ce 43 = .ok (.aload_n 0, 1) := by decide +kernel
theorem dJ5_append_cf1ce_44 : decode cJ5_append_cf1ce 44 = .ok (.areturn, 1) := by decide +kernel
theorem dJ5_appendNull_278bc_0 : decode cJ5_appendNull_278bc 0 = .ok (.aload_n 0, 1) := by decide +kernel
theorem dJ5_appendNull_278bc_1 : decode cJ5_appendNull_278bc 1 = .ok (.aload_n 0, 1) := by decide +kernel
theorem dJ5_appendNull_278bc_2 : decode cJ5_appendNull_278bc 2 = .ok (.getfield 79, 3) := by decide +kernel
theorem dJ5_appendNull_278bc_5 : decode cJ5_appendNull_278bc 5 = .ok (.iconst 4, 1) := by decide +kernel
theorem dJ5_appendNull_278bc_6 : decode cJ5_appendNull_278bc 6 = .ok (.iadd, 1) := by decide +kernel
theorem dJ5_appendNull_278bc_7 : decode cJ5_appendNull_278bc 7 = .ok (.invokevirtual 100, 3) := by decide +kernel
theorem dJ5_appendNull_278bc_10 : decode cJ5_appendNull_278bc 10 = .ok (.aload_n 0, 1) := by decide +kernel
theorem dJ5_appendNull_278bc_11 : decode cJ5_appendNull_278bc 11 = .ok (.getfield 79, 3) := by decide +kernel
theorem dJ5_appendNull_278bc_14 : decode cJ5_appendNull_278bc 14 = .ok (.istore_n 1, 1) := by decide +kernel
theorem dJ5_appendNull_278bc_15 : decode cJ5_appendNull_278bc 15 = .ok (.aload_n 0, 1) := by decide +kernel
theorem dJ5_appendNull_278bc_16 : decode cJ5_appendNull_278bc 16 = .ok (.getfield 15, 3) := by decide +kernel
theorem dJ5_appendNull_278bc_19 : decode cJ5_appendNull_278bc 19 = .ok (.astore_n 2, 1) := by decide +kernel
theorem dJ5_appendNull_278bc_20 : decode cJ5_appendNull_278bc 20 = .ok (.aload_n 0, 1) := by decide +kernel
theorem dJ5_appendNull_278bc_21 : decode cJ5_appendNull_278bc 21 = .ok (.invokevirtual 83, 3) := by decide +kernel
theorem dJ5_appendNull_278bc_24 : decode cJ5_appendNull_278bc 24 = .ok (.ifCond .eq 38, 3) := by decide +kernel
theorem dJ5_appendNull_278bc_27 : decode cJ5_appendNull_278bc 27 = .ok (.aload_n 2, 1) := by decide +kernel
theorem dJ5_appendNull_278bc_28 : decode cJ5_appendNull_278bc 28 = .ok (.iload_n 1, 1) := by decide +kernel
theorem dJ5_appendNull_278bc_29 : decode cJ5_appendNull_278bc 29 = .ok (.iinc 1 1, 3) := by decide +kernel
theorem dJ5_appendNull_278bc_32 : decode cJ5_appendNull_278bc 32 = .ok (.bipush 110, 2) := by decide +kernel
theorem dJ5_appendNull_278bc_34 : decode cJ5_appendNull_278bc 34 = .ok (.bastore, 1) := by decide +kernel
theorem dJ5_appendNull_278bc_35 : decode cJ5_appendNull_278bc 35 = .ok (.aload_n 2, 1) := by decide +kernel
theorem dJ5_appendNull_278bc_36 : decode cJ5_appendNull_278bc 36 = .ok (.iload_n 1, 1) := by decide +kernel
theorem dJ5_appendNull_278bc_37 : decode cJ5_appendNull_278bc 37 = .ok (.iinc 1 1, 3) := by decide +kernel
theorem dJ5_appendNull_278bc_40 : decode cJ5_appendNull_278bc 40 = .ok (.bipush 117, 2) := by decide +kernel
theorem dJ5_appendNull_278bc_42 : decode cJ5_appendNull_278bc 42 = .ok (.bastore, 1) := by decide +kernel
theorem dJ5_appendNull_278bc_43 : decode cJ5_appendNull_278bc 43 = .ok (.aload_n 2, 1) := by decide +kernel
theorem dJ5_appendNull_278bc_44 : decode cJ5_appendNull_278bc 44 = .ok (.iload_n 1, 1) := by decide +kernel
theorem dJ5_appendNull_278bc_45 : decode cJ5_appendNull_278bc 45 = .ok (.iinc 1 1, 3) := by decide +kernel
theorem dJ5_appendNull_278bc_48 : decode cJ5_appendNull_278bc 48 = .ok (.bipush 108, 2) := by decide +kernel
theorem dJ5_appendNull_278bc_50 : decode cJ5_appendNull_278bc 50 = .ok (.bastore, 1) := by decide +kernel
theorem dJ5_appendNull_278bc_51 : decode cJ5_appendNull_278bc 51 = .ok (.aload_n 2, 1) := by decide +kernel
theorem dJ5_appendNull_278bc_52 : decode cJ5_appendNull_278bc 52 = .ok (.iload_n 1, 1) := by decide +kernel
theorem dJ5_appendNull_278bc_53 : decode cJ5_appendNull_278bc 53 = .ok (.iinc 1 1, 3) := by decide +kernel
theorem dJ5_appendNull_278bc_56 : decode cJ5_appendNull_278bc 56 = .ok (.bipush 108, 2) := by decide +kernel
theorem dJ5_appendNull_278bc_58 : decode cJ5_appendNull_278bc 58 = .ok (.bastore, 1) := by decide +kernel
theorem dJ5_appendNull_278bc_59 : decode cJ5_appendNull_278bc 59 = .ok (.goto 17, 3) := by decide +kernel
theorem dJ5_appendNull_278bc_62 : decode cJ5_appendNull_278bc 62 = .ok (.aload_n 2, 1) := by decide +kernel
theorem dJ5_appendNull_278bc_63 : decode cJ5_appendNull_278bc 63 = .ok (.iload_n 1, 1) := by decide +kernel
theorem dJ5_appendNull_278bc_64 : decode cJ5_appendNull_278bc 64 = .ok (.bipush 110, 2) := by decide +kernel
theorem dJ5_appendNull_278bc_66 : decode cJ5_appendNull_278bc 66 = .ok (.bipush 117, 2) := by decide +kernel
theorem dJ5_appendNull_278bc_68 : decode cJ5_appendNull_278bc 68 = .ok (.bipush 108, 2) := by decide +kernel
theorem dJ5_appendNull_278bc_70 : decode cJ5_appendNull_278bc 70 = .ok (.bipush 108, 2) := by decide +kernel
theorem dJ5_appendNull_278bc_72 : decode cJ5_appendNull_278bc 72 = .ok (.invokestatic 226, 3) := by decide +kernel
theorem dJ5_appendNull_278bc_75 : decode cJ5_appendNull_278bc 75 = .ok (.istore_n 1, 1) := by decide +kernel
theorem dJ5_appendNull_278bc_76 : decode cJ5_appendNull_278bc 76 = .ok (.aload_n 0, 1) := by decide +kernel
theorem dJ5_appendNull_278bc_77 : decode cJ5_appendNull_278bc 77 = .ok (.iload_n 1, 1) := by decide +kernel
theorem dJ5_appendNull_278bc_78 : decode cJ5_appendNull_278bc 78 = .ok (.putfield 79, 3) := by decide +kernel
theorem dJ5_appendNull_278bc_81 : decode cJ5_appendNull_278bc 81 = .ok (.aload_n 0, 1) := by decide +kernel
theorem dJ5_appendNull_278bc_82 : decode cJ5_appendNull_278bc 82 = .ok (.areturn, 1) := by decide +kernel
theorem dJ5_append_3fe6f_0 : decode cJ5_append_3fe6f 0 = .ok (.aload_n 0, 1) := by decide +kernel
theorem dJ5_append_3fe6f_1 : decode cJ5_append_3fe6f 1 = .ok (.aload_n 0, 1) := by decide +kernel
theorem dJ5_append_3fe6f_2 : decode cJ5_append_3fe6f 2 = .ok (.getfield 79, 3) := by decide +kernel
theorem dJ5_append_3fe6f_5 : decode cJ5_append_3fe6f 5 = .ok (.iconst 1, 1) := by decide +kernel
theorem dJ5_append_3fe6f_6 : decode cJ5_append_3fe6f 6 = .ok (.iadd, 1) := by decide +kernel
theorem dJ5_append_3fe6f_7 : decode cJ5_append_3fe6f 7 = .ok (.invokevirtual 100, 3) := by decide +kernel
theorem dJ5_append_3fe6f_10 : decode cJ5_append_3fe6f 10 = .ok (.aload_n 0, 1) := by decide +kernel
theorem dJ5_append_3fe6f_11 : decode cJ5_append_3fe6f 11 = .ok (.invokevirtual 83, 3) := by decide +kernel
theorem dJ5_append_3fe6f_14 : decode cJ5_append_3fe6f 14 = .ok (.ifCond .eq 31, 3) := by decide +kernel
theorem dJ5_append_3fe6f_17 : decode cJ5_append_3fe6f 17 = .ok (.iload_n 1, 1) := by decide +kernel
theorem dJ5_append_3fe6f_18 : decode cJ5_append_3fe6f 18 = .ok (.invokestatic 191, 3) := by decide +kernel
theorem dJ5_append_3fe6f_21 : decode cJ5_append_3fe6f 21 = .ok (.ifCond .eq 24, 3) := by decide +kernel
theorem dJ5_append_3fe6f_24 : decode cJ5_append_3fe6f 24 = .ok (.aload_n 0, 1) := by decide +kernel
theorem dJ5_append_3fe6f_25 : decode cJ5_append_3fe6f 25 = .ok (.getfield 15, 3) := by decide +kernel
theorem dJ5_append_3fe6f_28 : decode cJ5_append_3fe6f 28 = .ok (.aload_n 0, 1) := by decide +kernel
theorem dJ5_append_3fe6f_29 : decode cJ5_append_3fe6f 29 = .ok (.dup, 1) := by decide +kernel
theorem dJ5_append_3fe6f_30 : decode cJ5_append_3fe6f 30 = .ok (.getfield 79, 3) := by decide +kernel
theorem dJ5_append_3fe6f_33 : decode cJ5_append_3fe6f 33 = .ok (.dup_x1, 1) := by decide +kernel
theorem dJ5_append_3fe6f_34 : decode cJ5_append_3fe6f 34 = .ok (.iconst 1, 1) := by decide +kernel
theorem dJ5_append_3fe6f_35 : decode cJ5_append_3fe6f 35 = .ok (.iadd, 1) := by decide +kernel
theorem dJ5_append_3fe6f_36 : decode cJ5_append_3fe6f 36 = .ok (.putfield 79, 3) := by decide +kernel
theorem dJ5_append_3fe6f_39 : decode cJ5_append_3fe6f 39 = .ok (.iload_n 1, 1) := by decide +kernel
theorem dJ5_append_3fe6f_40 : decode cJ5_append_3fe6f 40 = .ok (.i2b, 1) := by decide +kernel
theorem dJ5_append_3fe6f_41 : decode cJ5_append_3fe6f 41 = .ok (.bastore, 1) := by decide +kernel
theorem dJ5_append_3fe6f_42 : decode cJ5_append_3fe6f 42 = .ok (.goto 33, 3) := by decide +kernel
theorem dJ5_append_3fe6f_45 : decode cJ5_append_3fe6f 45 = .ok (.aload_n 0, 1) := by decide +kernel
theorem dJ5_append_3fe6f_46 : decode cJ5_append_3fe6f 46 = .ok (.invokevirtual 83, 3) := by decide +kernel
theorem dJ5_append_3fe6f_49 : decode cJ5_append_3fe6f 49 = .ok (.ifCond .eq 7, 3) := by decide +kernel
theorem dJ5_append_3fe6f_52 : decode cJ5_append_3fe6f 52 = .ok (.aload_n 0, 1) := by decide +kernel
theorem dJ5_append_3fe6f_53 : decode cJ5_append_3fe6f 53 = .ok (.invokevirtual 195, 3) := by decide +kernel
theorem dJ5_append_3fe6f_56 : decode cJ5_append_3fe6f 56 = .ok (.aload_n 0, 1) := by decide +kernel
theorem dJ5_append_3fe6f_57 : decode cJ5_append_3fe6f 57 = .ok (.getfield 15, 3) := by decide +kernel
theorem dJ5_append_3fe6f_60 : decode cJ5_append_3fe6f 60 = .ok (.aload_n 0, 1) := by decide +kernel
theorem dJ5_append_3fe6f_61 : decode cJ5_append_3fe6f 61 = .ok (.dup, 1) := by decide +kernel
theorem dJ5_append_3fe6f_62 : decode cJ5_append_3fe6f 62 = .ok (.getfield 79, 3) := by decide +kernel
theorem dJ5_append_3fe6f_65 : decode cJ5_append_3fe6f 65 = .ok (.dup_x1, 1) := by decide +kernel
theorem dJ5_append_3fe6f_66 : decode cJ5_append_3fe6f 66 = .ok (.iconst 1, 1) := by decide +kernel
theorem dJ5_append_3fe6f_67 : decode cJ5_append_3fe6f 67 = .ok (.iadd, 1) := by decide +kernel
theorem dJ5_append_3fe6f_68 : decode cJ5_append_3fe6f 68 = .ok (.putfield 79, 3) := by decide +kernel
theorem dJ5_append_3fe6f_71 : decode cJ5_append_3fe6f 71 = .ok (.iload_n 1, 1) := by decide +kernel
theorem dJ5_append_3fe6f_72 : decode cJ5_append_3fe6f 72 = .ok (.invokestatic 197, 3) := by decide +kernel
theorem dJ5_append_3fe6f_75 : decode cJ5_append_3fe6f 75 = .ok (.aload_n 0, 1) := by decide +kernel
theorem dJ5_append_3fe6f_76 : decode cJ5_append_3fe6f 76 = .ok (.areturn, 1) := by decide +kernel
theorem dJ5_append_c97b9_0 : decode cJ5_append_c97b9 0 = .ok (.aload_n 0, 1) := by decide +kernel
theorem dJ5_append_c97b9_1 : decode cJ5_append_c97b9 1 = .ok (.getfield 79, 3) := by decide +kernel
theorem dJ5_append_c97b9_4 : decode cJ5_append_c97b9 4 = .ok (.istore_n 2, 1) := by decide +kernel
theorem dJ5_append_c97b9_5 : decode cJ5_append_c97b9 5 = .ok (.iload_n 2, 1) := by decide +kernel
theorem dJ5_append_c97b9_6 : decode cJ5_append_c97b9 6 = .ok (.iload_n 1, 1) := by decide +kernel
theorem dJ5_append_c97b9_7 : decode cJ5_append_c97b9 7 = .ok (.invokestatic 245, 3) := by decide +kernel
theorem dJ5_append_c97b9_10 : decode cJ5_append_c97b9 10 = .ok (.iadd, 1) := by decide +kernel
theorem dJ5_append_c97b9_11 : decode cJ5_append_c97b9 11 = .ok (.istore_n 3, 1) := by decide +kernel
theorem dJ5_append_c97b9_12 : decode cJ5_append_c97b9 12 = .ok (.aload_n 0, 1) := by decide +kernel
theorem dJ5_append_c97b9_13 : decode cJ5_append_c97b9 13 = .ok (.iload_n 3, 1) := by decide +kernel
theorem dJ5_append_c97b9_14 : decode cJ5_append_c97b9 14 = .ok (.invokevirtual 100, 3) := by decide +kernel
theorem dJ5_append_c97b9_17 : decode cJ5_append_c97b9 17 = .ok (.aload_n 0, 1) := by decide +kernel
theorem dJ5_append_c97b9_18 : decode cJ5_append_c97b9 18 = .ok (.invokevirtual 83, 3) := by decide +kernel
theorem dJ5_append_c97b9_21 : decode cJ5_append_c97b9 21 = .ok (.ifCond .eq 16, 3) := by decide +kernel
theorem dJ5_append_c97b9_24 : decode cJ5_append_c97b9 24 = .ok (.iload_n 1, 1) := by decide +kernel
theorem dJ5_append_c97b9_25 : decode cJ5_append_c97b9 25 = .ok (.iload_n 3, 1) := by decide +kernel
theorem dJ5_append_c97b9_26 : decode cJ5_append_c97b9 26 = .ok (.aload_n 0, 1) := by decide +kernel
theorem dJ5_append_c97b9_27 : decode cJ5_append_c97b9 27 = .ok (.getfield 15, 3) := by decide +kernel
theorem dJ5_append_c97b9_30 : decode cJ5_append_c97b9 30 = .ok (.invokestatic 248, 3) := by decide +kernel
theorem dJ5_append_c97b9_33 : decode cJ5_append_c97b9 33 = .ok (.pop, 1) := by decide +kernel
theorem dJ5_append_c97b9_34 : decode cJ5_append_c97b9 34 = .ok (.goto 14, 3) := by decide +kernel
theorem dJ5_append_c97b9_37 : decode cJ5_append_c97b9 37 = .ok (.iload_n 1, 1) := by decide +kernel
theorem dJ5_append_c97b9_38 : decode cJ5_append_c97b9 38 = .ok (.iload_n 2, 1) := by decide +kernel
theorem dJ5_append_c97b9_39 : decode cJ5_append_c97b9 39 = .ok (.iload_n 3, 1) := by decide +kernel
theorem dJ5_append_c97b9_40 : decode cJ5_append_c97b9 40 = .ok (.aload_n 0, 1) := by decide +kernel
theorem dJ5_append_c97b9_41 : decode cJ5_append_c97b9 41 = .ok (.getfield 15, 3) := by decide +kernel
theorem dJ5_append_c97b9_44 : decode cJ5_append_c97b9 44 = .ok (.invokestatic 251, 3) := by decide +kernel
theorem dJ5_append_c97b9_47 : decode cJ5_append_c97b9 47 = .ok (.pop, 1) := by decide +kernel
theorem dJ5_append_c97b9_48 : decode cJ5_append_c97b9 48 = .ok (.aload_n 0, 1) := by decide +kernel
theorem dJ5_append_c97b9_49 : decode cJ5_append_c97b9 49 = .ok (.iload_n 3, 1) := by decide +kernel
theorem dJ5_append_c97b9_50 : decode cJ5_append_c97b9 50 = .ok (.putfield 79, 3) := by decide +kernel
theorem dJ5_append_c97b9_53 : decode cJ5_append_c97b9 53 = .ok (.aload_n 0, 1) := by decide +kernel
theorem dJ5_append_c97b9_54 : decode cJ5_append_c97b9 54 = .ok (.areturn, 1) := by decide +kernel
theorem dJ5_getValue_6d5f1_0 : decode cJ5_getValue_6d5f1 0 = .ok (.aload_n 0, 1) := by decide +kernel
theorem dJ5_getValue_6d5f1_1 : decode cJ5_getValue_6d5f1 1 = .ok (.getfield 15, 3) := by decide +kernel
theorem dJ5_getValue_6d5f1_4 : decode cJ5_getValue_6d5f1 4 = .ok (.areturn, 1) := by decide +kernel
theorem dJ5_isLatin1_aae02_0 : decode cJ5_isLatin1_aae02 0 = .ok (.getstatic 18, 3) := by decide +kernel
theorem dJ5_isLatin1_aae02_3 : decode cJ5_isLatin1_aae02 3 = .ok (.ifCond .eq 14, 3) := by decide +kernel
theorem dJ5_isLatin1_aae02_6 : decode cJ5_isLatin1_aae02 6 = .ok (.aload_n 0, 1) := by decide +kernel
theorem dJ5_isLatin1_aae02_7 : decode cJ5_isLatin1_aae02 7 = .ok (.getfield 22, 3) := by decide +kernel
theorem dJ5_isLatin1_aae02_10 : decode cJ5_isLatin1_aae02 10 = .ok (.ifCond .ne 7, 3) := by decide +kernel
theorem dJ5_isLatin1_aae02_13 : decode cJ5_isLatin1_aae02 13 = .ok (.iconst 1, 1) := by decide +kernel
theorem dJ5_isLatin1_aae02_14 : decode cJ5_isLatin1_aae02 14 = .ok (.goto 4, 3) := by decide +kernel
theorem dJ5_isLatin1_aae02_17 : decode cJ5_isLatin1_aae02 17 = .ok (.iconst 0, 1) := by decide +kernel
theorem dJ5_isLatin1_aae02_18 : decode cJ5_isLatin1_aae02 18 = .ok (.ireturn, 1) := by decide +kernel
theorem dJ5_inflateIfNeededFor_a7421_0 : decode cJ5_inflateIfNeededFor_a7421 0 = .ok (.getstatic 18, 3) := by decide +kernel
theorem dJ5_inflateIfNeededFor_a7421_3 : decode cJ5_inflateIfNeededFor_a7421 3 = .ok (.ifCond .eq 18, 3) := by decide +kernel
theorem dJ5_inflateIfNeededFor_a7421_6 : decode cJ5_inflateIfNeededFor_a7421 6 = .ok (.aload_n 0, 1) := by decide +kernel
theorem dJ5_inflateIfNeededFor_a7421_7 : decode cJ5_inflateIfNeededFor_a7421 7 = .ok (.getfield 22, 3) := by decide +kernel
theorem dJ5_inflateIfNeededFor_a7421_10 : decode cJ5_inflateIfNeededFor_a7421 10 = .ok (.aload_n 1, 1) := by decide +kernel
theorem dJ5_inflateIfNeededFor_a7421_11 : decode cJ5_inflateIfNeededFor_a7421 11 = .ok (.invokevirtual 40, 3) := by decide +kernel
theorem dJ5_inflateIfNeededFor_a7421_14 : decode cJ5_inflateIfNeededFor_a7421 14 = .ok (.if_icmp .eq 7, 3) := by decide +kernel
theorem dJ5_inflateIfNeededFor_a7421_17 : decode cJ5_inflateIfNeededFor_a7421 17 = .ok (.aload_n 0, 1) := by decide +kernel
theorem dJ5_inflateIfNeededFor_a7421_18 : decode cJ5_inflateIfNeededFor_a7421 18 = .ok (.invokevirtual 195, 3) := by decide +kernel
theorem dJ5_inflateIfNeededFor_a7421_21 : decode cJ5_inflateIfNeededFor_a7421 21 = .ok (.return_, 1) := by decide +kernel
theorem dJ5_putStringAt_47b60_0 : decode cJ5_putStringAt_47b60 0 = .ok (.aload_n 0, 1) := by decide +kernel
theorem dJ5_putStringAt_47b60_1 : decode cJ5_putStringAt_47b60 1 = .ok (.aload_n 2, 1) := by decide +kernel
theorem dJ5_putStringAt_47b60_2 : decode cJ5_putStringAt_47b60 2 = .ok (.invokevirtual 397, 3) := by decide +kernel
theorem dJ5_putStringAt_47b60_5 : decode cJ5_putStringAt_47b60 5 = .ok (.aload_n 2, 1) := by decide +kernel
theorem dJ5_putStringAt_47b60_6 : decode cJ5_putStringAt_47b60 6 = .ok (.aload_n 0, 1) := by decide +kernel
theorem dJ5_putStringAt_47b60_7 : decode cJ5_putStringAt_47b60 7 = .ok (.getfield 15, 3) := by decide +kernel
theorem dJ5_putStringAt_47b60_10 : decode cJ5_putStringAt_47b60 10 = .ok (.iload_n 1, 1) := by decide +kernel
theorem dJ5_putStringAt_47b60_11 : decode cJ5_putStringAt_47b60 11 = .ok (.aload_n 0, 1) := by decide +kernel
theorem dJ5_putStringAt_47b60_12 : decode cJ5_putStringAt_47b60 12 = .ok (.getfield 22, 3) := by decide +kernel
theorem dJ5_putStringAt_47b60_15 : decode cJ5_putStringAt_47b60 15 = .ok (.invokevirtual 399, 3) := by decide +kernel
theorem dJ5_putStringAt_47b60_18 : decode cJ5_putStringAt_47b60 18 = .ok (.return_, 1) := by decide +kernel
theorem dJ6_getChars_ba4f3_0 : decode cJ6_getChars_ba4f3 0 = .ok (.iload_n 1, 1) := by decide +kernel
theorem dJ6_getChars_ba4f3_1 : decode cJ6_getChars_ba4f3 1 = .ok (.istore 5, 2) := by decide +kernel
theorem dJ6_getChars_ba4f3_3 : decode cJ6_getChars_ba4f3 3 = .ok (.iload_n 0, 1) := by decide +kernel
theorem dJ6_getChars_ba4f3_4 : decode cJ6_getChars_ba4f3 4 = .ok (.ifCond .ge 7, 3) := by decide +kernel
theorem dJ6_getChars_ba4f3_7 : decode cJ6_getChars_ba4f3 7 = .ok (.iconst 1, 1) := by decide +kernel
theorem dJ6_getChars_ba4f3_8 : decode cJ6_getChars_ba4f3 8 = .ok (.goto 4, 3) := by decide +kernel
theorem dJ6_getChars_ba4f3_11 : decode cJ6_getChars_ba4f3 11 = .ok (.iconst 0, 1) := by decide +kernel
theorem dJ6_getChars_ba4f3_12 : decode cJ6_getChars_ba4f3 12 = .ok (.istore 6, 2) := by decide +kernel
theorem dJ6_getChars_ba4f3_14 : decode cJ6_getChars_ba4f3 14 = .ok (.iload 6, 2) := by decide +kernel
theorem dJ6_getChars_ba4f3_16 : decode cJ6_getChars_ba4f3 16 = .ok (.ifCond .ne 6, 3) := by decide +kernel
theorem dJ6_getChars_ba4f3_19 : decode cJ6_getChars_ba4f3 19 = .ok (.iload_n 0, 1) := by decide +kernel
theorem dJ6_getChars_ba4f3_20 : decode cJ6_getChars_ba4f3 20 = .ok (.ineg, 1) := by decide +kernel
theorem dJ6_getChars_ba4f3_21 : decode cJ6_getChars_ba4f3 21 = .ok (.istore_n 0, 1) := by decide +kernel
theorem dJ6_getChars_ba4f3_22 : decode cJ6_getChars_ba4f3 22 = .ok (.iload_n 0, 1) := by decide +kernel
theorem dJ6_getChars_ba4f3_23 : decode cJ6_getChars_ba4f3 23 = .ok (.bipush (-100), 2) := by decide +kernel
theorem dJ6_getChars_ba4f3_25 : decode cJ6_getChars_ba4f3 25 = .ok (.if_icmp .gt 47, 3) := by decide +kernel
theorem dJ6_getChars_ba4f3_28 : decode cJ6_getChars_ba4f3 28 = .ok (.iload_n 0, 1) := by decide +kernel
theorem dJ6_getChars_ba4f3_29 : decode cJ6_getChars_ba4f3 29 = .ok (.bipush 100, 2) := by decide +kernel
theorem dJ6_getChars_ba4f3_31 : decode cJ6_getChars_ba4f3 31 = .ok (.idiv, 1) := by decide +kernel
theorem dJ6_getChars_ba4f3_32 : decode cJ6_getChars_ba4f3 32 = .ok (.istore_n 3, 1) := by decide +kernel
theorem dJ6_getChars_ba4f3_33 : decode cJ6_getChars_ba4f3 33 = .ok (.iload_n 3, 1) := by decide +kernel
theorem dJ6_getChars_ba4f3_34 : decode cJ6_getChars_ba4f3 34 = .ok (.bipush 100, 2) := by decide +kernel
theorem dJ6_getChars_ba4f3_36 : decode cJ6_getChars_ba4f3 36 = .ok (.imul, 1) := by decide +kernel
theorem dJ6_getChars_ba4f3_37 : decode cJ6_getChars_ba4f3 37 = .ok (.iload_n 0, 1) := by decide +kernel
theorem dJ6_getChars_ba4f3_38 : decode cJ6_getChars_ba4f3 38 = .ok (.isub, 1) := by decide +kernel
theorem dJ6_getChars_ba4f3_39 : decode cJ6_getChars_ba4f3 39 = .ok (.istore 4, 2) := by decide +kernel
theorem dJ6_getChars_ba4f3_41 : decode cJ6_getChars_ba4f3 41 = .ok (.iload_n 3, 1) := by decide +kernel
theorem dJ6_getChars_ba4f3_42 : decode cJ6_getChars_ba4f3 42 = .ok (.istore_n 0, 1) := by decide +kernel
theorem dJ6_getChars_ba4f3_43 : decode cJ6_getChars_ba4f3 43 = .ok (.aload_n 2, 1) := by decide +kernel
theorem dJ6_getChars_ba4f3_44 : decode cJ6_getChars_ba4f3 44 = .ok (.iinc 5 (-1), 3) := by decide +kernel
theorem dJ6_getChars_ba4f3_47 : decode cJ6_getChars_ba4f3 47 = .ok (.iload 5, 2) := by decide +kernel
theorem dJ6_getChars_ba4f3_49 : decode cJ6_getChars_ba4f3 49 = .ok (.getstatic 83, 3) := by decide +kernel
theorem dJ6_getChars_ba4f3_52 : decode cJ6_getChars_ba4f3 52 = .ok (.iload 4, 2) := by decide +kernel
theorem dJ6_getChars_ba4f3_54 : decode cJ6_getChars_ba4f3 54 = .ok (.baload, 1) := by decide +kernel
theorem dJ6_getChars_ba4f3_55 : decode cJ6_getChars_ba4f3 55 = .ok (.bastore, 1) := by decide +kernel
theorem dJ6_getChars_ba4f3_56 : decode cJ6_getChars_ba4f3 56 = .ok (.aload_n 2, 1) := by decide +kernel
theorem dJ6_getChars_ba4f3_57 : decode cJ6_getChars_ba4f3 57 = .ok (.iinc 5 (-1), 3) := by decide +kernel
theorem dJ6_getChars_ba4f3_60 : decode cJ6_getChars_ba4f3 60 = .ok (.iload 5, 2) := by decide +kernel
theorem dJ6_getChars_ba4f3_62 : decode cJ6_getChars_ba4f3 62 = .ok (.getstatic 87, 3) := by decide +kernel
theorem dJ6_getChars_ba4f3_65 : decode cJ6_getChars_ba4f3 65 = .ok (.iload 4, 2) := by decide +kernel
theorem dJ6_getChars_ba4f3_67 : decode cJ6_getChars_ba4f3 67 = .ok (.baload, 1) := by decide +kernel
theorem dJ6_getChars_ba4f3_68 : decode cJ6_getChars_ba4f3 68 = .ok (.bastore, 1) := by decide +kernel
theorem dJ6_getChars_ba4f3_69 : decode cJ6_getChars_ba4f3 69 = .ok (.goto (-47), 3) := by decide +kernel
theorem dJ6_getChars_ba4f3_72 : decode cJ6_getChars_ba4f3 72 = .ok (.aload_n 2, 1) := by decide +kernel
theorem dJ6_getChars_ba4f3_73 : decode cJ6_getChars_ba4f3 73 = .ok (.iinc 5 (-1), 3) := by decide +kernel
theorem dJ6_getChars_ba4f3_76 : decode cJ6_getChars_ba4f3 76 = .ok (.iload 5, 2) := by decide +kernel
theorem dJ6_getChars_ba4f3_78 : decode cJ6_getChars_ba4f3 78 = .ok (.getstatic 83, 3) := by decide +kernel
theorem dJ6_getChars_ba4f3_81 : decode cJ6_getChars_ba4f3 81 = .ok (.iload_n 0, 1) := by decide +kernel
theorem dJ6_getChars_ba4f3_82 : decode cJ6_getChars_ba4f3 82 = .ok (.ineg, 1) := by decide +kernel
theorem dJ6_getChars_ba4f3_83 : decode cJ6_getChars_ba4f3 83 = .ok (.baload, 1) := by decide +kernel
theorem dJ6_getChars_ba4f3_84 : decode cJ6_getChars_ba4f3 84 = .ok (.bastore, 1) := by decide +kernel
theorem dJ6_getChars_ba4f3_85 : decode cJ6_getChars_ba4f3 85 = .ok (.iload_n 0, 1) := by decide +kernel
theorem dJ6_getChars_ba4f3_86 : decode cJ6_getChars_ba4f3 86 = .ok (.bipush (-9), 2) := by decide +kernel
theorem dJ6_getChars_ba4f3_88 : decode cJ6_getChars_ba4f3 88 = .ok (.if_icmp .ge 16, 3) := by decide +kernel
theorem dJ6_getChars_ba4f3_91 : decode cJ6_getChars_ba4f3 91 = .ok (.aload_n 2, 1) := by decide +kernel
theorem dJ6_getChars_ba4f3_92 : decode cJ6_getChars_ba4f3 92 = .ok (.iinc 5 (-1), 3) := by decide +kernel
theorem dJ6_getChars_ba4f3_95 : decode cJ6_getChars_ba4f3 95 = .ok (.iload 5, 2) := by decide +kernel
theorem dJ6_getChars_ba4f3_97 : decode cJ6_getChars_ba4f3 97 = .ok (.getstatic 87, 3) := by decide +kernel
theorem dJ6_getChars_ba4f3_100 : decode cJ6_getChars_ba4f3 100 = .ok (.iload_n 0, 1) := by decide +kernel
theorem dJ6_getChars_ba4f3_101 : decode cJ6_getChars_ba4f3 101 = .ok (.ineg, 1) := by decide +kernel
theorem dJ6_getChars_ba4f3_102 : decode cJ6_getChars_ba4f3 102 = .ok (.baload, 1) := by decide +kernel
theorem dJ6_getChars_ba4f3_103 : decode cJ6_getChars_ba4f3 103 = .ok (.bastore, 1) := by decide +kernel
theorem dJ6_getChars_ba4f3_104 : decode cJ6_getChars_ba4f3 104 = .ok (.iload 6, 2) := by decide +kernel
theorem dJ6_getChars_ba4f3_106 : decode cJ6_getChars_ba4f3 106 = .ok (.ifCond .eq 12, 3) := by decide +kernel
theorem dJ6_getChars_ba4f3_109 : decode cJ6_getChars_ba4f3 109 = .ok (.aload_n 2, 1) := by decide +kernel
theorem dJ6_getChars_ba4f3_110 : decode cJ6_getChars_ba4f3 110 = .ok (.iinc 5 (-1), 3) := by decide +kernel
theorem dJ6_getChars_ba4f3_113 : decode cJ6_getChars_ba4f3 113 = .ok (.iload 5, 2) := by decide +kernel
theorem dJ6_getChars_ba4f3_115 : decode cJ6_getChars_ba4f3 115 = .ok (.bipush 45, 2) := by decide +kernel
theorem dJ6_getChars_ba4f3_117 : decode cJ6_getChars_ba4f3 117 = .ok (.bastore, 1) := by decide +kernel
theorem dJ6_getChars_ba4f3_118 : decode cJ6_getChars_ba4f3 118 = .ok (.iload 5, 2) := by decide +kernel
theorem dJ6_getChars_ba4f3_120 : decode cJ6_getChars_ba4f3 120 = .ok (.ireturn, 1) := by decide +kernel
theorem dJ6_stringSize_0f7a4_0 : decode cJ6_stringSize_0f7a4 0 = .ok (.iconst 1, 1) := by decide +kernel
theorem dJ6_stringSize_0f7a4_1 : decode cJ6_stringSize_0f7a4 1 = .ok (.istore_n 1, 1) := by decide +kernel
theorem dJ6_stringSize_0f7a4_2 : decode cJ6_stringSize_0f7a4 2 = .ok (.iload_n 0, 1) := by decide +kernel
theorem dJ6_stringSize_0f7a4_3 : decode cJ6_stringSize_0f7a4 3 = .ok (.ifCond .lt 8, 3) := by decide +kernel
theorem dJ6_stringSize_0f7a4_6 : decode cJ6_stringSize_0f7a4 6 = .ok (.iconst 0, 1) := by decide +kernel
theorem dJ6_stringSize_0f7a4_7 : decode cJ6_stringSize_0f7a4 7 = .ok (.istore_n 1, 1) := by decide +kernel
theorem dJ6_stringSize_0f7a4_8 : decode cJ6_stringSize_0f7a4 8 = .ok (.iload_n 0, 1) := by decide +kernel
theorem dJ6_stringSize_0f7a4_9 : decode cJ6_stringSize_0f7a4 9 = .ok (.ineg, 1) := by decide +kernel
theorem dJ6_stringSize_0f7a4_10 : decode cJ6_stringSize_0f7a4 10 = .ok (.istore_n 0, 1) := by decide +kernel
theorem dJ6_stringSize_0f7a4_11 : decode cJ6_stringSize_0f7a4 11 = .ok (.bipush (-10), 2) := by decide +kernel
theorem dJ6_stringSize_0f7a4_13 : decode cJ6_stringSize_0f7a4 13 = .ok (.istore_n 2, 1) := by decide +kernel
theorem dJ6_stringSize_0f7a4_14 : decode cJ6_stringSize_0f7a4 14 = .ok (.iconst 1, 1) := by decide +kernel
theorem dJ6_stringSize_0f7a4_15 : decode cJ6_stringSize_0f7a4 15 = .ok (.istore_n 3, 1) := by decide +kernel
theorem dJ6_stringSize_0f7a4_16 : decode cJ6_stringSize_0f7a4 16 = .ok (.iload_n 3, 1) := by decide +kernel
theorem dJ6_stringSize_0f7a4_17 : decode cJ6_stringSize_0f7a4 17 = .ok (.bipush 10, 2) := by decide +kernel
theorem dJ6_stringSize_0f7a4_19 : decode cJ6_stringSize_0f7a4 19 = .ok (.if_icmp .ge 23, 3) := by decide +kernel
theorem dJ6_stringSize_0f7a4_22 : decode cJ6_stringSize_0f7a4 22 = .ok (.iload_n 0, 1) := by decide +kernel
theorem dJ6_stringSize_0f7a4_23 : decode cJ6_stringSize_0f7a4 23 = .ok (.iload_n 2, 1) := by decide +kernel
theorem dJ6_stringSize_0f7a4_24 : decode cJ6_stringSize_0f7a4 24 = .ok (.if_icmp .le 7, 3) := by decide +kernel
theorem dJ6_stringSize_0f7a4_27 : decode cJ6_stringSize_0f7a4 27 = .ok (.iload_n 3, 1) := by decide +kernel
theorem dJ6_stringSize_0f7a4_28 : decode cJ6_stringSize_0f7a4 28 = .ok (.iload_n 1, 1) := by decide +kernel
