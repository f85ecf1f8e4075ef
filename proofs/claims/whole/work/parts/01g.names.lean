theorem dX8_ropeOf_94 : decode cX8_ropeOf 94 = .ok (.getfield 75, 3) := by decide +kernel
theorem dX8_ropeOf_97 : decode cX8_ropeOf 97 = .ok (.getfield 96, 3) := by decide +kernel
theorem dX8_ropeOf_100 : decode cX8_ropeOf 100 = .ok (.iload_n 1, 1) := by decide +kernel
theorem dX8_ropeOf_101 : decode cX8_ropeOf 101 = .ok (.invokestatic 89, 3) := by decide +kernel
theorem dX8_ropeOf_104 : decode cX8_ropeOf 104 = .ok (.ireturn, 1) := by decide +kernel
theorem dX8_ropeOf_105 : decode cX8_ropeOf 105 = .ok (.aload_n 0, 1) := by decide +kernel
theorem dX8_ropeOf_106 : decode cX8_ropeOf 106 = .ok (.getfield 12, 3) := by decide +kernel
theorem dX8_ropeOf_109 : decode cX8_ropeOf 109 = .ok (.getfield 75, 3) := by decide +kernel
theorem dX8_ropeOf_112 : decode cX8_ropeOf 112 = .ok (.getfield 99, 3) := by decide +kernel
theorem dX8_ropeOf_115 : decode cX8_ropeOf 115 = .ok (.iload_n 1, 1) := by decide +kernel
theorem dX8_ropeOf_116 : decode cX8_ropeOf 116 = .ok (.invokestatic 89, 3) := by decide +kernel
theorem dX8_ropeOf_119 : decode cX8_ropeOf 119 = .ok (.ireturn, 1) := by decide +kernel
theorem dX8_ropeOf_120 : decode cX8_ropeOf 120 = .ok (.aload_n 0, 1) := by decide +kernel
theorem dX8_ropeOf_121 : decode cX8_ropeOf 121 = .ok (.getfield 12, 3) := by decide +kernel
theorem dX8_ropeOf_124 : decode cX8_ropeOf 124 = .ok (.getfield 75, 3) := by decide +kernel
theorem dX8_ropeOf_127 : decode cX8_ropeOf 127 = .ok (.getfield 102, 3) := by decide +kernel
theorem dX8_ropeOf_130 : decode cX8_ropeOf 130 = .ok (.iload_n 1, 1) := by decide +kernel
theorem dX8_ropeOf_131 : decode cX8_ropeOf 131 = .ok (.invokestatic 89, 3) := by decide +kernel
theorem dX8_ropeOf_134 : decode cX8_ropeOf 134 = .ok (.ireturn, 1) := by decide +kernel
theorem dX8_ropeOf_135 : decode cX8_ropeOf 135 = .ok (.aload_n 0, 1) := by decide +kernel
theorem dX8_ropeOf_136 : decode cX8_ropeOf 136 = .ok (.getfield 12, 3) := by decide +kernel
theorem dX8_ropeOf_139 : decode cX8_ropeOf 139 = .ok (.getfield 75, 3) := by decide +kernel
theorem dX8_ropeOf_142 : decode cX8_ropeOf 142 = .ok (.getfield 105, 3) := by decide +kernel
theorem dX8_ropeOf_145 : decode cX8_ropeOf 145 = .ok (.iload_n 1, 1) := by decide +kernel
theorem dX8_ropeOf_146 : decode cX8_ropeOf 146 = .ok (.invokestatic 89, 3) := by decide +kernel
theorem dX8_ropeOf_149 : decode cX8_ropeOf 149 = .ok (.ireturn, 1) := by decide +kernel
theorem dX8_ropeOf_150 : decode cX8_ropeOf 150 = .ok (.aload_n 0, 1) := by decide +kernel
theorem dX8_ropeOf_151 : decode cX8_ropeOf 151 = .ok (.getfield 12, 3) := by decide +kernel
theorem dX8_ropeOf_154 : decode cX8_ropeOf 154 = .ok (.getfield 108, 3) := by decide +kernel
theorem dX8_ropeOf_157 : decode cX8_ropeOf 157 = .ok (.iload_n 1, 1) := by decide +kernel
theorem dX8_ropeOf_158 : decode cX8_ropeOf 158 = .ok (.invokevirtual 112, 3) := by decide +kernel
theorem dX8_ropeOf_161 : decode cX8_ropeOf 161 = .ok (.ireturn, 1) := by decide +kernel
theorem dX8_ropeOf_162 : decode cX8_ropeOf 162 = .ok (.sipush (-1012), 3) := by decide +kernel
theorem dX8_ropeOf_165 : decode cX8_ropeOf 165 = .ok (.ireturn, 1) := by decide +kernel
set_option maxRecDepth 20000 in
theorem ggX8_pull_X1_note : GoodIn wsX8_pull wsX1_note := goodIn_r _ [7, 8, 9, 10, 11, 6, 12, 13, 14, 15, 16, 17, 18, 19, 20, 21, 22, 23, 24, 25, 26, 27, 28, 29, 30, 31, 32, 33, 34, 35, 36, 37, 38, 39, 40, 41, 42, 43, 44, 45, 46, 47, 48, 49, 50, 51, 52, 53, 54, 55, 56, 57, 58, 59, 60, 61, 62, 63, 64, 65, 66, 67, 68, 69, 70, 71, 72, 73, 74, 75, 76, 77, 78, 79, 80, 81, 82, 83, 84, 85, 86, 87, 88, 89, 90, 91, 92, 93, 94, 95, 96, 97, 98, 99, 100, 161, 162, 163, 164, 165, 166, 167, 168, 169, 170, 171, 172, 173, 174, 175, 176, 177, 178, 179, 180, 181, 182, 183, 184, 185, 186, 187, 188, 189, 190, 191, 192] (by decide +kernel) (by decide +kernel)
set_option maxRecDepth 20000 in
theorem gX8_pull_X1_note : GoodIn wsX8_pull (wsV RX8 54 RX1 yX1_note wsX1_note) := goodIn_app (goodIn_of _ (by decide +kernel)) ggX8_pull_X1_note
set_option maxRecDepth 20000 in
theorem ggX8_pull_X8_letWait : GoodIn wsX8_pull wsX8_letWait := goodIn_r _ [104, 2, 105, 106, 107, 108, 109, 110, 111, 112, 28, 113, 78, 114, 115, 80, 116, 117, 118, 119, 120, 121, 122, 123, 124, 125, 126, 127, 128, 32, 129, 94, 52, 53, 54, 130, 131, 132, 133, 134, 135, 136, 137, 138, 139, 140, 141, 152, 153, 154, 155, 156, 157, 158, 159, 160, 164, 165, 166, 167, 168, 169, 170, 171, 172, 173, 174, 175, 183, 184, 185, 186, 176, 177, 178, 179, 180, 181, 182] (by decide +kernel) (by decide +kernel)
set_option maxRecDepth 20000 in
theorem gX8_pull_X8_letWait : GoodIn wsX8_pull (wsV RX8 117 RX8 yX8_letWait wsX8_letWait) := goodIn_app (goodIn_of _ (by decide +kernel)) ggX8_pull_X8_letWait
set_option maxRecDepth 20000 in
theorem ggX8_pull_X8_settle : GoodIn wsX8_pull wsX8_settle := goodIn_r _ [145, 1, 146, 147, 148, 6, 149, 8, 150, 151, 83, 84, 85, 17, 18, 19, 20, 152, 153, 154, 155, 156, 157, 158, 159, 160, 161, 162, 163] (by decide +kernel) (by decide +kernel)
set_option maxRecDepth 20000 in
theorem gX8_pull_X8_settle : GoodIn wsX8_pull (wsV RX8 62 RX8 yX8_settle wsX8_settle) := goodIn_app (goodIn_of _ (by decide +kernel)) ggX8_pull_X8_settle
theorem dX8_pull_0 : decode cX8_pull 0 = .ok (.aload_n 0, 1) := by decide +kernel
theorem dX8_pull_1 : decode cX8_pull 1 = .ok (.getfield 22, 3) := by decide +kernel
theorem dX8_pull_4 : decode cX8_pull 4 = .ok (.aload_n 0, 1) := by decide +kernel
theorem dX8_pull_5 : decode cX8_pull 5 = .ok (.getfield 12, 3) := by decide +kernel
theorem dX8_pull_8 : decode cX8_pull 8 = .ok (.invokevirtual 54, 3) := by decide +kernel
theorem dX8_pull_11 : decode cX8_pull 11 = .ok (.aload_n 0, 1) := by decide +kernel
theorem dX8_pull_12 : decode cX8_pull 12 = .ok (.aload_n 0, 1) := by decide +kernel
theorem dX8_pull_13 : decode cX8_pull 13 = .ok (.iload_n 1, 1) := by decide +kernel
theorem dX8_pull_14 : decode cX8_pull 14 = .ok (.iload_n 2, 1) := by decide +kernel
theorem dX8_pull_15 : decode cX8_pull 15 = .ok (.iload_n 3, 1) := by decide +kernel
theorem dX8_pull_16 : decode cX8_pull 16 = .ok (.invokevirtual 117, 3) := by decide +kernel
theorem dX8_pull_19 : decode cX8_pull 19 = .ok (.invokevirtual 62, 3) := by decide +kernel
theorem dX8_pull_22 : decode cX8_pull 22 = .ok (.ireturn, 1) := by decide +kernel
set_option maxRecDepth 20000 in
theorem ggX8_cancel_X1_note : GoodIn wsX8_cancel wsX1_note := goodIn_r _ [7, 8, 9, 10, 11, 6, 12, 13, 14, 15, 16, 17, 18, 19, 20, 21, 22, 23, 24, 25, 26, 27, 28, 29, 30, 31, 32, 33, 34, 35, 36, 37, 38, 39, 40, 41, 42, 43, 44, 45, 46, 47, 48, 49, 50, 51, 52, 53, 54, 55, 56, 57, 58, 59, 60, 61, 62, 63, 64, 65, 66, 67, 68, 69, 70, 71, 72, 73, 74, 75, 76, 77, 78, 79, 80, 81, 82, 83, 84, 85, 86, 87, 88, 89, 90, 91, 92, 93, 94, 95, 96, 97, 98, 99, 100, 162, 163, 164, 165, 166, 167, 168, 169, 170, 171, 172, 173, 174, 175, 176, 177, 178, 179, 180, 181, 182, 183, 184, 185, 186, 187, 188, 189, 190, 191, 192, 193] (by decide +kernel) (by decide +kernel)
set_option maxRecDepth 20000 in
theorem gX8_cancel_X1_note : GoodIn wsX8_cancel (wsV RX8 54 RX1 yX1_note wsX1_note) := goodIn_app (goodIn_of _ (by decide +kernel)) ggX8_cancel_X1_note
set_option maxRecDepth 20000 in
theorem ggX8_cancel_X8_takeAway : GoodIn wsX8_cancel wsX8_takeAway := goodIn_r _ [104, 2, 105, 106, 107, 108, 109, 110, 111, 28, 112, 78, 113, 114, 115, 32, 116, 117, 80, 118, 119, 120, 121, 122, 94, 52, 123, 124, 125, 126, 127, 128, 129, 130, 131, 132, 133, 134, 135, 136, 137, 138, 139, 140, 53, 54, 141, 142, 153, 154, 155, 156, 157, 158, 159, 160, 161, 165, 166, 167, 168, 169, 170, 171, 172, 173, 174, 175, 176, 184, 185, 186, 187, 177, 178, 179, 180, 181, 182, 183] (by decide +kernel) (by decide +kernel)
set_option maxRecDepth 20000 in
theorem gX8_cancel_X8_takeAway : GoodIn wsX8_cancel (wsV RX8 121 RX8 yX8_takeAway wsX8_takeAway) := goodIn_app (goodIn_of _ (by decide +kernel)) ggX8_cancel_X8_takeAway
set_option maxRecDepth 20000 in
theorem ggX8_cancel_X8_settle : GoodIn wsX8_cancel wsX8_settle := goodIn_r _ [146, 1, 147, 148, 149, 6, 150, 8, 151, 152, 83, 84, 85, 17, 18, 19, 20, 153, 154, 155, 156, 157, 158, 159, 160, 161, 162, 163, 164] (by decide +kernel) (by decide +kernel)
set_option maxRecDepth 20000 in
theorem gX8_cancel_X8_settle : GoodIn wsX8_cancel (wsV RX8 62 RX8 yX8_settle wsX8_settle) := goodIn_app (goodIn_of _ (by decide +kernel)) ggX8_cancel_X8_settle
theorem dX8_cancel_0 : decode cX8_cancel 0 = .ok (.aload_n 0, 1) := by decide +kernel
theorem dX8_cancel_1 : decode cX8_cancel 1 = .ok (.getfield 22, 3) := by decide +kernel
theorem dX8_cancel_4 : decode cX8_cancel 4 = .ok (.aload_n 0, 1) := by decide +kernel
theorem dX8_cancel_5 : decode cX8_cancel 5 = .ok (.getfield 12, 3) := by decide +kernel
theorem dX8_cancel_8 : decode cX8_cancel 8 = .ok (.invokevirtual 54, 3) := by decide +kernel
theorem dX8_cancel_11 : decode cX8_cancel 11 = .ok (.aload_n 0, 1) := by decide +kernel
theorem dX8_cancel_12 : decode cX8_cancel 12 = .ok (.aload_n 0, 1) := by decide +kernel
theorem dX8_cancel_13 : decode cX8_cancel 13 = .ok (.iload_n 1, 1) := by decide +kernel
theorem dX8_cancel_14 : decode cX8_cancel 14 = .ok (.invokevirtual 121, 3) := by decide +kernel
theorem dX8_cancel_17 : decode cX8_cancel 17 = .ok (.invokevirtual 62, 3) := by decide +kernel
theorem dX8_cancel_20 : decode cX8_cancel 20 = .ok (.ireturn, 1) := by decide +kernel
set_option maxRecDepth 20000 in
theorem ggX8_ring_X1_note : GoodIn wsX8_ring wsX1_note := goodIn_r _ [7, 8, 9, 10, 11, 6, 12, 13, 14, 15, 16, 17, 18, 19, 20, 21, 22, 23, 24, 25, 26, 27, 28, 29, 30, 31, 32, 33, 34, 35, 36, 37, 38, 39, 40, 41, 42, 43, 44, 45, 46, 47, 48, 49, 50, 51, 52, 53, 54, 55, 56, 57, 58, 59, 60, 61, 62, 63, 64, 65, 66, 67, 68, 69, 70, 71, 72, 73, 74, 75, 76, 77, 78, 79, 80, 81, 82, 83, 84, 85, 86, 87, 88, 89, 90, 91, 92, 93, 94, 95, 96, 97, 98, 99, 100, 189, 190, 191, 192, 193, 194, 195, 196, 197, 198, 199, 200, 201, 202, 203, 204, 205, 206, 207, 208, 209, 210, 211, 212, 213, 214, 215, 216, 217, 218, 219, 220] (by decide +kernel) (by decide +kernel)
set_option maxRecDepth 20000 in
theorem gX8_ring_X1_note : GoodIn wsX8_ring (wsV RX8 54 RX1 yX1_note wsX1_note) := goodIn_app (goodIn_of _ (by decide +kernel)) ggX8_ring_X1_note
set_option maxRecDepth 20000 in
theorem ggX8_ring_X8_ringNext : GoodIn wsX8_ring wsX8_ringNext := goodIn_r _ [104, 2, 105, 106, 107, 108, 109, 110, 16, 111, 33, 112, 113, 114, 66, 69, 39, 72, 29, 115, 116, 80, 117, 118, 119, 120, 32, 121, 94, 122, 123, 84, 124, 125, 126, 127, 128, 52, 53, 54, 129, 130, 131, 132, 133, 134, 135, 136, 137, 138, 139, 28, 140, 44, 45, 141, 142, 143, 144, 71, 145, 146, 147, 148, 149, 70, 150, 37, 67, 151, 152, 153, 154, 155, 83, 85, 156, 157, 158, 159, 160, 36, 161, 100, 58, 59, 60, 61, 99, 162, 163, 18, 19, 20, 164, 165, 166, 167, 168, 169, 180, 181, 182, 183, 184, 185, 186, 187, 188, 192, 193, 194, 195, 196, 197, 198, 199, 200, 201, 202, 203, 211, 212, 213, 214, 204, 205, 206, 207, 208, 209, 210, 215, 216, 217, 218, 219, 220] (by decide +kernel) (by decide +kernel)
set_option maxRecDepth 20000 in
theorem gX8_ring_X8_ringNext : GoodIn wsX8_ring (wsV RX8 124 RX8 yX8_ringNext wsX8_ringNext) := goodIn_app (goodIn_of _ (by decide +kernel)) ggX8_ring_X8_ringNext
set_option maxRecDepth 20000 in
theorem ggX8_ring_X8_settle : GoodIn wsX8_ring wsX8_settle := goodIn_r _ [173, 1, 174, 175, 176, 6, 177, 8, 178, 179, 83, 84, 85, 17, 18, 19, 20, 180, 181, 182, 183, 184, 185, 186, 187, 188, 189, 190, 191] (by decide +kernel) (by decide +kernel)
set_option maxRecDepth 20000 in
theorem gX8_ring_X8_settle : GoodIn wsX8_ring (wsV RX8 62 RX8 yX8_settle wsX8_settle) := goodIn_app (goodIn_of _ (by decide +kernel)) ggX8_ring_X8_settle
theorem dX8_ring_0 : decode cX8_ring 0 = .ok (.aload_n 0, 1) := by decide +kernel
theorem dX8_ring_1 : decode cX8_ring 1 = .ok (.getfield 22, 3) := by decide +kernel
theorem dX8_ring_4 : decode cX8_ring 4 = .ok (.aload_n 0, 1) := by decide +kernel
theorem dX8_ring_5 : decode cX8_ring 5 = .ok (.getfield 12, 3) := by decide +kernel
theorem dX8_ring_8 : decode cX8_ring 8 = .ok (.invokevirtual 54, 3) := by decide +kernel
theorem dX8_ring_11 : decode cX8_ring 11 = .ok (.aload_n 0, 1) := by decide +kernel
theorem dX8_ring_12 : decode cX8_ring 12 = .ok (.aload_n 0, 1) := by decide +kernel
theorem dX8_ring_13 : decode cX8_ring 13 = .ok (.invokevirtual 124, 3) := by decide +kernel
theorem dX8_ring_16 : decode cX8_ring 16 = .ok (.invokevirtual 62, 3) := by decide +kernel
theorem dX8_ring_19 : decode cX8_ring 19 = .ok (.ireturn, 1) := by decide +kernel
set_option maxRecDepth 20000 in
theorem ggX8_hour_X1_note : GoodIn wsX8_hour wsX1_note := goodIn_r _ [7, 8, 9, 10, 11, 6, 12, 13, 14, 15, 16, 17, 18, 19, 20, 21, 22, 23, 24, 25, 26, 27, 28, 29, 30, 31, 32, 33, 34, 35, 36, 37, 38, 39, 40, 41, 42, 43, 44, 45, 46, 47, 48, 49, 50, 51, 52, 53, 54, 55, 56, 57, 58, 59, 60, 61, 62, 63, 64, 65, 66, 67, 68, 69, 70, 71, 72, 73, 74, 75, 76, 77, 78, 79, 80, 81, 82, 83, 84, 85, 86, 87, 88, 89, 90, 91, 92, 93, 94, 95, 96, 97, 98, 99, 100, 194, 195, 196, 197, 198, 199, 200, 201, 202, 203, 204, 205, 206, 207, 208, 209, 210, 211, 212, 213, 214, 215, 216, 217, 218, 219, 220, 221, 222, 223, 224, 225] (by decide +kernel) (by decide +kernel)
set_option maxRecDepth 20000 in
theorem gX8_hour_X1_note : GoodIn wsX8_hour (wsV RX8 54 RX1 yX1_note wsX1_note) := goodIn_app (goodIn_of _ (by decide +kernel)) ggX8_hour_X1_note
set_option maxRecDepth 20000 in
theorem ggX8_hour_X8_ringHour : GoodIn wsX8_hour wsX8_ringHour := goodIn_r _ [104, 2, 105, 106, 107, 108, 109, 110, 111, 80, 112, 113, 114, 115, 116, 117, 118, 119, 120, 32, 121, 94, 53, 122, 123, 124, 16, 125, 33, 126, 127, 128, 66, 69, 39, 72, 29, 129, 130, 131, 132, 133, 134, 135, 84, 136, 137, 138, 139, 140, 52, 54, 141, 142, 143, 144, 145, 146, 147, 148, 149, 150, 28, 151, 44, 45, 152, 153, 154, 155, 71, 156, 157, 158, 159, 160, 70, 161, 37, 67, 162, 163, 164, 165, 166, 83, 85, 167, 168, 169, 170, 171, 36, 172, 100, 58, 59, 60, 61, 99, 173, 174, 18, 19, 20, 185, 186, 187, 188, 189, 190, 191, 192, 193, 197, 198, 199, 200, 201, 202, 203, 204, 205, 206, 207, 208, 216, 217, 218, 219, 209, 210, 211, 212, 213, 214, 215, 220, 221, 222, 223, 224, 225] (by decide +kernel) (by decide +kernel)
set_option maxRecDepth 20000 in
theorem gX8_hour_X8_ringHour : GoodIn wsX8_hour (wsV RX8 128 RX8 yX8_ringHour wsX8_ringHour) := goodIn_app (goodIn_of _ (by decide +kernel)) ggX8_hour_X8_ringHour
set_option maxRecDepth 20000 in
theorem ggX8_hour_X8_settle : GoodIn wsX8_hour wsX8_settle := goodIn_r _ [178, 1, 179, 180, 181, 6, 182, 8, 183, 184, 83, 84, 85, 17, 18, 19, 20, 185, 186, 187, 188, 189, 190, 191, 192, 193, 194, 195, 196] (by decide +kernel) (by decide +kernel)
set_option maxRecDepth 20000 in
theorem gX8_hour_X8_settle : GoodIn wsX8_hour (wsV RX8 62 RX8 yX8_settle wsX8_settle) := goodIn_app (goodIn_of _ (by decide +kernel)) ggX8_hour_X8_settle
theorem dX8_hour_0 : decode cX8_hour 0 = .ok (.aload_n 0, 1) := by decide +kernel
theorem dX8_hour_1 : decode cX8_hour 1 = .ok (.getfield 22, 3) := by decide +kernel
theorem dX8_hour_4 : decode cX8_hour 4 = .ok (.aload_n 0, 1) := by decide +kernel
theorem dX8_hour_5 : decode cX8_hour 5 = .ok (.getfield 12, 3) := by decide +kernel
theorem dX8_hour_8 : decode cX8_hour 8 = .ok (.invokevirtual 54, 3) := by decide +kernel
theorem dX8_hour_11 : decode cX8_hour 11 = .ok (.aload_n 0, 1) := by decide +kernel
theorem dX8_hour_12 : decode cX8_hour 12 = .ok (.aload_n 0, 1) := by decide +kernel
theorem dX8_hour_13 : decode cX8_hour 13 = .ok (.invokevirtual 128, 3) := by decide +kernel
theorem dX8_hour_16 : decode cX8_hour 16 = .ok (.invokevirtual 62, 3) := by decide +kernel
theorem dX8_hour_19 : decode cX8_hour 19 = .ok (.ireturn, 1) := by decide +kernel
set_option maxRecDepth 20000 in
theorem ggX8_end_X1_note : GoodIn wsX8_end wsX1_note := goodIn_r _ [7, 8, 9, 10, 11, 6, 12, 13, 14, 15, 16, 17, 18, 19, 20, 21, 22, 23, 24, 25, 26, 27, 28, 29, 30, 31, 32, 33, 34, 35, 36, 37, 38, 39, 40, 41, 42, 43, 44, 45, 46, 47, 48, 49, 50, 51, 52, 53, 54, 55, 56, 57, 58, 59, 60, 61, 62, 63, 64, 65, 66, 67, 68, 69, 70, 71, 72, 73, 74, 75, 76, 77, 78, 79, 80, 81, 82, 83, 84, 85, 86, 87, 88, 89, 90, 91, 92, 93, 94, 95, 96, 97, 98, 99, 100, 152, 153, 154, 155, 156, 157, 158, 159, 160, 161, 162, 163, 164, 165, 166, 167, 168, 169, 170, 171, 172, 173, 174, 175, 176, 177, 178, 179, 180, 181, 182, 183] (by decide +kernel) (by decide +kernel)
set_option maxRecDepth 20000 in
theorem gX8_end_X1_note : GoodIn wsX8_end (wsV RX8 54 RX1 yX1_note wsX1_note) := goodIn_app (goodIn_of _ (by decide +kernel)) ggX8_end_X1_note
set_option maxRecDepth 20000 in
theorem ggX8_end_X7_endDay : GoodIn wsX8_end wsX7_endDay := goodIn_r _ [104, 33, 105, 106, 29, 39, 66, 67, 107, 80, 108, 109, 110, 111, 16, 112, 71, 113, 114, 115, 116, 117, 118, 119, 120, 121, 122, 123, 124, 125, 126, 28, 127, 78, 45, 128, 129, 84, 130, 131, 132, 155, 156, 157, 158, 159, 160, 161, 162, 163, 164, 165, 166, 174, 175, 176, 177, 167, 168, 169, 170, 171, 172, 173] (by decide +kernel) (by decide +kernel)
set_option maxRecDepth 20000 in
theorem gX8_end_X7_endDay : GoodIn wsX8_end (wsV RX8 131 RX7 yX7_endDay wsX7_endDay) := goodIn_app (goodIn_of _ (by decide +kernel)) ggX8_end_X7_endDay
set_option maxRecDepth 20000 in
theorem ggX8_end_X8_settle : GoodIn wsX8_end wsX8_settle := goodIn_r _ [136, 1, 137, 138, 139, 6, 140, 8, 141, 142, 83, 84, 85, 17, 18, 19, 20, 143, 144, 145, 146, 147, 148, 149, 150, 151, 152, 153, 154] (by decide +kernel) (by decide +kernel)
set_option maxRecDepth 20000 in
theorem gX8_end_X8_settle : GoodIn wsX8_end (wsV RX8 62 RX8 yX8_settle wsX8_settle) := goodIn_app (goodIn_of _ (by decide +kernel)) ggX8_end_X8_settle
theorem dX8_end_0 : decode cX8_end 0 = .ok (.aload_n 0, 1) := by decide +kernel
theorem dX8_end_1 : decode cX8_end 1 = .ok (.getfield 22, 3) := by decide +kernel
theorem dX8_end_4 : decode cX8_end 4 = .ok (.aload_n 0, 1) := by decide +kernel
theorem dX8_end_5 : decode cX8_end 5 = .ok (.getfield 12, 3) := by decide +kernel
theorem dX8_end_8 : decode cX8_end 8 = .ok (.invokevirtual 54, 3) := by decide +kernel
theorem dX8_end_11 : decode cX8_end 11 = .ok (.aload_n 0, 1) := by decide +kernel
theorem dX8_end_12 : decode cX8_end 12 = .ok (.aload_n 0, 1) := by decide +kernel
theorem dX8_end_13 : decode cX8_end 13 = .ok (.getfield 12, 3) := by decide +kernel
theorem dX8_end_16 : decode cX8_end 16 = .ok (.invokevirtual 131, 3) := by decide +kernel
theorem dX8_end_19 : decode cX8_end 19 = .ok (.invokevirtual 62, 3) := by decide +kernel
theorem dX8_end_22 : decode cX8_end 22 = .ok (.ireturn, 1) := by decide +kernel
set_option maxRecDepth 20000 in
theorem ggX8_waiting_X4_has : GoodIn wsX8_waiting wsX4_has := goodIn_r _ [10, 11, 37, 38, 39, 40] (by decide +kernel) (by decide +kernel)
set_option maxRecDepth 20000 in
theorem gX8_waiting_X4_has : GoodIn wsX8_waiting (wsV RX8 134 RX4 yX4_has wsX4_has) := goodIn_app (goodIn_of _ (by decide +kernel)) ggX8_waiting_X4_has
set_option maxRecDepth 20000 in
theorem ggX8_waiting_X8_at : GoodIn wsX8_waiting wsX8_at := goodIn_r _ [15] (by decide +kernel) (by decide +kernel)
set_option maxRecDepth 20000 in
theorem gX8_waiting_X8_at : GoodIn wsX8_waiting (va_wsS RX8 89 yX8_at wsX8_at) := goodIn_app (goodIn_of _ (by decide +kernel)) ggX8_waiting_X8_at
theorem dX8_waiting_0 : decode cX8_waiting 0 = .ok (.aload_n 0, 1) := by decide +kernel
theorem dX8_waiting_1 : decode cX8_waiting 1 = .ok (.getfield 12, 3) := by decide +kernel
theorem dX8_waiting_4 : decode cX8_waiting 4 = .ok (.getfield 108, 3) := by decide +kernel
theorem dX8_waiting_7 : decode cX8_waiting 7 = .ok (.iload_n 1, 1) := by decide +kernel
theorem dX8_waiting_8 : decode cX8_waiting 8 = .ok (.invokevirtual 134, 3) := by decide +kernel
theorem dX8_waiting_11 : decode cX8_waiting 11 = .ok (.ifCond .ne 7, 3) := by decide +kernel
theorem dX8_waiting_14 : decode cX8_waiting 14 = .ok (.sipush (-1011), 3) := by decide +kernel
theorem dX8_waiting_17 : decode cX8_waiting 17 = .ok (.ireturn, 1) := by decide +kernel
theorem dX8_waiting_18 : decode cX8_waiting 18 = .ok (.iload_n 2, 1) := by decide +kernel
theorem dX8_waiting_19 : decode cX8_waiting 19 = .ok (.tableswitch 70 0 2 #[25, 40, 55], 25) := by decide +kernel
theorem dX8_waiting_44 : decode cX8_waiting 44 = .ok (.aload_n 0, 1) := by decide +kernel
theorem dX8_waiting_45 : decode cX8_waiting 45 = .ok (.getfield 12, 3) := by decide +kernel
theorem dX8_waiting_48 : decode cX8_waiting 48 = .ok (.getfield 108, 3) := by decide +kernel
theorem dX8_waiting_51 : decode cX8_waiting 51 = .ok (.getfield 135, 3) := by decide +kernel
theorem dX8_waiting_54 : decode cX8_waiting 54 = .ok (.iload_n 1, 1) := by decide +kernel
theorem dX8_waiting_55 : decode cX8_waiting 55 = .ok (.invokestatic 89, 3) := by decide +kernel
theorem dX8_waiting_58 : decode cX8_waiting 58 = .ok (.ireturn, 1) := by decide +kernel
theorem dX8_waiting_59 : decode cX8_waiting 59 = .ok (.aload_n 0, 1) := by decide +kernel
theorem dX8_waiting_60 : decode cX8_waiting 60 = .ok (.getfield 12, 3) := by decide +kernel
theorem dX8_waiting_63 : decode cX8_waiting 63 = .ok (.getfield 108, 3) := by decide +kernel
theorem dX8_waiting_66 : decode cX8_waiting 66 = .ok (.getfield 138, 3) := by decide +kernel
theorem dX8_waiting_69 : decode cX8_waiting 69 = .ok (.iload_n 1, 1) := by decide +kernel
theorem dX8_waiting_70 : decode cX8_waiting 70 = .ok (.invokestatic 89, 3) := by decide +kernel
theorem dX8_waiting_73 : decode cX8_waiting 73 = .ok (.ireturn, 1) := by decide +kernel
theorem dX8_waiting_74 : decode cX8_waiting 74 = .ok (.aload_n 0, 1) := by decide +kernel
theorem dX8_waiting_75 : decode cX8_waiting 75 = .ok (.getfield 12, 3) := by decide +kernel
theorem dX8_waiting_78 : decode cX8_waiting 78 = .ok (.getfield 108, 3) := by decide +kernel
theorem dX8_waiting_81 : decode cX8_waiting 81 = .ok (.getfield 141, 3) := by decide +kernel
theorem dX8_waiting_84 : decode cX8_waiting 84 = .ok (.iload_n 1, 1) := by decide +kernel
theorem dX8_waiting_85 : decode cX8_waiting 85 = .ok (.invokestatic 89, 3) := by decide +kernel
theorem dX8_waiting_88 : decode cX8_waiting 88 = .ok (.ireturn, 1) := by decide +kernel
theorem dX8_waiting_89 : decode cX8_waiting 89 = .ok (.sipush (-1012), 3) := by decide +kernel
theorem dX8_waiting_92 : decode cX8_waiting 92 = .ok (.ireturn, 1) := by decide +kernel
set_option maxRecDepth 20000 in
theorem ggX8_would_X5_has : GoodIn wsX8_would wsX5_has := goodIn_r _ [7, 8, 42, 43, 44, 45, 46, 47, 48] (by decide +kernel) (by decide +kernel)
set_option maxRecDepth 20000 in
theorem gX8_would_X5_has : GoodIn wsX8_would (wsV RX8 79 RX5 yX5_has wsX5_has) := goodIn_app (goodIn_of _ (by decide +kernel)) ggX8_would_X5_has
set_option maxRecDepth 20000 in
theorem ggX8_would_X8_isStrength : GoodIn wsX8_would wsX8_isStrength := goodIn_r _ [12] (by decide +kernel) (by decide +kernel)
set_option maxRecDepth 20000 in
theorem gX8_would_X8_isStrength : GoodIn wsX8_would (va_wsS RX8 144 yX8_isStrength wsX8_isStrength) := goodIn_app (goodIn_of _ (by decide +kernel)) ggX8_would_X8_isStrength
set_option maxRecDepth 20000 in
theorem ggX8_would_X5_isEnough : GoodIn wsX8_would wsX5_isEnough := goodIn_r _ [16, 17, 18, 19, 11, 20, 42, 43, 44, 45, 46, 47, 48] (by decide +kernel) (by decide +kernel)
set_option maxRecDepth 20000 in
theorem gX8_would_X5_isEnough : GoodIn wsX8_would (wsV RX8 147 RX5 yX5_isEnough wsX5_isEnough) := goodIn_app (goodIn_of _ (by decide +kernel)) ggX8_would_X5_isEnough
theorem dX8_would_0 : decode cX8_would 0 = .ok (.aload_n 0, 1) := by decide +kernel
theorem dX8_would_1 : decode cX8_would 1 = .ok (.getfield 12, 3) := by decide +kernel
theorem dX8_would_4 : decode cX8_would 4 = .ok (.getfield 75, 3) := by decide +kernel
theorem dX8_would_7 : decode cX8_would 7 = .ok (.iload_n 1, 1) := by decide +kernel
theorem dX8_would_8 : decode cX8_would 8 = .ok (.invokevirtual 79, 3) := by decide +kernel
theorem dX8_would_11 : decode cX8_would 11 = .ok (.ifCond .ne 7, 3) := by decide +kernel
theorem dX8_would_14 : decode cX8_would 14 = .ok (.sipush (-1011), 3) := by decide +kernel
theorem dX8_would_17 : decode cX8_would 17 = .ok (.ireturn, 1) := by decide +kernel
theorem dX8_would_18 : decode cX8_would 18 = .ok (.iload_n 2, 1) := by decide +kernel
theorem dX8_would_19 : decode cX8_would 19 = .ok (.invokestatic 144, 3) := by decide +kernel
theorem dX8_would_22 : decode cX8_would 22 = .ok (.ifCond .ne 7, 3) := by decide +kernel
theorem dX8_would_25 : decode cX8_would 25 = .ok (.sipush (-1012), 3) := by decide +kernel
theorem dX8_would_28 : decode cX8_would 28 = .ok (.ireturn, 1) := by decide +kernel
theorem dX8_would_29 : decode cX8_would 29 = .ok (.aload_n 0, 1) := by decide +kernel
theorem dX8_would_30 : decode cX8_would 30 = .ok (.getfield 12, 3) := by decide +kernel
theorem dX8_would_33 : decode cX8_would 33 = .ok (.getfield 75, 3) := by decide +kernel
theorem dX8_would_36 : decode cX8_would 36 = .ok (.iload_n 1, 1) := by decide +kernel
theorem dX8_would_37 : decode cX8_would 37 = .ok (.iload_n 2, 1) := by decide +kernel
theorem dX8_would_38 : decode cX8_would 38 = .ok (.invokevirtual 147, 3) := by decide +kernel
theorem dX8_would_41 : decode cX8_would 41 = .ok (.ifCond .eq 7, 3) := by decide +kernel
theorem dX8_would_44 : decode cX8_would 44 = .ok (.iconst 1, 1) := by decide +kernel
theorem dX8_would_45 : decode cX8_would 45 = .ok (.goto 4, 3) := by decide +kernel
theorem dX8_would_48 : decode cX8_would 48 = .ok (.iconst 0, 1) := by decide +kernel
theorem dX8_would_49 : decode cX8_would 49 = .ok (.ireturn, 1) := by decide +kernel
set_option maxRecDepth 20000 in
theorem ggX8_forecast_X7_copyFrom : GoodIn wsX8_forecast wsX7_copyFrom := goodIn_r _ [9, 10, 11, 12, 13, 14, 15, 16, 17, 18, 19, 20, 21, 22, 23, 24, 25, 26, 27, 28, 29, 30, 31, 32, 33, 34, 35, 36, 37, 38, 39, 40, 41, 42, 43, 44, 45, 46, 47, 48, 49, 50, 51, 52, 53, 54, 55, 56, 57, 58, 59, 60, 61, 62, 63, 64, 133, 134, 135, 136, 137, 138, 139, 140, 141, 142, 143, 144, 149, 150, 151, 152, 153, 154, 155, 145, 146, 147, 148, 156, 157, 158, 159, 160, 161] (by decide +kernel) (by decide +kernel)
set_option maxRecDepth 20000 in
theorem gX8_forecast_X7_copyFrom : GoodIn wsX8_forecast (wsV RX8 151 RX7 yX7_copyFrom wsX7_copyFrom) := goodIn_app (goodIn_of _ (by decide +kernel)) ggX8_forecast_X7_copyFrom
set_option maxRecDepth 20000 in
theorem ggX8_forecast_X7_ringFirst : GoodIn wsX8_forecast wsX7_ringFirst := goodIn_r _ [68, 11, 69, 70, 71, 14, 17, 13, 20, 10, 72, 73, 35, 74, 75, 76, 77, 48, 78, 50, 79, 80, 39, 81, 82, 83, 84, 85, 51, 52, 53, 86, 87, 88, 89, 90, 91, 92, 93, 94, 95, 96, 25, 97, 29, 30, 98, 99, 100, 8, 101, 19, 102, 103, 104, 105, 106, 18, 107, 12, 15, 108, 109, 110, 111, 112, 38, 40, 113, 114, 115, 116, 117, 57, 118, 60, 61, 62, 63, 64, 59, 119, 120, 121, 122, 123, 133, 134, 135, 136, 137, 138, 139, 140, 141, 142, 143, 144, 145, 146, 147, 148, 149, 150, 151, 152, 153, 154, 155, 156, 157, 158, 159, 160, 161] (by decide +kernel) (by decide +kernel)
set_option maxRecDepth 20000 in
theorem gX8_forecast_X7_ringFirst : GoodIn wsX8_forecast (wsV RX8 157 RX7 yX7_ringFirst wsX7_ringFirst) := goodIn_app (goodIn_of _ (by decide +kernel)) ggX8_forecast_X7_ringFirst
theorem dX8_forecast_0 : decode cX8_forecast 0 = .ok (.aload_n 0, 1) := by decide +kernel
theorem dX8_forecast_1 : decode cX8_forecast 1 = .ok (.getfield 16, 3) := by decide +kernel
theorem dX8_forecast_4 : decode cX8_forecast 4 = .ok (.aload_n 0, 1) := by decide +kernel
theorem dX8_forecast_5 : decode cX8_forecast 5 = .ok (.getfield 12, 3) := by decide +kernel
theorem dX8_forecast_8 : decode cX8_forecast 8 = .ok (.invokevirtual 151, 3) := by decide +kernel
theorem dX8_forecast_11 : decode cX8_forecast 11 = .ok (.iconst 0, 1) := by decide +kernel
theorem dX8_forecast_12 : decode cX8_forecast 12 = .ok (.istore_n 1, 1) := by decide +kernel
theorem dX8_forecast_13 : decode cX8_forecast 13 = .ok (.iconst 0, 1) := by decide +kernel
theorem dX8_forecast_14 : decode cX8_forecast 14 = .ok (.istore_n 2, 1) := by decide +kernel
theorem dX8_forecast_15 : decode cX8_forecast 15 = .ok (.iload_n 2, 1) := by decide +kernel
theorem dX8_forecast_16 : decode cX8_forecast 16 = .ok (.bipush 16, 2) := by decide +kernel
theorem dX8_forecast_18 : decode cX8_forecast 18 = .ok (.if_icmp .ge 36, 3) := by decide +kernel
theorem dX8_forecast_21 : decode cX8_forecast 21 = .ok (.aload_n 0, 1) := by decide +kernel
theorem dX8_forecast_22 : decode cX8_forecast 22 = .ok (.getfield 16, 3) := by decide +kernel
theorem dX8_forecast_25 : decode cX8_forecast 25 = .ok (.getfield 108, 3) := by decide +kernel
theorem dX8_forecast_28 : decode cX8_forecast 28 = .ok (.getfield 154, 3) := by decide +kernel
theorem dX8_forecast_31 : decode cX8_forecast 31 = .ok (.ifCond .le 23, 3) := by decide +kernel
theorem dX8_forecast_34 : decode cX8_forecast 34 = .ok (.aload_n 0, 1) := by decide +kernel
theorem dX8_forecast_35 : decode cX8_forecast 35 = .ok (.getfield 16, 3) := by decide +kernel
theorem dX8_forecast_38 : decode cX8_forecast 38 = .ok (.invokevirtual 157, 3) := by decide +kernel
theorem dX8_forecast_41 : decode cX8_forecast 41 = .ok (.iconst 1, 1) := by decide +kernel
theorem dX8_forecast_42 : decode cX8_forecast 42 = .ok (.if_icmp .ne 6, 3) := by decide +kernel
theorem dX8_forecast_45 : decode cX8_forecast 45 = .ok (.iinc 1 1, 3) := by decide +kernel
theorem dX8_forecast_48 : decode cX8_forecast 48 = .ok (.iinc 2 1, 3) := by decide +kernel
theorem dX8_forecast_51 : decode cX8_forecast 51 = .ok (.goto (-36), 3) := by decide +kernel
theorem dX8_forecast_54 : decode cX8_forecast 54 = .ok (.iload_n 1, 1) := by decide +kernel
theorem dX8_forecast_55 : decode cX8_forecast 55 = .ok (.ireturn, 1) := by decide +kernel
set_option maxRecDepth 20000 in
theorem ggX8_forecastAgain_X7_answersAhead : GoodIn wsX8_forecastAgain wsX7_answersAhead := goodIn_r _ [8, 9, 10, 11, 12, 13, 14, 15, 16, 17, 18, 19, 20, 21, 22, 23, 24, 25, 26, 7, 27, 28, 29, 30, 31, 32, 42, 43, 44, 45, 46, 47, 48, 49, 50, 51, 52, 53, 54, 55, 56, 57, 58, 59, 60, 61, 62, 63, 64] (by decide +kernel) (by decide +kernel)
set_option maxRecDepth 20000 in
theorem gX8_forecastAgain_X7_answersAhead : GoodIn wsX8_forecastAgain (wsV RX8 161 RX7 yX7_answersAhead wsX7_answersAhead) := goodIn_app (goodIn_of _ (by decide +kernel)) ggX8_forecastAgain_X7_answersAhead
theorem dX8_forecastAgain_0 : decode cX8_forecastAgain 0 = .ok (.iconst 0, 1) := by decide +kernel
theorem dX8_forecastAgain_1 : decode cX8_forecastAgain 1 = .ok (.istore_n 1, 1) := by decide +kernel
theorem dX8_forecastAgain_2 : decode cX8_forecastAgain 2 = .ok (.iconst 0, 1) := by decide +kernel
theorem dX8_forecastAgain_3 : decode cX8_forecastAgain 3 = .ok (.istore_n 2, 1) := by decide +kernel
theorem dX8_forecastAgain_4 : decode cX8_forecastAgain 4 = .ok (.iload_n 2, 1) := by decide +kernel
theorem dX8_forecastAgain_5 : decode cX8_forecastAgain 5 = .ok (.aload_n 0, 1) := by decide +kernel
theorem dX8_forecastAgain_6 : decode cX8_forecastAgain 6 = .ok (.getfield 12, 3) := by decide +kernel
theorem dX8_forecastAgain_9 : decode cX8_forecastAgain 9 = .ok (.getfield 75, 3) := by decide +kernel
theorem dX8_forecastAgain_12 : decode cX8_forecastAgain 12 = .ok (.getfield 160, 3) := by decide +kernel
theorem dX8_forecastAgain_15 : decode cX8_forecastAgain 15 = .ok (.if_icmp .ge 20, 3) := by decide +kernel
theorem dX8_forecastAgain_18 : decode cX8_forecastAgain 18 = .ok (.iload_n 1, 1) := by decide +kernel
theorem dX8_forecastAgain_19 : decode cX8_forecastAgain 19 = .ok (.aload_n 0, 1) := by decide +kernel
theorem dX8_forecastAgain_20 : decode cX8_forecastAgain 20 = .ok (.getfield 12, 3) := by decide +kernel
theorem dX8_forecastAgain_23 : decode cX8_forecastAgain 23 = .ok (.iload_n 2, 1) := by decide +kernel
theorem dX8_forecastAgain_24 : decode cX8_forecastAgain 24 = .ok (.invokevirtual 161, 3) := by decide +kernel
theorem dX8_forecastAgain_27 : decode cX8_forecastAgain 27 = .ok (.iadd, 1) := by decide +kernel
theorem dX8_forecastAgain_28 : decode cX8_forecastAgain 28 = .ok (.istore_n 1, 1) := by decide +kernel
theorem dX8_forecastAgain_29 : decode cX8_forecastAgain 29 = .ok (.iinc 2 1, 3) := by decide +kernel
theorem dX8_forecastAgain_32 : decode cX8_forecastAgain 32 = .ok (.goto (-28), 3) := by decide +kernel
theorem dX8_forecastAgain_35 : decode cX8_forecastAgain 35 = .ok (.iload_n 1, 1) := by decide +kernel
theorem dX8_forecastAgain_36 : decode cX8_forecastAgain 36 = .ok (.ireturn, 1) := by decide +kernel
set_option maxRecDepth 20000 in
theorem ggX8_answerOf_X0_has : GoodIn wsX8_answerOf wsX0_has := goodIn_r _ [11, 12, 47, 48, 49, 50, 51, 52] (by decide +kernel) (by decide +kernel)
set_option maxRecDepth 20000 in
theorem gX8_answerOf_X0_has : GoodIn wsX8_answerOf (wsV RX8 168 RX0 yX0_has wsX0_has) := goodIn_app (goodIn_of _ (by decide +kernel)) ggX8_answerOf_X0_has
set_option maxRecDepth 20000 in
theorem ggX8_answerOf_X0_indexOf : GoodIn wsX8_answerOf wsX0_indexOf := goodIn_r _ [16, 17, 18, 19, 20, 21, 47, 48, 49, 50, 51, 52] (by decide +kernel) (by decide +kernel)
set_option maxRecDepth 20000 in
theorem gX8_answerOf_X0_indexOf : GoodIn wsX8_answerOf (wsV RX8 171 RX0 yX0_indexOf wsX0_indexOf) := goodIn_app (goodIn_of _ (by decide +kernel)) ggX8_answerOf_X0_indexOf
set_option maxRecDepth 20000 in
theorem ggX8_answerOf_X8_at : GoodIn wsX8_answerOf wsX8_at := goodIn_r _ [25] (by decide +kernel) (by decide +kernel)
set_option maxRecDepth 20000 in
theorem gX8_answerOf_X8_at : GoodIn wsX8_answerOf (va_wsS RX8 89 yX8_at wsX8_at) := goodIn_app (goodIn_of _ (by decide +kernel)) ggX8_answerOf_X8_at
theorem dX8_answerOf_0 : decode cX8_answerOf 0 = .ok (.aload_n 0, 1) := by decide +kernel
theorem dX8_answerOf_1 : decode cX8_answerOf 1 = .ok (.getfield 12, 3) := by decide +kernel
theorem dX8_answerOf_4 : decode cX8_answerOf 4 = .ok (.getfield 164, 3) := by decide +kernel
theorem dX8_answerOf_7 : decode cX8_answerOf 7 = .ok (.iload_n 1, 1) := by decide +kernel
theorem dX8_answerOf_8 : decode cX8_answerOf 8 = .ok (.invokevirtual 168, 3) := by decide +kernel
theorem dX8_answerOf_11 : decode cX8_answerOf 11 = .ok (.ifCond .ne 7, 3) := by decide +kernel
theorem dX8_answerOf_14 : decode cX8_answerOf 14 = .ok (.sipush (-1011), 3) := by decide +kernel
theorem dX8_answerOf_17 : decode cX8_answerOf 17 = .ok (.ireturn, 1) := by decide +kernel
theorem dX8_answerOf_18 : decode cX8_answerOf 18 = .ok (.aload_n 0, 1) := by decide +kernel
theorem dX8_answerOf_19 : decode cX8_answerOf 19 = .ok (.getfield 12, 3) := by decide +kernel
theorem dX8_answerOf_22 : decode cX8_answerOf 22 = .ok (.getfield 164, 3) := by decide +kernel
theorem dX8_answerOf_25 : decode cX8_answerOf 25 = .ok (.iload_n 1, 1) := by decide +kernel
theorem dX8_answerOf_26 : decode cX8_answerOf 26 = .ok (.invokevirtual 171, 3) := by decide +kernel
theorem dX8_answerOf_29 : decode cX8_answerOf 29 = .ok (.istore_n 3, 1) := by decide +kernel
theorem dX8_answerOf_30 : decode cX8_answerOf 30 = .ok (.iload_n 2, 1) := by decide +kernel
theorem dX8_answerOf_31 : decode cX8_answerOf 31 = .ok (.tableswitch 89 0 3 #[29, 44, 59, 74], 29) := by decide +kernel
theorem dX8_answerOf_60 : decode cX8_answerOf 60 = .ok (.aload_n 0, 1) := by decide +kernel
theorem dX8_answerOf_61 : decode cX8_answerOf 61 = .ok (.getfield 12, 3) := by decide +kernel
theorem dX8_answerOf_64 : decode cX8_answerOf 64 = .ok (.getfield 164, 3) := by decide +kernel
theorem dX8_answerOf_67 : decode cX8_answerOf 67 = .ok (.getfield 174, 3) := by decide +kernel
theorem dX8_answerOf_70 : decode cX8_answerOf 70 = .ok (.iload_n 3, 1) := by decide +kernel
theorem dX8_answerOf_71 : decode cX8_answerOf 71 = .ok (.invokestatic 89, 3) := by decide +kernel
theorem dX8_answerOf_74 : decode cX8_answerOf 74 = .ok (.ireturn, 1) := by decide +kernel
theorem dX8_answerOf_75 : decode cX8_answerOf 75 = .ok (.aload_n 0, 1) := by decide +kernel
theorem dX8_answerOf_76 : decode cX8_answerOf 76 = .ok (.getfield 12, 3) := by decide +kernel
theorem dX8_answerOf_79 : decode cX8_answerOf 79 = .ok (.getfield 164, 3) := by decide +kernel
theorem dX8_answerOf_82 : decode cX8_answerOf 82 = .ok (.getfield 175, 3) := by decide +kernel
theorem dX8_answerOf_85 : decode cX8_answerOf 85 = .ok (.iload_n 3, 1) := by decide +kernel
theorem dX8_answerOf_86 : decode cX8_answerOf 86 = .ok (.invokestatic 89, 3) := by decide +kernel
theorem dX8_answerOf_89 : decode cX8_answerOf 89 = .ok (.ireturn, 1) := by decide +kernel
theorem dX8_answerOf_90 : decode cX8_answerOf 90 = .ok (.aload_n 0, 1) := by decide +kernel
theorem dX8_answerOf_91 : decode cX8_answerOf 91 = .ok (.getfield 12, 3) := by decide +kernel
theorem dX8_answerOf_94 : decode cX8_answerOf 94 = .ok (.getfield 164, 3) := by decide +kernel
theorem dX8_answerOf_97 : decode cX8_answerOf 97 = .ok (.getfield 176, 3) := by decide +kernel
theorem dX8_answerOf_100 : decode cX8_answerOf 100 = .ok (.iload_n 3, 1) := by decide +kernel
theorem dX8_answerOf_101 : decode cX8_answerOf 101 = .ok (.invokestatic 89, 3) := by decide +kernel
theorem dX8_answerOf_104 : decode cX8_answerOf 104 = .ok (.ireturn, 1) := by decide +kernel
theorem dX8_answerOf_105 : decode cX8_answerOf 105 = .ok (.aload_n 0, 1) := by decide +kernel
theorem dX8_answerOf_106 : decode cX8_answerOf 106 = .ok (.getfield 12, 3) := by decide +kernel
theorem dX8_answerOf_109 : decode cX8_answerOf 109 = .ok (.getfield 164, 3) := by decide +kernel
theorem dX8_answerOf_112 : decode cX8_answerOf 112 = .ok (.getfield 179, 3) := by decide +kernel
theorem dX8_answerOf_115 : decode cX8_answerOf 115 = .ok (.iload_n 3, 1) := by decide +kernel
theorem dX8_answerOf_116 : decode cX8_answerOf 116 = .ok (.invokestatic 89, 3) := by decide +kernel
theorem dX8_answerOf_119 : decode cX8_answerOf 119 = .ok (.ireturn, 1) := by decide +kernel
theorem dX8_answerOf_120 : decode cX8_answerOf 120 = .ok (.sipush (-1012), 3) := by decide +kernel
theorem dX8_answerOf_123 : decode cX8_answerOf 123 = .ok (.ireturn, 1) := by decide +kernel
set_option maxRecDepth 20000 in
theorem ggX8_answered_X8_isHour : GoodIn wsX8_answered wsX8_isHour := goodIn_r _ [6] (by decide +kernel) (by decide +kernel)
set_option maxRecDepth 20000 in
theorem gX8_answered_X8_isHour : GoodIn wsX8_answered (va_wsS RX8 180 yX8_isHour wsX8_isHour) := goodIn_app (goodIn_of _ (by decide +kernel)) ggX8_answered_X8_isHour
set_option maxRecDepth 20000 in
theorem ggX8_answered_X8_at : GoodIn wsX8_answered wsX8_at := goodIn_r _ [9] (by decide +kernel) (by decide +kernel)
set_option maxRecDepth 20000 in
theorem gX8_answered_X8_at : GoodIn wsX8_answered (va_wsS RX8 89 yX8_at wsX8_at) := goodIn_app (goodIn_of _ (by decide +kernel)) ggX8_answered_X8_at
theorem dX8_answered_0 : decode cX8_answered 0 = .ok (.iload_n 1, 1) := by decide +kernel
theorem dX8_answered_1 : decode cX8_answered 1 = .ok (.invokestatic 180, 3) := by decide +kernel
theorem dX8_answered_4 : decode cX8_answered 4 = .ok (.ifCond .eq 17, 3) := by decide +kernel
theorem dX8_answered_7 : decode cX8_answered 7 = .ok (.aload_n 0, 1) := by decide +kernel
theorem dX8_answered_8 : decode cX8_answered 8 = .ok (.getfield 12, 3) := by decide +kernel
theorem dX8_answered_11 : decode cX8_answered 11 = .ok (.getfield 183, 3) := by decide +kernel
theorem dX8_answered_14 : decode cX8_answered 14 = .ok (.iload_n 1, 1) := by decide +kernel
theorem dX8_answered_15 : decode cX8_answered 15 = .ok (.invokestatic 89, 3) := by decide +kernel
theorem dX8_answered_18 : decode cX8_answered 18 = .ok (.goto 6, 3) := by decide +kernel
theorem dX8_answered_21 : decode cX8_answered 21 = .ok (.sipush (-1012), 3) := by decide +kernel
theorem dX8_answered_24 : decode cX8_answered 24 = .ok (.ireturn, 1) := by decide +kernel
set_option maxRecDepth 20000 in
theorem ggX8_guess_X8_isHour : GoodIn wsX8_guess wsX8_isHour := goodIn_r _ [7] (by decide +kernel) (by decide +kernel)
set_option maxRecDepth 20000 in
theorem gX8_guess_X8_isHour : GoodIn wsX8_guess (va_wsS RX8 180 yX8_isHour wsX8_isHour) := goodIn_app (goodIn_of _ (by decide +kernel)) ggX8_guess_X8_isHour
set_option maxRecDepth 20000 in
theorem ggX8_guess_X8_at : GoodIn wsX8_guess wsX8_at := goodIn_r _ [10] (by decide +kernel) (by decide +kernel)
set_option maxRecDepth 20000 in
theorem gX8_guess_X8_at : GoodIn wsX8_guess (va_wsS RX8 89 yX8_at wsX8_at) := goodIn_app (goodIn_of _ (by decide +kernel)) ggX8_guess_X8_at
set_option maxRecDepth 20000 in
theorem ggX8_guess_X5_guessByParishes : GoodIn wsX8_guess wsX5_guessByParishes := goodIn_r _ [15, 16, 17, 18, 14, 19, 20, 21, 9, 6, 10, 22, 23, 24, 25, 26, 27, 28, 29, 30, 52, 53, 54, 55, 56, 57, 58] (by decide +kernel) (by decide +kernel)
set_option maxRecDepth 20000 in
theorem gX8_guess_X5_guessByParishes : GoodIn wsX8_guess (wsV RX8 186 RX5 yX5_guessByParishes wsX5_guessByParishes) := goodIn_app (goodIn_of _ (by decide +kernel)) ggX8_guess_X5_guessByParishes
theorem dX8_guess_0 : decode cX8_guess 0 = .ok (.iload_n 1, 1) := by decide +kernel
theorem dX8_guess_1 : decode cX8_guess 1 = .ok (.invokestatic 180, 3) := by decide +kernel
theorem dX8_guess_4 : decode cX8_guess 4 = .ok (.ifCond .eq 27, 3) := by decide +kernel
theorem dX8_guess_7 : decode cX8_guess 7 = .ok (.aload_n 0, 1) := by decide +kernel
theorem dX8_guess_8 : decode cX8_guess 8 = .ok (.getfield 12, 3) := by decide +kernel
theorem dX8_guess_11 : decode cX8_guess 11 = .ok (.getfield 75, 3) := by decide +kernel
theorem dX8_guess_14 : decode cX8_guess 14 = .ok (.aload_n 0, 1) := by decide +kernel
theorem dX8_guess_15 : decode cX8_guess 15 = .ok (.getfield 12, 3) := by decide +kernel
theorem dX8_guess_18 : decode cX8_guess 18 = .ok (.getfield 183, 3) := by decide +kernel
theorem dX8_guess_21 : decode cX8_guess 21 = .ok (.iload_n 1, 1) := by decide +kernel
theorem dX8_guess_22 : decode cX8_guess 22 = .ok (.invokestatic 89, 3) := by decide +kernel
theorem dX8_guess_25 : decode cX8_guess 25 = .ok (.invokevirtual 186, 3) := by decide +kernel
theorem dX8_guess_28 : decode cX8_guess 28 = .ok (.goto 6, 3) := by decide +kernel
theorem dX8_guess_31 : decode cX8_guess 31 = .ok (.sipush (-1012), 3) := by decide +kernel
theorem dX8_guess_34 : decode cX8_guess 34 = .ok (.ireturn, 1) := by decide +kernel
set_option maxRecDepth 20000 in
theorem ggX8_guessAgain_X8_isHour : GoodIn wsX8_guessAgain wsX8_isHour := goodIn_r _ [7] (by decide +kernel) (by decide +kernel)
set_option maxRecDepth 20000 in
theorem gX8_guessAgain_X8_isHour : GoodIn wsX8_guessAgain (va_wsS RX8 180 yX8_isHour wsX8_isHour) := goodIn_app (goodIn_of _ (by decide +kernel)) ggX8_guessAgain_X8_isHour
set_option maxRecDepth 20000 in
theorem ggX8_guessAgain_X8_at : GoodIn wsX8_guessAgain wsX8_at := goodIn_r _ [10] (by decide +kernel) (by decide +kernel)
set_option maxRecDepth 20000 in
theorem gX8_guessAgain_X8_at : GoodIn wsX8_guessAgain (va_wsS RX8 89 yX8_at wsX8_at) := goodIn_app (goodIn_of _ (by decide +kernel)) ggX8_guessAgain_X8_at
set_option maxRecDepth 20000 in
theorem ggX8_guessAgain_X5_guessByRopes : GoodIn wsX8_guessAgain wsX5_guessByRopes := goodIn_r _ [15, 16, 17, 18, 6, 19, 20, 21, 22, 14, 23, 9, 10, 24, 25, 26, 27, 28, 29, 30, 31, 32, 33, 55, 56, 57, 58, 59, 60, 61] (by decide +kernel) (by decide +kernel)
set_option maxRecDepth 20000 in
theorem gX8_guessAgain_X5_guessByRopes : GoodIn wsX8_guessAgain (wsV RX8 189 RX5 yX5_guessByRopes wsX5_guessByRopes) := goodIn_app (goodIn_of _ (by decide +kernel)) ggX8_guessAgain_X5_guessByRopes
theorem dX8_guessAgain_0 : decode cX8_guessAgain 0 = .ok (.iload_n 1, 1) := by decide +kernel
theorem dX8_guessAgain_1 : decode cX8_guessAgain 1 = .ok (.invokestatic 180, 3) := by decide +kernel
theorem dX8_guessAgain_4 : decode cX8_guessAgain 4 = .ok (.ifCond .eq 27, 3) := by decide +kernel
theorem dX8_guessAgain_7 : decode cX8_guessAgain 7 = .ok (.aload_n 0, 1) := by decide +kernel
theorem dX8_guessAgain_8 : decode cX8_guessAgain 8 = .ok (.getfield 12, 3) := by decide +kernel
theorem dX8_guessAgain_11 : decode cX8_guessAgain 11 = .ok (.getfield 75, 3) := by decide +kernel
theorem dX8_guessAgain_14 : decode cX8_guessAgain 14 = .ok (.aload_n 0, 1) := by decide +kernel
theorem dX8_guessAgain_15 : decode cX8_guessAgain 15 = .ok (.getfield 12, 3) := by decide +kernel
theorem dX8_guessAgain_18 : decode cX8_guessAgain 18 = .ok (.getfield 183, 3) := by decide +kernel
theorem dX8_guessAgain_21 : decode cX8_guessAgain 21 = .ok (.iload_n 1, 1) := by decide +kernel
theorem dX8_guessAgain_22 : decode cX8_guessAgain 22 = .ok (.invokestatic 89, 3) := by decide +kernel
theorem dX8_guessAgain_25 : decode cX8_guessAgain 25 = .ok (.invokevirtual 189, 3) := by decide +kernel
theorem dX8_guessAgain_28 : decode cX8_guessAgain 28 = .ok (.goto 6, 3) := by decide +kernel
theorem dX8_guessAgain_31 : decode cX8_guessAgain 31 = .ok (.sipush (-1012), 3) := by decide +kernel
theorem dX8_guessAgain_34 : decode cX8_guessAgain 34 = .ok (.ireturn, 1) := by decide +kernel
set_option maxRecDepth 20000 in
theorem ggX8_parishOf_X8_isParish : GoodIn wsX8_parishOf wsX8_isParish := goodIn_r _ [9] (by decide +kernel) (by decide +kernel)
set_option maxRecDepth 20000 in
theorem gX8_parishOf_X8_isParish : GoodIn wsX8_parishOf (va_wsS RX8 192 yX8_isParish wsX8_isParish) := goodIn_app (goodIn_of _ (by decide +kernel)) ggX8_parishOf_X8_isParish
set_option maxRecDepth 20000 in
theorem ggX8_parishOf_X5_setOf : GoodIn wsX8_parishOf wsX5_setOf := goodIn_r _ [14, 15, 16, 17, 8, 18, 19, 20, 81, 82, 83, 84, 85, 86, 87] (by decide +kernel) (by decide +kernel)
set_option maxRecDepth 20000 in
theorem gX8_parishOf_X5_setOf : GoodIn wsX8_parishOf (wsV RX8 195 RX5 yX5_setOf wsX5_setOf) := goodIn_app (goodIn_of _ (by decide +kernel)) ggX8_parishOf_X5_setOf
set_option maxRecDepth 20000 in
theorem ggX8_parishOf_J6_bitCount_0f7a4 : GoodIn wsX8_parishOf wsJ6_bitCount_0f7a4 := goodIn_r _ [24, 25, 26, 27] (by decide +kernel) (by decide +kernel)
set_option maxRecDepth 20000 in
theorem gX8_parishOf_J6_bitCount_0f7a4 : GoodIn wsX8_parishOf (va_wsS RX8 198 yJ6_bitCount_0f7a4 wsJ6_bitCount_0f7a4) := goodIn_app (goodIn_of _ (by decide +kernel)) ggX8_parishOf_J6_bitCount_0f7a4
set_option maxRecDepth 20000 in
theorem ggX8_parishOf_X5_sumOf : GoodIn wsX8_parishOf wsX5_sumOf := goodIn_r _ [31, 15, 16, 17, 8, 18, 81, 82, 83, 84, 85, 86, 87] (by decide +kernel) (by decide +kernel)
set_option maxRecDepth 20000 in
theorem gX8_parishOf_X5_sumOf : GoodIn wsX8_parishOf (wsV RX8 203 RX5 yX5_sumOf wsX5_sumOf) := goodIn_app (goodIn_of _ (by decide +kernel)) ggX8_parishOf_X5_sumOf
set_option maxRecDepth 20000 in
theorem ggX8_parishOf_X8_hoursGuessed : GoodIn wsX8_parishOf wsX8_hoursGuessed := goodIn_r _ [35, 36, 37, 38, 8, 39, 1, 2, 40, 41, 42, 43, 44, 17, 18, 45, 46, 47, 13, 48, 49, 11, 12, 14, 15, 16, 19, 20, 50, 22, 23, 24, 25, 26, 27, 60, 61, 62, 63, 64, 65, 66, 67, 68, 69, 70, 71, 72, 73, 74, 75, 76, 77, 78, 79, 80, 81, 82, 83, 84, 85, 86, 87] (by decide +kernel) (by decide +kernel)
set_option maxRecDepth 20000 in
theorem gX8_parishOf_X8_hoursGuessed : GoodIn wsX8_parishOf (wsV RX8 206 RX8 yX8_hoursGuessed wsX8_hoursGuessed) := goodIn_app (goodIn_of _ (by decide +kernel)) ggX8_parishOf_X8_hoursGuessed
set_option maxRecDepth 20000 in
theorem ggX8_parishOf_X4_numberIn : GoodIn wsX8_parishOf wsX4_numberIn := goodIn_r _ [55, 56, 57, 17, 8, 18, 58, 59, 88, 89, 90, 91] (by decide +kernel) (by decide +kernel)
set_option maxRecDepth 20000 in
theorem gX8_parishOf_X4_numberIn : GoodIn wsX8_parishOf (wsV RX8 209 RX4 yX4_numberIn wsX4_numberIn) := goodIn_app (goodIn_of _ (by decide +kernel)) ggX8_parishOf_X4_numberIn
theorem dX8_parishOf_0 : decode cX8_parishOf 0 = .ok (.iload_n 1, 1) := by decide +kernel
theorem dX8_parishOf_1 : decode cX8_parishOf 1 = .ok (.invokestatic 192, 3) := by decide +kernel
theorem dX8_parishOf_4 : decode cX8_parishOf 4 = .ok (.ifCond .ne 7, 3) := by decide +kernel
theorem dX8_parishOf_7 : decode cX8_parishOf 7 = .ok (.sipush (-1011), 3) := by decide +kernel
theorem dX8_parishOf_10 : decode cX8_parishOf 10 = .ok (.ireturn, 1) := by decide +kernel
theorem dX8_parishOf_11 : decode cX8_parishOf 11 = .ok (.iload_n 2, 1) := by decide +kernel
theorem dX8_parishOf_12 : decode cX8_parishOf 12 = .ok (.tableswitch 123 0 4 #[36, 51, 73, 95, 101], 36) := by decide +kernel
theorem dX8_parishOf_48 : decode cX8_parishOf 48 = .ok (.aload_n 0, 1) := by decide +kernel
theorem dX8_parishOf_49 : decode cX8_parishOf 49 = .ok (.getfield 12, 3) := by decide +kernel
theorem dX8_parishOf_52 : decode cX8_parishOf 52 = .ok (.getfield 75, 3) := by decide +kernel
theorem dX8_parishOf_55 : decode cX8_parishOf 55 = .ok (.iload_n 1, 1) := by decide +kernel
theorem dX8_parishOf_56 : decode cX8_parishOf 56 = .ok (.invokevirtual 195, 3) := by decide +kernel
theorem dX8_parishOf_59 : decode cX8_parishOf 59 = .ok (.invokestatic 198, 3) := by decide +kernel
theorem dX8_parishOf_62 : decode cX8_parishOf 62 = .ok (.ireturn, 1) := by decide +kernel
theorem dX8_parishOf_63 : decode cX8_parishOf 63 = .ok (.aload_n 0, 1) := by decide +kernel
theorem dX8_parishOf_64 : decode cX8_parishOf 64 = .ok (.getfield 12, 3) := by decide +kernel
theorem dX8_parishOf_67 : decode cX8_parishOf 67 = .ok (.getfield 75, 3) := by decide +kernel
theorem dX8_parishOf_70 : decode cX8_parishOf 70 = .ok (.aload_n 0, 1) := by decide +kernel
theorem dX8_parishOf_71 : decode cX8_parishOf 71 = .ok (.getfield 12, 3) := by decide +kernel
theorem dX8_parishOf_74 : decode cX8_parishOf 74 = .ok (.getfield 75, 3) := by decide +kernel
theorem dX8_parishOf_77 : decode cX8_parishOf 77 = .ok (.getfield 99, 3) := by decide +kernel
theorem dX8_parishOf_80 : decode cX8_parishOf 80 = .ok (.iload_n 1, 1) := by decide +kernel
theorem dX8_parishOf_81 : decode cX8_parishOf 81 = .ok (.invokevirtual 203, 3) := by decide +kernel
theorem dX8_parishOf_84 : decode cX8_parishOf 84 = .ok (.ireturn, 1) := by decide +kernel
theorem dX8_parishOf_85 : decode cX8_parishOf 85 = .ok (.aload_n 0, 1) := by decide +kernel
theorem dX8_parishOf_86 : decode cX8_parishOf 86 = .ok (.getfield 12, 3) := by decide +kernel
theorem dX8_parishOf_89 : decode cX8_parishOf 89 = .ok (.getfield 75, 3) := by decide +kernel
theorem dX8_parishOf_92 : decode cX8_parishOf 92 = .ok (.aload_n 0, 1) := by decide +kernel
theorem dX8_parishOf_93 : decode cX8_parishOf 93 = .ok (.getfield 12, 3) := by decide +kernel
theorem dX8_parishOf_96 : decode cX8_parishOf 96 = .ok (.getfield 75, 3) := by decide +kernel
theorem dX8_parishOf_99 : decode cX8_parishOf 99 = .ok (.getfield 96, 3) := by decide +kernel
theorem dX8_parishOf_102 : decode cX8_parishOf 102 = .ok (.iload_n 1, 1) := by decide +kernel
theorem dX8_parishOf_103 : decode cX8_parishOf 103 = .ok (.invokevirtual 203, 3) := by decide +kernel
theorem dX8_parishOf_106 : decode cX8_parishOf 106 = .ok (.ireturn, 1) := by decide +kernel
theorem dX8_parishOf_107 : decode cX8_parishOf 107 = .ok (.aload_n 0, 1) := by decide +kernel
theorem dX8_parishOf_108 : decode cX8_parishOf 108 = .ok (.iload_n 1, 1) := by decide +kernel
theorem dX8_parishOf_109 : decode cX8_parishOf 109 = .ok (.invokevirtual 206, 3) := by decide +kernel
theorem dX8_parishOf_112 : decode cX8_parishOf 112 = .ok (.ireturn, 1) := by decide +kernel
theorem dX8_parishOf_113 : decode cX8_parishOf 113 = .ok (.aload_n 0, 1) := by decide +kernel
theorem dX8_parishOf_114 : decode cX8_parishOf 114 = .ok (.getfield 12, 3) := by decide +kernel
theorem dX8_parishOf_117 : decode cX8_parishOf 117 = .ok (.getfield 108, 3) := by decide +kernel
theorem dX8_parishOf_120 : decode cX8_parishOf 120 = .ok (.aload_n 0, 1) := by decide +kernel
theorem dX8_parishOf_121 : decode cX8_parishOf 121 = .ok (.getfield 12, 3) := by decide +kernel
theorem dX8_parishOf_124 : decode cX8_parishOf 124 = .ok (.getfield 75, 3) := by decide +kernel
theorem dX8_parishOf_127 : decode cX8_parishOf 127 = .ok (.iload_n 1, 1) := by decide +kernel
theorem dX8_parishOf_128 : decode cX8_parishOf 128 = .ok (.invokevirtual 195, 3) := by decide +kernel
theorem dX8_parishOf_131 : decode cX8_parishOf 131 = .ok (.invokevirtual 209, 3) := by decide +kernel
theorem dX8_parishOf_134 : decode cX8_parishOf 134 = .ok (.ireturn, 1) := by decide +kernel
theorem dX8_parishOf_135 : decode cX8_parishOf 135 = .ok (.sipush (-1012), 3) := by decide +kernel
theorem dX8_parishOf_138 : decode cX8_parishOf 138 = .ok (.ireturn, 1) := by decide +kernel
set_option maxRecDepth 20000 in
theorem ggX8_busiest_X8_at : GoodIn wsX8_busiest wsX8_at := goodIn_r _ [6] (by decide +kernel) (by decide +kernel)
set_option maxRecDepth 20000 in
theorem gX8_busiest_X8_at : GoodIn wsX8_busiest (va_wsS RX8 89 yX8_at wsX8_at) := goodIn_app (goodIn_of _ (by decide +kernel)) ggX8_busiest_X8_at
set_option maxRecDepth 20000 in
theorem ggX8_busiest_J6_bitCount_0f7a4 : GoodIn wsX8_busiest wsJ6_bitCount_0f7a4 := goodIn_r _ [10, 11, 12, 13] (by decide +kernel) (by decide +kernel)
set_option maxRecDepth 20000 in
theorem gX8_busiest_J6_bitCount_0f7a4 : GoodIn wsX8_busiest (va_wsS RX8 198 yJ6_bitCount_0f7a4 wsJ6_bitCount_0f7a4) := goodIn_app (goodIn_of _ (by decide +kernel)) ggX8_busiest_J6_bitCount_0f7a4
theorem dX8_busiest_0 : decode cX8_busiest 0 = .ok (.sipush (-1015), 3) := by decide +kernel
theorem dX8_busiest_3 : decode cX8_busiest 3 = .ok (.istore_n 1, 1) := by decide +kernel
theorem dX8_busiest_4 : decode cX8_busiest 4 = .ok (.iconst 0, 1) := by decide +kernel
theorem dX8_busiest_5 : decode cX8_busiest 5 = .ok (.istore_n 2, 1) := by decide +kernel
theorem dX8_busiest_6 : decode cX8_busiest 6 = .ok (.iconst 0, 1) := by decide +kernel
theorem dX8_busiest_7 : decode cX8_busiest 7 = .ok (.istore_n 3, 1) := by decide +kernel
theorem dX8_busiest_8 : decode cX8_busiest 8 = .ok (.iload_n 3, 1) := by decide +kernel
theorem dX8_busiest_9 : decode cX8_busiest 9 = .ok (.bipush 24, 2) := by decide +kernel
theorem dX8_busiest_11 : decode cX8_busiest 11 = .ok (.if_icmp .ge 36, 3) := by decide +kernel
theorem dX8_busiest_14 : decode cX8_busiest 14 = .ok (.aload_n 0, 1) := by decide +kernel
theorem dX8_busiest_15 : decode cX8_busiest 15 = .ok (.getfield 12, 3) := by decide +kernel
theorem dX8_busiest_18 : decode cX8_busiest 18 = .ok (.getfield 183, 3) := by decide +kernel
theorem dX8_busiest_21 : decode cX8_busiest 21 = .ok (.iload_n 3, 1) := by decide +kernel
theorem dX8_busiest_22 : decode cX8_busiest 22 = .ok (.invokestatic 89, 3) := by decide +kernel
theorem dX8_busiest_25 : decode cX8_busiest 25 = .ok (.invokestatic 198, 3) := by decide +kernel
theorem dX8_busiest_28 : decode cX8_busiest 28 = .ok (.istore 4, 2) := by decide +kernel
theorem dX8_busiest_30 : decode cX8_busiest 30 = .ok (.iload 4, 2) := by decide +kernel
theorem dX8_busiest_32 : decode cX8_busiest 32 = .ok (.iload_n 2, 1) := by decide +kernel
theorem dX8_busiest_33 : decode cX8_busiest 33 = .ok (.if_icmp .le 8, 3) := by decide +kernel
theorem dX8_busiest_36 : decode cX8_busiest 36 = .ok (.iload 4, 2) := by decide +kernel
theorem dX8_busiest_38 : decode cX8_busiest 38 = .ok (.istore_n 2, 1) := by decide +kernel
theorem dX8_busiest_39 : decode cX8_busiest 39 = .ok (.iload_n 3, 1) := by decide +kernel
theorem dX8_busiest_40 : decode cX8_busiest 40 = .ok (.istore_n 1, 1) := by decide +kernel
theorem dX8_busiest_41 : decode cX8_busiest 41 = .ok (.iinc 3 1, 3) := by decide +kernel
theorem dX8_busiest_44 : decode cX8_busiest 44 = .ok (.goto (-36), 3) := by decide +kernel
theorem dX8_busiest_47 : decode cX8_busiest 47 = .ok (.iload_n 1, 1) := by decide +kernel
theorem dX8_busiest_48 : decode cX8_busiest 48 = .ok (.ireturn, 1) := by decide +kernel
set_option maxRecDepth 20000 in
theorem ggX8_rustiest_X5_placeByRust : GoodIn wsX8_rustiest wsX5_placeByRust := goodIn_r _ [8, 9, 10, 11, 12, 7, 13, 14, 15, 16, 17, 18, 40, 41, 42, 43, 44, 45, 46] (by decide +kernel) (by decide +kernel)
set_option maxRecDepth 20000 in
theorem gX8_rustiest_X5_placeByRust : GoodIn wsX8_rustiest (wsV RX8 212 RX5 yX5_placeByRust wsX5_placeByRust) := goodIn_app (goodIn_of _ (by decide +kernel)) ggX8_rustiest_X5_placeByRust
theorem dX8_rustiest_0 : decode cX8_rustiest 0 = .ok (.iconst 0, 1) := by decide +kernel
theorem dX8_rustiest_1 : decode cX8_rustiest 1 = .ok (.istore_n 2, 1) := by decide +kernel
theorem dX8_rustiest_2 : decode cX8_rustiest 2 = .ok (.iload_n 2, 1) := by decide +kernel
theorem dX8_rustiest_3 : decode cX8_rustiest 3 = .ok (.aload_n 0, 1) := by decide +kernel
theorem dX8_rustiest_4 : decode cX8_rustiest 4 = .ok (.getfield 12, 3) := by decide +kernel
theorem dX8_rustiest_7 : decode cX8_rustiest 7 = .ok (.getfield 75, 3) := by decide +kernel
theorem dX8_rustiest_10 : decode cX8_rustiest 10 = .ok (.getfield 160, 3) := by decide +kernel
theorem dX8_rustiest_13 : decode cX8_rustiest 13 = .ok (.if_icmp .ge 26, 3) := by decide +kernel
theorem dX8_rustiest_16 : decode cX8_rustiest 16 = .ok (.aload_n 0, 1) := by decide +kernel
theorem dX8_rustiest_17 : decode cX8_rustiest 17 = .ok (.getfield 12, 3) := by decide +kernel
theorem dX8_rustiest_20 : decode cX8_rustiest 20 = .ok (.getfield 75, 3) := by decide +kernel
theorem dX8_rustiest_23 : decode cX8_rustiest 23 = .ok (.iload_n 2, 1) := by decide +kernel
theorem dX8_rustiest_24 : decode cX8_rustiest 24 = .ok (.invokevirtual 212, 3) := by decide +kernel
theorem dX8_rustiest_27 : decode cX8_rustiest 27 = .ok (.iload_n 1, 1) := by decide +kernel
theorem dX8_rustiest_28 : decode cX8_rustiest 28 = .ok (.if_icmp .ne 5, 3) := by decide +kernel
theorem dX8_rustiest_31 : decode cX8_rustiest 31 = .ok (.iload_n 2, 1) := by decide +kernel
theorem dX8_rustiest_32 : decode cX8_rustiest 32 = .ok (.ireturn, 1) := by decide +kernel
theorem dX8_rustiest_33 : decode cX8_rustiest 33 = .ok (.iinc 2 1, 3) := by decide +kernel
theorem dX8_rustiest_36 : decode cX8_rustiest 36 = .ok (.goto (-34), 3) := by decide +kernel
theorem dX8_rustiest_39 : decode cX8_rustiest 39 = .ok (.sipush (-1011), 3) := by decide +kernel
theorem dX8_rustiest_42 : decode cX8_rustiest 42 = .ok (.ireturn, 1) := by decide +kernel
set_option maxRecDepth 20000 in
theorem ggX8_ranked_X5_placeByAnswers : GoodIn wsX8_ranked wsX5_placeByAnswers := goodIn_r _ [7, 8, 9, 10, 6, 11, 12, 13, 14, 15, 16, 17, 18, 19, 20, 21, 22, 23, 24, 25, 26, 27, 28, 29, 30, 31, 32, 33, 34, 56, 57, 58, 59, 60, 61, 62] (by decide +kernel) (by decide +kernel)
set_option maxRecDepth 20000 in
theorem gX8_ranked_X5_placeByAnswers : GoodIn wsX8_ranked (wsV RX8 215 RX5 yX5_placeByAnswers wsX5_placeByAnswers) := goodIn_app (goodIn_of _ (by decide +kernel)) ggX8_ranked_X5_placeByAnswers
theorem dX8_ranked_0 : decode cX8_ranked 0 = .ok (.iconst 0, 1) := by decide +kernel
theorem dX8_ranked_1 : decode cX8_ranked 1 = .ok (.istore_n 2, 1) := by decide +kernel
theorem dX8_ranked_2 : decode cX8_ranked 2 = .ok (.iload_n 2, 1) := by decide +kernel
theorem dX8_ranked_3 : decode cX8_ranked 3 = .ok (.iconst 4, 1) := by decide +kernel
theorem dX8_ranked_4 : decode cX8_ranked 4 = .ok (.if_icmp .ge 26, 3) := by decide +kernel
theorem dX8_ranked_7 : decode cX8_ranked 7 = .ok (.aload_n 0, 1) := by decide +kernel
theorem dX8_ranked_8 : decode cX8_ranked 8 = .ok (.getfield 12, 3) := by decide +kernel
theorem dX8_ranked_11 : decode cX8_ranked 11 = .ok (.getfield 75, 3) := by decide +kernel
theorem dX8_ranked_14 : decode cX8_ranked 14 = .ok (.iload_n 2, 1) := by decide +kernel
theorem dX8_ranked_15 : decode cX8_ranked 15 = .ok (.invokevirtual 215, 3) := by decide +kernel
theorem dX8_ranked_18 : decode cX8_ranked 18 = .ok (.iload_n 1, 1) := by decide +kernel
theorem dX8_ranked_19 : decode cX8_ranked 19 = .ok (.if_icmp .ne 5, 3) := by decide +kernel
theorem dX8_ranked_22 : decode cX8_ranked 22 = .ok (.iload_n 2, 1) := by decide +kernel
theorem dX8_ranked_23 : decode cX8_ranked 23 = .ok (.ireturn, 1) := by decide +kernel
theorem dX8_ranked_24 : decode cX8_ranked 24 = .ok (.iinc 2 1, 3) := by decide +kernel
theorem dX8_ranked_27 : decode cX8_ranked 27 = .ok (.goto (-25), 3) := by decide +kernel
theorem dX8_ranked_30 : decode cX8_ranked 30 = .ok (.sipush (-1011), 3) := by decide +kernel
theorem dX8_ranked_33 : decode cX8_ranked 33 = .ok (.ireturn, 1) := by decide +kernel
set_option maxRecDepth 20000 in
theorem ggX8_append_X6_add : GoodIn wsX8_append wsX6_add := goodIn_r _ [7, 8, 9, 10, 11, 12, 13, 14, 15, 16, 26, 27] (by decide +kernel) (by decide +kernel)
set_option maxRecDepth 20000 in
theorem gX8_append_X6_add : GoodIn wsX8_append (wsV RX8 221 RX6 yX6_add wsX6_add) := goodIn_app (goodIn_of _ (by decide +kernel)) ggX8_append_X6_add
theorem dX8_append_0 : decode cX8_append 0 = .ok (.iload_n 1, 1) := by decide +kernel
theorem dX8_append_1 : decode cX8_append 1 = .ok (.bipush 32, 2) := by decide +kernel
theorem dX8_append_3 : decode cX8_append 3 = .ok (.if_icmp .lt 9, 3) := by decide +kernel
theorem dX8_append_6 : decode cX8_append 6 = .ok (.iload_n 1, 1) := by decide +kernel
theorem dX8_append_7 : decode cX8_append 7 = .ok (.bipush 126, 2) := by decide +kernel
theorem dX8_append_9 : decode cX8_append 9 = .ok (.if_icmp .le 7, 3) := by decide +kernel
theorem dX8_append_12 : decode cX8_append 12 = .ok (.sipush (-1012), 3) := by decide +kernel
theorem dX8_append_15 : decode cX8_append 15 = .ok (.ireturn, 1) := by decide +kernel
theorem dX8_append_16 : decode cX8_append 16 = .ok (.aload_n 0, 1) := by decide +kernel
theorem dX8_append_17 : decode cX8_append 17 = .ok (.getfield 29, 3) := by decide +kernel
theorem dX8_append_20 : decode cX8_append 20 = .ok (.getfield 218, 3) := by decide +kernel
theorem dX8_append_23 : decode cX8_append 23 = .ok (.bipush 60, 2) := by decide +kernel
theorem dX8_append_25 : decode cX8_append 25 = .ok (.if_icmp .lt 7, 3) := by decide +kernel
theorem dX8_append_28 : decode cX8_append 28 = .ok (.sipush (-1013), 3) := by decide +kernel
theorem dX8_append_31 : decode cX8_append 31 = .ok (.ireturn, 1) := by decide +kernel
theorem dX8_append_32 : decode cX8_append 32 = .ok (.aload_n 0, 1) := by decide +kernel
theorem dX8_append_33 : decode cX8_append 33 = .ok (.getfield 29, 3) := by decide +kernel
theorem dX8_append_36 : decode cX8_append 36 = .ok (.iload_n 1, 1) := by decide +kernel
theorem dX8_append_37 : decode cX8_append 37 = .ok (.invokevirtual 221, 3) := by decide +kernel
theorem dX8_append_40 : decode cX8_append 40 = .ok (.ireturn, 1) := by decide +kernel
set_option maxRecDepth 20000 in
theorem ggX8_run_X3_read : GoodIn wsX8_run wsX3_read := goodIn_r _ [11, 12, 13, 14, 15, 16, 17, 10, 18, 19, 20, 21, 22, 23, 24, 25, 26, 27, 28, 29, 30, 31, 32, 33, 34, 35, 36, 37, 38, 39, 40, 41, 42, 43, 44, 45, 46, 47, 48, 49, 50, 51, 52, 53, 54, 55, 56, 57, 58, 59, 60, 61, 62, 63, 64, 65, 66, 67, 68, 69, 70, 71, 72, 73, 74, 75, 76, 77, 78, 79, 80, 81, 82, 83, 84, 85, 86, 87, 88, 89, 90, 91, 92, 93, 94, 95, 96, 97, 98, 99, 391, 392, 393, 394, 389, 390] (by decide +kernel) (by decide +kernel)
set_option maxRecDepth 20000 in
theorem gX8_run_X3_read : GoodIn wsX8_run (wsV RX8 224 RX3 yX3_read wsX3_read) := goodIn_app (goodIn_of _ (by decide +kernel)) ggX8_run_X3_read
set_option maxRecDepth 20000 in
theorem ggX8_run_X1_note : GoodIn wsX8_run wsX1_note := goodIn_r _ [104, 105, 106, 107, 108, 103, 109, 110, 111, 112, 113, 114, 115, 116, 117, 118, 119, 120, 121, 122, 123, 124, 125, 126, 127, 128, 129, 130, 131, 132, 133, 134, 135, 136, 137, 138, 139, 140, 141, 142, 143, 144, 145, 146, 147, 148, 149, 150, 151, 152, 153, 154, 155, 156, 157, 158, 159, 160, 161, 162, 163, 164, 165, 166, 167, 168, 169, 170, 171, 172, 173, 174, 175, 176, 28, 177, 178, 179, 180, 181, 182, 183, 184, 185, 186, 187, 188, 189, 190, 191, 192, 193, 194, 195, 196, 395, 396, 397, 398, 399, 400, 401, 402, 403, 404, 405, 406, 407, 408, 409, 410, 411, 412, 413, 414, 415, 416, 417, 418, 419, 420, 421, 422, 423, 424, 425, 426] (by decide +kernel) (by decide +kernel)
set_option maxRecDepth 20000 in
theorem gX8_run_X1_note : GoodIn wsX8_run (wsV RX8 54 RX1 yX1_note wsX1_note) := goodIn_app (goodIn_of _ (by decide +kernel)) ggX8_run_X1_note
set_option maxRecDepth 20000 in
theorem ggX8_run_X8_carryOut : GoodIn wsX8_run wsX8_carryOut := goodIn_r _ [200, 1, 201, 5, 202, 203, 204, 10, 205, 93, 27, 28, 29, 206, 207, 208, 209, 210, 211, 212, 213, 214, 215, 216, 217, 218, 219, 220, 221, 222, 223, 224, 125, 225, 175, 140, 141, 40, 41, 226, 227, 228, 229, 230, 231, 232, 233, 234, 235, 236, 237, 238, 239, 240, 241, 242, 243, 244, 245, 246, 247, 248, 249, 250, 251, 252, 253, 254, 255, 256, 257, 258, 259, 260, 129, 261, 190, 149, 150, 151, 262, 263, 264, 265, 266, 267, 268, 269, 270, 271, 272, 273, 274, 275, 276, 277, 278, 279, 280, 281, 282, 283, 284, 285, 286, 287, 288, 289, 290, 291, 292, 293, 294, 295, 296, 297, 298, 113, 299, 130, 300, 301, 302, 163, 166, 136, 169, 126, 303, 304, 305, 306, 307, 308, 309, 180, 310, 311, 312, 313, 314, 315, 316, 142, 317, 318, 319, 320, 168, 321, 322, 323, 324, 325, 167, 326, 134, 164, 327, 328, 329, 330, 331, 179, 181, 332, 333, 334, 133, 335, 196, 155, 156, 157, 158, 195, 336, 337, 115, 116, 117, 338, 339, 340, 341, 342, 343, 344, 345, 346, 347, 348, 349, 350, 351, 352, 353, 354, 355, 356, 357, 358, 359, 360, 361, 362, 363, 364, 365, 380, 381, 382, 383, 384, 385, 386, 387, 388, 391, 392, 393, 394, 398, 399, 400, 401, 402, 403, 404, 405, 406, 407, 408, 409, 410, 411, 412, 413, 414, 415, 416, 417, 418, 419, 420, 421, 422, 423, 424, 425, 426] (by decide +kernel) (by decide +kernel)
set_option maxRecDepth 20000 in
theorem gX8_run_X8_carryOut : GoodIn wsX8_run (wsV RX8 229 RX8 yX8_carryOut wsX8_carryOut) := goodIn_app (goodIn_of _ (by decide +kernel)) ggX8_run_X8_carryOut
set_option maxRecDepth 20000 in
theorem ggX8_run_X1_takeBack : GoodIn wsX8_run wsX1_takeBack := goodIn_r _ [369, 105, 106, 107, 108, 103, 109, 110, 111, 112, 113, 114, 115, 116, 117, 118, 119, 120, 121, 122, 123, 124, 125, 126, 127, 128, 129, 130, 131, 132, 133, 134, 135, 136, 137, 138, 139, 140, 141, 142, 143, 144, 145, 146, 147, 148, 149, 150, 151, 152, 153, 154, 155, 156, 157, 158, 159, 160, 161, 162, 163, 164, 165, 166, 167, 168, 169, 170, 171, 172, 173, 174, 175, 176, 28, 177, 178, 179, 180, 181, 182, 183, 184, 185, 186, 187, 188, 189, 190, 191, 192, 193, 194, 195, 196, 395, 396, 397, 398, 399, 400, 401, 402, 403, 404, 405, 406, 407, 408, 409, 410, 411, 412, 413, 414, 415, 416, 417, 418, 419, 420, 421, 422, 423, 424, 425, 426] (by decide +kernel) (by decide +kernel)
set_option maxRecDepth 20000 in
theorem gX8_run_X1_takeBack : GoodIn wsX8_run (wsV RX8 232 RX1 yX1_takeBack wsX1_takeBack) := goodIn_app (goodIn_of _ (by decide +kernel)) ggX8_run_X1_takeBack
set_option maxRecDepth 20000 in
theorem ggX8_run_X8_refuse : GoodIn wsX8_run wsX8_refuse := goodIn_r _ [219, 220, 221, 380, 381, 382, 383, 384, 385, 386, 387, 388] (by decide +kernel) (by decide +kernel)
set_option maxRecDepth 20000 in
theorem gX8_run_X8_refuse : GoodIn wsX8_run (wsV RX8 235 RX8 yX8_refuse wsX8_refuse) := goodIn_app (goodIn_of _ (by decide +kernel)) ggX8_run_X8_refuse
set_option maxRecDepth 20000 in
theorem ggX8_run_X8_settle : GoodIn wsX8_run wsX8_settle := goodIn_r _ [373, 4, 374, 375, 376, 103, 377, 105, 378, 379, 179, 180, 181, 114, 115, 116, 117, 380, 381, 382, 383, 384, 385, 386, 387, 388, 395, 396, 397] (by decide +kernel) (by decide +kernel)
set_option maxRecDepth 20000 in
theorem gX8_run_X8_settle : GoodIn wsX8_run (wsV RX8 62 RX8 yX8_settle wsX8_settle) := goodIn_app (goodIn_of _ (by decide +kernel)) ggX8_run_X8_settle
theorem dX8_run_0 : decode cX8_run 0 = .ok (.aload_n 0, 1) := by decide +kernel
theorem dX8_run_1 : decode cX8_run 1 = .ok (.getfield 36, 3) := by decide +kernel
theorem dX8_run_4 : decode cX8_run 4 = .ok (.aload_n 0, 1) := by decide +kernel
theorem dX8_run_5 : decode cX8_run 5 = .ok (.getfield 29, 3) := by decide +kernel
theorem dX8_run_8 : decode cX8_run 8 = .ok (.invokevirtual 224, 3) := by decide +kernel
theorem dX8_run_11 : decode cX8_run 11 = .ok (.istore_n 1, 1) := by decide +kernel
theorem dX8_run_12 : decode cX8_run 12 = .ok (.aload_n 0, 1) := by decide +kernel
theorem dX8_run_13 : decode cX8_run 13 = .ok (.getfield 29, 3) := by decide +kernel
theorem dX8_run_16 : decode cX8_run 16 = .ok (.iconst 0, 1) := by decide +kernel
theorem dX8_run_17 : decode cX8_run 17 = .ok (.putfield 218, 3) := by decide +kernel
theorem dX8_run_20 : decode cX8_run 20 = .ok (.iload_n 1, 1) := by decide +kernel
theorem dX8_run_21 : decode cX8_run 21 = .ok (.iconst (-1), 1) := by decide +kernel
theorem dX8_run_22 : decode cX8_run 22 = .ok (.if_icmp .eq 9, 3) := by decide +kernel
theorem dX8_run_25 : decode cX8_run 25 = .ok (.sipush (-2000), 3) := by decide +kernel
theorem dX8_run_28 : decode cX8_run 28 = .ok (.iload_n 1, 1) := by decide +kernel
theorem dX8_run_29 : decode cX8_run 29 = .ok (.isub, 1) := by decide +kernel
theorem dX8_run_30 : decode cX8_run 30 = .ok (.ireturn, 1) := by decide +kernel
theorem dX8_run_31 : decode cX8_run 31 = .ok (.aload_n 0, 1) := by decide +kernel
theorem dX8_run_32 : decode cX8_run 32 = .ok (.getfield 22, 3) := by decide +kernel
theorem dX8_run_35 : decode cX8_run 35 = .ok (.aload_n 0, 1) := by decide +kernel
theorem dX8_run_36 : decode cX8_run 36 = .ok (.getfield 12, 3) := by decide +kernel
theorem dX8_run_39 : decode cX8_run 39 = .ok (.invokevirtual 54, 3) := by decide +kernel
theorem dX8_run_42 : decode cX8_run 42 = .ok (.iconst 0, 1) := by decide +kernel
theorem dX8_run_43 : decode cX8_run 43 = .ok (.istore_n 2, 1) := by decide +kernel
theorem dX8_run_44 : decode cX8_run 44 = .ok (.iload_n 2, 1) := by decide +kernel
theorem dX8_run_45 : decode cX8_run 45 = .ok (.aload_n 0, 1) := by decide +kernel
theorem dX8_run_46 : decode cX8_run 46 = .ok (.getfield 36, 3) := by decide +kernel
theorem dX8_run_49 : decode cX8_run 49 = .ok (.getfield 228, 3) := by decide +kernel
theorem dX8_run_52 : decode cX8_run 52 = .ok (.if_icmp .ge 36, 3) := by decide +kernel
theorem dX8_run_55 : decode cX8_run 55 = .ok (.aload_n 0, 1) := by decide +kernel
theorem dX8_run_56 : decode cX8_run 56 = .ok (.iload_n 2, 1) := by decide +kernel
theorem dX8_run_57 : decode cX8_run 57 = .ok (.invokevirtual 229, 3) := by decide +kernel
theorem dX8_run_60 : decode cX8_run 60 = .ok (.ifCond .ge 22, 3) := by decide +kernel
theorem dX8_run_63 : decode cX8_run 63 = .ok (.aload_n 0, 1) := by decide +kernel
theorem dX8_run_64 : decode cX8_run 64 = .ok (.getfield 22, 3) := by decide +kernel
theorem dX8_run_67 : decode cX8_run 67 = .ok (.aload_n 0, 1) := by decide +kernel
theorem dX8_run_68 : decode cX8_run 68 = .ok (.getfield 12, 3) := by decide +kernel
theorem dX8_run_71 : decode cX8_run 71 = .ok (.invokevirtual 232, 3) := by decide +kernel
theorem dX8_run_74 : decode cX8_run 74 = .ok (.aload_n 0, 1) := by decide +kernel
theorem dX8_run_75 : decode cX8_run 75 = .ok (.bipush 7, 2) := by decide +kernel
theorem dX8_run_77 : decode cX8_run 77 = .ok (.iload_n 2, 1) := by decide +kernel
theorem dX8_run_78 : decode cX8_run 78 = .ok (.invokevirtual 235, 3) := by decide +kernel
theorem dX8_run_81 : decode cX8_run 81 = .ok (.ireturn, 1) := by decide +kernel
theorem dX8_run_82 : decode cX8_run 82 = .ok (.iinc 2 1, 3) := by decide +kernel
theorem dX8_run_85 : decode cX8_run 85 = .ok (.goto (-41), 3) := by decide +kernel
theorem dX8_run_88 : decode cX8_run 88 = .ok (.aload_n 0, 1) := by decide +kernel
theorem dX8_run_89 : decode cX8_run 89 = .ok (.aload_n 0, 1) := by decide +kernel
theorem dX8_run_90 : decode cX8_run 90 = .ok (.getfield 36, 3) := by decide +kernel
theorem dX8_run_93 : decode cX8_run 93 = .ok (.getfield 228, 3) := by decide +kernel
theorem dX8_run_96 : decode cX8_run 96 = .ok (.invokevirtual 62, 3) := by decide +kernel
theorem dX8_run_99 : decode cX8_run 99 = .ok (.ireturn, 1) := by decide +kernel
set_option maxRecDepth 20000 in
theorem ggX8_tell_X5_has : GoodIn wsX8_tell wsX5_has := goodIn_r _ [9, 10, 72, 73, 74, 75, 76, 77, 78] (by decide +kernel) (by decide +kernel)
set_option maxRecDepth 20000 in
theorem gX8_tell_X5_has : GoodIn wsX8_tell (wsV RX8 79 RX5 yX5_has wsX5_has) := goodIn_app (goodIn_of _ (by decide +kernel)) ggX8_tell_X5_has
set_option maxRecDepth 20000 in
theorem ggX8_tell_X8_tellRope : GoodIn wsX8_tell wsX8_tellRope := goodIn_r _ [15, 3, 1, 2, 16, 17, 18, 19, 20, 21, 22, 23, 24, 25, 26, 27, 28, 29, 30, 31, 32, 33, 34, 14, 35, 36, 37, 38, 39, 49, 50, 51, 52, 53, 54, 55, 56, 57, 58, 59, 60, 61, 62, 63, 64, 65, 66, 67, 68, 69, 72, 73, 74, 75, 76, 77, 78, 70, 71] (by decide +kernel) (by decide +kernel)
set_option maxRecDepth 20000 in
theorem gX8_tell_X8_tellRope : GoodIn wsX8_tell (wsV RX8 239 RX8 yX8_tellRope wsX8_tellRope) := goodIn_app (goodIn_of _ (by decide +kernel)) ggX8_tell_X8_tellRope
set_option maxRecDepth 20000 in
theorem ggX8_tell_X8_tellPulls : GoodIn wsX8_tell wsX8_tellPulls := goodIn_r _ [43, 1, 44, 45, 46, 3, 47, 48, 37, 38, 14, 39, 36, 25, 26, 22, 27, 28, 29, 30, 31, 32, 33, 34, 35, 19, 20, 21, 23, 24, 49, 50, 51, 52, 53, 54, 55, 56, 57, 58, 59, 60, 61, 62, 63, 64, 65, 66, 67, 68, 69, 79, 80, 81, 82, 70, 71] (by decide +kernel) (by decide +kernel)
set_option maxRecDepth 20000 in
theorem gX8_tell_X8_tellPulls : GoodIn wsX8_tell (wsV RX8 243 RX8 yX8_tellPulls wsX8_tellPulls) := goodIn_app (goodIn_of _ (by decide +kernel)) ggX8_tell_X8_tellPulls
theorem dX8_tell_0 : decode cX8_tell 0 = .ok (.aload_n 0, 1) := by decide +kernel
theorem dX8_tell_1 : decode cX8_tell 1 = .ok (.getfield 12, 3) := by decide +kernel
theorem dX8_tell_4 : decode cX8_tell 4 = .ok (.getfield 75, 3) := by decide +kernel
theorem dX8_tell_7 : decode cX8_tell 7 = .ok (.iload_n 1, 1) := by decide +kernel
theorem dX8_tell_8 : decode cX8_tell 8 = .ok (.invokevirtual 79, 3) := by decide +kernel
theorem dX8_tell_11 : decode cX8_tell 11 = .ok (.ifCond .ne 7, 3) := by decide +kernel
theorem dX8_tell_14 : decode cX8_tell 14 = .ok (.sipush (-1011), 3) := by decide +kernel
theorem dX8_tell_17 : decode cX8_tell 17 = .ok (.ireturn, 1) := by decide +kernel
theorem dX8_tell_18 : decode cX8_tell 18 = .ok (.aload_n 0, 1) := by decide +kernel
theorem dX8_tell_19 : decode cX8_tell 19 = .ok (.getfield 43, 3) := by decide +kernel
theorem dX8_tell_22 : decode cX8_tell 22 = .ok (.iconst 0, 1) := by decide +kernel
theorem dX8_tell_23 : decode cX8_tell 23 = .ok (.putfield 238, 3) := by decide +kernel
theorem dX8_tell_26 : decode cX8_tell 26 = .ok (.aload_n 0, 1) := by decide +kernel
theorem dX8_tell_27 : decode cX8_tell 27 = .ok (.iload_n 1, 1) := by decide +kernel
theorem dX8_tell_28 : decode cX8_tell 28 = .ok (.invokevirtual 239, 3) := by decide +kernel
theorem dX8_tell_31 : decode cX8_tell 31 = .ok (.aload_n 0, 1) := by decide +kernel
theorem dX8_tell_32 : decode cX8_tell 32 = .ok (.iload_n 1, 1) := by decide +kernel
theorem dX8_tell_33 : decode cX8_tell 33 = .ok (.invokevirtual 243, 3) := by decide +kernel
theorem dX8_tell_36 : decode cX8_tell 36 = .ok (.aload_n 0, 1) := by decide +kernel
theorem dX8_tell_37 : decode cX8_tell 37 = .ok (.getfield 43, 3) := by decide +kernel
theorem dX8_tell_40 : decode cX8_tell 40 = .ok (.getfield 238, 3) := by decide +kernel
theorem dX8_tell_43 : decode cX8_tell 43 = .ok (.ireturn, 1) := by decide +kernel
set_option maxRecDepth 20000 in
theorem ggX8_tellDay_X8_at : GoodIn wsX8_tellDay wsX8_at := goodIn_r _ [8] (by decide +kernel) (by decide +kernel)
set_option maxRecDepth 20000 in
theorem gX8_tellDay_X8_at : GoodIn wsX8_tellDay (va_wsS RX8 89 yX8_at wsX8_at) := goodIn_app (goodIn_of _ (by decide +kernel)) ggX8_tellDay_X8_at
set_option maxRecDepth 20000 in
theorem ggX8_tellDay_X8_tellHour : GoodIn wsX8_tellDay wsX8_tellHour := goodIn_r _ [12, 1, 2, 13, 14, 15, 16, 17, 18, 19, 20, 21, 22, 23, 24, 7, 25, 26, 27, 28, 29, 30, 31, 32, 33, 34, 3, 35, 4, 36, 37, 38, 5, 6, 8, 39, 40, 41, 42, 43, 44, 45, 46, 47, 48, 49, 50, 51, 52, 53, 54, 55, 56, 57, 58, 59, 60, 61, 62, 63, 64, 65, 66, 67, 68, 69, 70, 71, 72, 73, 74, 75, 76, 77, 78, 79, 80, 81, 82, 83, 84, 85, 86, 87, 88] (by decide +kernel) (by decide +kernel)
set_option maxRecDepth 20000 in
theorem gX8_tellDay_X8_tellHour : GoodIn wsX8_tellDay (wsV RX8 246 RX8 yX8_tellHour wsX8_tellHour) := goodIn_app (goodIn_of _ (by decide +kernel)) ggX8_tellDay_X8_tellHour
theorem dX8_tellDay_0 : decode cX8_tellDay 0 = .ok (.aload_n 0, 1) := by decide +kernel
theorem dX8_tellDay_1 : decode cX8_tellDay 1 = .ok (.getfield 43, 3) := by decide +kernel
theorem dX8_tellDay_4 : decode cX8_tellDay 4 = .ok (.iconst 0, 1) := by decide +kernel
theorem dX8_tellDay_5 : decode cX8_tellDay 5 = .ok (.putfield 238, 3) := by decide +kernel
theorem dX8_tellDay_8 : decode cX8_tellDay 8 = .ok (.iconst 0, 1) := by decide +kernel
theorem dX8_tellDay_9 : decode cX8_tellDay 9 = .ok (.istore_n 1, 1) := by decide +kernel
theorem dX8_tellDay_10 : decode cX8_tellDay 10 = .ok (.iload_n 1, 1) := by decide +kernel
theorem dX8_tellDay_11 : decode cX8_tellDay 11 = .ok (.bipush 24, 2) := by decide +kernel
theorem dX8_tellDay_13 : decode cX8_tellDay 13 = .ok (.if_icmp .ge 28, 3) := by decide +kernel
theorem dX8_tellDay_16 : decode cX8_tellDay 16 = .ok (.aload_n 0, 1) := by decide +kernel
theorem dX8_tellDay_17 : decode cX8_tellDay 17 = .ok (.getfield 12, 3) := by decide +kernel
theorem dX8_tellDay_20 : decode cX8_tellDay 20 = .ok (.getfield 183, 3) := by decide +kernel
theorem dX8_tellDay_23 : decode cX8_tellDay 23 = .ok (.iload_n 1, 1) := by decide +kernel
theorem dX8_tellDay_24 : decode cX8_tellDay 24 = .ok (.invokestatic 89, 3) := by decide +kernel
theorem dX8_tellDay_27 : decode cX8_tellDay 27 = .ok (.ifCond .eq 8, 3) := by decide +kernel
theorem dX8_tellDay_30 : decode cX8_tellDay 30 = .ok (.aload_n 0, 1) := by decide +kernel
theorem dX8_tellDay_31 : decode cX8_tellDay 31 = .ok (.iload_n 1, 1) := by decide +kernel
theorem dX8_tellDay_32 : decode cX8_tellDay 32 = .ok (.invokevirtual 246, 3) := by decide +kernel
theorem dX8_tellDay_35 : decode cX8_tellDay 35 = .ok (.iinc 1 1, 3) := by decide +kernel
theorem dX8_tellDay_38 : decode cX8_tellDay 38 = .ok (.goto (-28), 3) := by decide +kernel
theorem dX8_tellDay_41 : decode cX8_tellDay 41 = .ok (.aload_n 0, 1) := by decide +kernel
theorem dX8_tellDay_42 : decode cX8_tellDay 42 = .ok (.getfield 43, 3) := by decide +kernel
theorem dX8_tellDay_45 : decode cX8_tellDay 45 = .ok (.getfield 238, 3) := by decide +kernel
theorem dX8_tellDay_48 : decode cX8_tellDay 48 = .ok (.ireturn, 1) := by decide +kernel
set_option maxRecDepth 20000 in
theorem ggX8_character_X8_at : GoodIn wsX8_character wsX8_at := goodIn_r _ [7] (by decide +kernel) (by decide +kernel)
set_option maxRecDepth 20000 in
theorem gX8_character_X8_at : GoodIn wsX8_character (va_wsS RX8 89 yX8_at wsX8_at) := goodIn_app (goodIn_of _ (by decide +kernel)) ggX8_character_X8_at
theorem dX8_character_0 : decode cX8_character 0 = .ok (.iload_n 1, 1) := by decide +kernel
theorem dX8_character_1 : decode cX8_character 1 = .ok (.ifCond .lt 28, 3) := by decide +kernel
theorem dX8_character_4 : decode cX8_character 4 = .ok (.iload_n 1, 1) := by decide +kernel
theorem dX8_character_5 : decode cX8_character 5 = .ok (.aload_n 0, 1) := by decide +kernel
theorem dX8_character_6 : decode cX8_character 6 = .ok (.getfield 43, 3) := by decide +kernel
theorem dX8_character_9 : decode cX8_character 9 = .ok (.getfield 238, 3) := by decide +kernel
theorem dX8_character_12 : decode cX8_character 12 = .ok (.if_icmp .ge 17, 3) := by decide +kernel
theorem dX8_character_15 : decode cX8_character 15 = .ok (.aload_n 0, 1) := by decide +kernel
theorem dX8_character_16 : decode cX8_character 16 = .ok (.getfield 43, 3) := by decide +kernel
theorem dX8_character_19 : decode cX8_character 19 = .ok (.getfield 249, 3) := by decide +kernel
theorem dX8_character_22 : decode cX8_character 22 = .ok (.iload_n 1, 1) := by decide +kernel
theorem dX8_character_23 : decode cX8_character 23 = .ok (.invokestatic 89, 3) := by decide +kernel
theorem dX8_character_26 : decode cX8_character 26 = .ok (.goto 6, 3) := by decide +kernel
theorem dX8_character_29 : decode cX8_character 29 = .ok (.sipush (-1011), 3) := by decide +kernel
theorem dX8_character_32 : decode cX8_character 32 = .ok (.ireturn, 1) := by decide +kernel
theorem dX8_reason_0 : decode cX8_reason 0 = .ok (.iload_n 1, 1) := by decide +kernel
theorem dX8_reason_1 : decode cX8_reason 1 = .ok (.ifCond .eq 10, 3) := by decide +kernel
theorem dX8_reason_4 : decode cX8_reason 4 = .ok (.aload_n 0, 1) := by decide +kernel
theorem dX8_reason_5 : decode cX8_reason 5 = .ok (.getfield 51, 3) := by decide +kernel
theorem dX8_reason_8 : decode cX8_reason 8 = .ok (.goto 7, 3) := by decide +kernel
theorem dX8_reason_11 : decode cX8_reason 11 = .ok (.aload_n 0, 1) := by decide +kernel
theorem dX8_reason_12 : decode cX8_reason 12 = .ok (.getfield 47, 3) := by decide +kernel
theorem dX8_reason_15 : decode cX8_reason 15 = .ok (.ireturn, 1) := by decide +kernel
set_option maxRecDepth 20000 in
theorem ggX8_account_X8_sum : GoodIn wsX8_account wsX8_sum := goodIn_r _ [23] (by decide +kernel) (by decide +kernel)
set_option maxRecDepth 20000 in
theorem gX8_account_X8_sum : GoodIn wsX8_account (va_wsS RX8 268 yX8_sum wsX8_sum) := goodIn_app (goodIn_of _ (by decide +kernel)) ggX8_account_X8_sum
theorem dX8_account_0 : decode cX8_account 0 = .ok (.iload_n 1, 1) := by decide +kernel
theorem dX8_account_1 : decode cX8_account 1 = .ok (.tableswitch 186 0 12 #[67, 78, 89, 97, 105, 113, 121, 129, 137, 145, 159, 170, 178], 67) := by decide +kernel
theorem dX8_account_68 : decode cX8_account 68 = .ok (.aload_n 0, 1) := by decide +kernel
theorem dX8_account_69 : decode cX8_account 69 = .ok (.getfield 12, 3) := by decide +kernel
theorem dX8_account_72 : decode cX8_account 72 = .ok (.getfield 75, 3) := by decide +kernel
theorem dX8_account_75 : decode cX8_account 75 = .ok (.getfield 160, 3) := by decide +kernel
theorem dX8_account_78 : decode cX8_account 78 = .ok (.ireturn, 1) := by decide +kernel
theorem dX8_account_79 : decode cX8_account 79 = .ok (.aload_n 0, 1) := by decide +kernel
theorem dX8_account_80 : decode cX8_account 80 = .ok (.getfield 12, 3) := by decide +kernel
theorem dX8_account_83 : decode cX8_account 83 = .ok (.getfield 108, 3) := by decide +kernel
theorem dX8_account_86 : decode cX8_account 86 = .ok (.getfield 154, 3) := by decide +kernel
theorem dX8_account_89 : decode cX8_account 89 = .ok (.ireturn, 1) := by decide +kernel
theorem dX8_account_90 : decode cX8_account 90 = .ok (.aload_n 0, 1) := by decide +kernel
theorem dX8_account_91 : decode cX8_account 91 = .ok (.getfield 12, 3) := by decide +kernel
theorem dX8_account_94 : decode cX8_account 94 = .ok (.getfield 252, 3) := by decide +kernel
theorem dX8_account_97 : decode cX8_account 97 = .ok (.ireturn, 1) := by decide +kernel
theorem dX8_account_98 : decode cX8_account 98 = .ok (.aload_n 0, 1) := by decide +kernel
theorem dX8_account_99 : decode cX8_account 99 = .ok (.getfield 12, 3) := by decide +kernel
theorem dX8_account_102 : decode cX8_account 102 = .ok (.getfield 254, 3) := by decide +kernel
theorem dX8_account_105 : decode cX8_account 105 = .ok (.ireturn, 1) := by decide +kernel
theorem dX8_account_106 : decode cX8_account 106 = .ok (.aload_n 0, 1) := by decide +kernel
theorem dX8_account_107 : decode cX8_account 107 = .ok (.getfield 12, 3) := by decide +kernel
theorem dX8_account_110 : decode cX8_account 110 = .ok (.getfield 256, 3) := by decide +kernel
theorem dX8_account_113 : decode cX8_account 113 = .ok (.ireturn, 1) := by decide +kernel
theorem dX8_account_114 : decode cX8_account 114 = .ok (.aload_n 0, 1) := by decide +kernel
theorem dX8_account_115 : decode cX8_account 115 = .ok (.getfield 12, 3) := by decide +kernel
theorem dX8_account_118 : decode cX8_account 118 = .ok (.getfield 259, 3) := by decide +kernel
theorem dX8_account_121 : decode cX8_account 121 = .ok (.ireturn, 1) := by decide +kernel
theorem dX8_account_122 : decode cX8_account 122 = .ok (.aload_n 0, 1) := by decide +kernel
theorem dX8_account_123 : decode cX8_account 123 = .ok (.getfield 12, 3) := by decide +kernel
theorem dX8_account_126 : decode cX8_account 126 = .ok (.getfield 261, 3) := by decide +kernel
theorem dX8_account_129 : decode cX8_account 129 = .ok (.ireturn, 1) := by decide +kernel
theorem dX8_account_130 : decode cX8_account 130 = .ok (.aload_n 0, 1) := by decide +kernel
theorem dX8_account_131 : decode cX8_account 131 = .ok (.getfield 12, 3) := by decide +kernel
theorem dX8_account_134 : decode cX8_account 134 = .ok (.getfield 263, 3) := by decide +kernel
theorem dX8_account_137 : decode cX8_account 137 = .ok (.ireturn, 1) := by decide +kernel
theorem dX8_account_138 : decode cX8_account 138 = .ok (.aload_n 0, 1) := by decide +kernel
theorem dX8_account_139 : decode cX8_account 139 = .ok (.getfield 12, 3) := by decide +kernel
theorem dX8_account_142 : decode cX8_account 142 = .ok (.getfield 265, 3) := by decide +kernel
theorem dX8_account_145 : decode cX8_account 145 = .ok (.ireturn, 1) := by decide +kernel
theorem dX8_account_146 : decode cX8_account 146 = .ok (.aload_n 0, 1) := by decide +kernel
theorem dX8_account_147 : decode cX8_account 147 = .ok (.getfield 12, 3) := by decide +kernel
theorem dX8_account_150 : decode cX8_account 150 = .ok (.getfield 75, 3) := by decide +kernel
theorem dX8_account_153 : decode cX8_account 153 = .ok (.getfield 96, 3) := by decide +kernel
theorem dX8_account_156 : decode cX8_account 156 = .ok (.invokestatic 268, 3) := by decide +kernel
theorem dX8_account_159 : decode cX8_account 159 = .ok (.ireturn, 1) := by decide +kernel
theorem dX8_account_160 : decode cX8_account 160 = .ok (.aload_n 0, 1) := by decide +kernel
theorem dX8_account_161 : decode cX8_account 161 = .ok (.getfield 12, 3) := by decide +kernel
theorem dX8_account_164 : decode cX8_account 164 = .ok (.getfield 164, 3) := by decide +kernel
theorem dX8_account_167 : decode cX8_account 167 = .ok (.getfield 272, 3) := by decide +kernel
theorem dX8_account_170 : decode cX8_account 170 = .ok (.ireturn, 1) := by decide +kernel
theorem dX8_account_171 : decode cX8_account 171 = .ok (.aload_n 0, 1) := by decide +kernel
theorem dX8_account_172 : decode cX8_account 172 = .ok (.getfield 29, 3) := by decide +kernel
theorem dX8_account_175 : decode cX8_account 175 = .ok (.getfield 218, 3) := by decide +kernel
theorem dX8_account_178 : decode cX8_account 178 = .ok (.ireturn, 1) := by decide +kernel
theorem dX8_account_179 : decode cX8_account 179 = .ok (.aload_n 0, 1) := by decide +kernel
theorem dX8_account_180 : decode cX8_account 180 = .ok (.getfield 22, 3) := by decide +kernel
theorem dX8_account_183 : decode cX8_account 183 = .ok (.getfield 273, 3) := by decide +kernel
theorem dX8_account_186 : decode cX8_account 186 = .ok (.ireturn, 1) := by decide +kernel
theorem dX8_account_187 : decode cX8_account 187 = .ok (.sipush (-1012), 3) := by decide +kernel
theorem dX8_account_190 : decode cX8_account 190 = .ok (.ireturn, 1) := by decide +kernel
set_option maxRecDepth 20000 in
theorem ggX8_isBalanced_X8_arePullsAccountedFor : GoodIn wsX8_isBalanced wsX8_arePullsAccountedFor := goodIn_r _ [5, 6, 7, 8, 9, 10, 11, 12, 13, 217, 218, 219, 220, 221, 222, 223, 224, 225, 226, 227, 228, 229, 230, 231, 232, 233, 234, 235, 236, 237, 238, 239, 240, 241] (by decide +kernel) (by decide +kernel)
set_option maxRecDepth 20000 in
theorem gX8_isBalanced_X8_arePullsAccountedFor : GoodIn wsX8_isBalanced (wsV RX8 274 RX8 yX8_arePullsAccountedFor wsX8_arePullsAccountedFor) := goodIn_app (goodIn_of _ (by decide +kernel)) ggX8_isBalanced_X8_arePullsAccountedFor
set_option maxRecDepth 20000 in
theorem ggX8_isBalanced_X8_areRopesAccountedFor : GoodIn wsX8_isBalanced wsX8_areRopesAccountedFor := goodIn_r _ [17, 6, 18, 19, 10, 20, 11, 21, 12, 8, 9, 22, 23, 4, 24, 25, 26, 27, 28, 29, 30, 31, 32, 33, 34, 35, 36, 37, 38, 39, 40, 41, 42, 43, 217, 218, 219, 220, 221, 222, 223, 224, 225, 226, 227, 228, 229, 230, 231, 232, 233, 234, 235, 236, 237, 242, 243, 244, 245, 246, 247, 248, 238, 239, 240, 241] (by decide +kernel) (by decide +kernel)
set_option maxRecDepth 20000 in
theorem gX8_isBalanced_X8_areRopesAccountedFor : GoodIn wsX8_isBalanced (wsV RX8 278 RX8 yX8_areRopesAccountedFor wsX8_areRopesAccountedFor) := goodIn_app (goodIn_of _ (by decide +kernel)) ggX8_isBalanced_X8_areRopesAccountedFor
set_option maxRecDepth 20000 in
theorem ggX8_isBalanced_X8_forecast : GoodIn wsX8_isBalanced wsX8_forecast := goodIn_r _ [47, 48, 6, 8, 9, 49, 50, 51, 52, 53, 54, 55, 56, 57, 58, 59, 60, 61, 62, 63, 64, 65, 66, 67, 68, 28, 69, 30, 70, 71, 72, 73, 74, 75, 76, 4, 77, 78, 79, 80, 81, 82, 83, 84, 85, 86, 87, 88, 36, 89, 38, 39, 90, 91, 92, 93, 94, 95, 96, 97, 98, 99, 100, 101, 102, 103, 104, 105, 106, 107, 108, 109, 110, 40, 41, 111, 112, 113, 114, 115, 116, 117, 118, 119, 120, 121, 122, 123, 42, 43, 124, 125, 126, 127, 128, 129, 130, 131, 132, 133, 134, 135, 136, 137, 138, 139, 140, 141, 142, 143, 144, 145, 146, 31, 32, 147, 148, 149, 150, 151, 152, 153, 154, 155, 217, 218, 219, 220, 221, 222, 223, 224, 225, 226, 227, 228, 229, 230, 231, 232, 233, 234, 235, 236, 237, 238, 239, 240, 241, 242, 243, 244, 245, 246, 247, 248, 249, 250, 251, 252, 253, 254] (by decide +kernel) (by decide +kernel)
set_option maxRecDepth 20000 in
theorem gX8_isBalanced_X8_forecast : GoodIn wsX8_isBalanced (wsV RX8 281 RX8 yX8_forecast wsX8_forecast) := goodIn_app (goodIn_of _ (by decide +kernel)) ggX8_isBalanced_X8_forecast
set_option maxRecDepth 20000 in
theorem ggX8_isBalanced_X8_forecastAgain : GoodIn wsX8_isBalanced wsX8_forecastAgain := goodIn_r _ [159, 6, 18, 160, 161, 162, 163, 52, 164, 54, 165, 166, 55, 167, 109, 107, 108, 168, 79, 80, 81, 40, 4, 41, 169, 170, 171, 172, 57, 42, 43, 31, 32, 217, 218, 219, 220, 221, 222, 223, 224, 225, 226, 227, 228, 229, 230, 231, 232, 233, 234, 235, 236, 237, 242, 243, 244, 245, 246, 247, 248, 238, 239, 240, 241] (by decide +kernel) (by decide +kernel)
set_option maxRecDepth 20000 in
theorem gX8_isBalanced_X8_forecastAgain : GoodIn wsX8_isBalanced (wsV RX8 284 RX8 yX8_forecastAgain wsX8_forecastAgain) := goodIn_app (goodIn_of _ (by decide +kernel)) ggX8_isBalanced_X8_forecastAgain
set_option maxRecDepth 20000 in
theorem ggX8_isBalanced_X8_areGuessesTheSame : GoodIn wsX8_isBalanced wsX8_areGuessesTheSame := goodIn_r _ [176, 177, 178, 179, 4, 180, 6, 18, 181, 182, 183, 184, 126, 40, 41, 185, 186, 187, 28, 188, 189, 190, 191, 192, 30, 70, 31, 32, 193, 194, 195, 196, 197, 198, 199, 200, 201, 202, 203, 204, 205, 206, 207, 42, 43, 208, 209, 210, 211, 212, 213, 214, 215, 216, 26, 27, 29, 217, 218, 219, 220, 221, 222, 223, 224, 225, 226, 227, 228, 229, 230, 231, 232, 233, 234, 235, 236, 237, 242, 243, 244, 245, 246, 247, 248] (by decide +kernel) (by decide +kernel)
set_option maxRecDepth 20000 in
theorem gX8_isBalanced_X8_areGuessesTheSame : GoodIn wsX8_isBalanced (wsV RX8 287 RX8 yX8_areGuessesTheSame wsX8_areGuessesTheSame) := goodIn_app (goodIn_of _ (by decide +kernel)) ggX8_isBalanced_X8_areGuessesTheSame
theorem dX8_isBalanced_0 : decode cX8_isBalanced 0 = .ok (.aload_n 0, 1) := by decide +kernel
theorem dX8_isBalanced_1 : decode cX8_isBalanced 1 = .ok (.invokevirtual 274, 3) := by decide +kernel
theorem dX8_isBalanced_4 : decode cX8_isBalanced 4 = .ok (.ifCond .eq 32, 3) := by decide +kernel
theorem dX8_isBalanced_7 : decode cX8_isBalanced 7 = .ok (.aload_n 0, 1) := by decide +kernel
theorem dX8_isBalanced_8 : decode cX8_isBalanced 8 = .ok (.invokevirtual 278, 3) := by decide +kernel
theorem dX8_isBalanced_11 : decode cX8_isBalanced 11 = .ok (.ifCond .eq 25, 3) := by decide +kernel
theorem dX8_isBalanced_14 : decode cX8_isBalanced 14 = .ok (.aload_n 0, 1) := by decide +kernel
theorem dX8_isBalanced_15 : decode cX8_isBalanced 15 = .ok (.invokevirtual 281, 3) := by decide +kernel
theorem dX8_isBalanced_18 : decode cX8_isBalanced 18 = .ok (.aload_n 0, 1) := by decide +kernel
theorem dX8_isBalanced_19 : decode cX8_isBalanced 19 = .ok (.invokevirtual 284, 3) := by decide +kernel
theorem dX8_isBalanced_22 : decode cX8_isBalanced 22 = .ok (.if_icmp .ne 14, 3) := by decide +kernel
theorem dX8_isBalanced_25 : decode cX8_isBalanced 25 = .ok (.aload_n 0, 1) := by decide +kernel
theorem dX8_isBalanced_26 : decode cX8_isBalanced 26 = .ok (.invokevirtual 287, 3) := by decide +kernel
theorem dX8_isBalanced_29 : decode cX8_isBalanced 29 = .ok (.ifCond .eq 7, 3) := by decide +kernel
theorem dX8_isBalanced_32 : decode cX8_isBalanced 32 = .ok (.iconst 1, 1) := by decide +kernel
theorem dX8_isBalanced_33 : decode cX8_isBalanced 33 = .ok (.goto 4, 3) := by decide +kernel
theorem dX8_isBalanced_36 : decode cX8_isBalanced 36 = .ok (.iconst 0, 1) := by decide +kernel
theorem dX8_isBalanced_37 : decode cX8_isBalanced 37 = .ok (.istore_n 1, 1) := by decide +kernel
theorem dX8_isBalanced_38 : decode cX8_isBalanced 38 = .ok (.iload_n 1, 1) := by decide +kernel
theorem dX8_isBalanced_39 : decode cX8_isBalanced 39 = .ok (.ifCond .eq 7, 3) := by decide +kernel
theorem dX8_isBalanced_42 : decode cX8_isBalanced 42 = .ok (.iconst 1, 1) := by decide +kernel
theorem dX8_isBalanced_43 : decode cX8_isBalanced 43 = .ok (.goto 4, 3) := by decide +kernel
theorem dX8_isBalanced_46 : decode cX8_isBalanced 46 = .ok (.iconst 0, 1) := by decide +kernel
theorem dX8_isBalanced_47 : decode cX8_isBalanced 47 = .ok (.ireturn, 1) := by decide +kernel
set_option maxRecDepth 20000 in
theorem ggX8_meanRust_X8_sum : GoodIn wsX8_meanRust wsX8_sum := goodIn_r _ [8] (by decide +kernel) (by decide +kernel)
set_option maxRecDepth 20000 in
theorem gX8_meanRust_X8_sum : GoodIn wsX8_meanRust (va_wsS RX8 268 yX8_sum wsX8_sum) := goodIn_app (goodIn_of _ (by decide +kernel)) ggX8_meanRust_X8_sum
theorem dX8_meanRust_0 : decode cX8_meanRust 0 = .ok (.aload_n 0, 1) := by decide +kernel
theorem dX8_meanRust_1 : decode cX8_meanRust 1 = .ok (.getfield 12, 3) := by decide +kernel
theorem dX8_meanRust_4 : decode cX8_meanRust 4 = .ok (.getfield 75, 3) := by decide +kernel
theorem dX8_meanRust_7 : decode cX8_meanRust 7 = .ok (.getfield 160, 3) := by decide +kernel
theorem dX8_meanRust_10 : decode cX8_meanRust 10 = .ok (.istore_n 1, 1) := by decide +kernel
theorem dX8_meanRust_11 : decode cX8_meanRust 11 = .ok (.iload_n 1, 1) := by decide +kernel
theorem dX8_meanRust_12 : decode cX8_meanRust 12 = .ok (.ifCond .le 23, 3) := by decide +kernel
theorem dX8_meanRust_15 : decode cX8_meanRust 15 = .ok (.aload_n 0, 1) := by decide +kernel
theorem dX8_meanRust_16 : decode cX8_meanRust 16 = .ok (.getfield 12, 3) := by decide +kernel
theorem dX8_meanRust_19 : decode cX8_meanRust 19 = .ok (.getfield 75, 3) := by decide +kernel
theorem dX8_meanRust_22 : decode cX8_meanRust 22 = .ok (.getfield 96, 3) := by decide +kernel
theorem dX8_meanRust_25 : decode cX8_meanRust 25 = .ok (.invokestatic 268, 3) := by decide +kernel
theorem dX8_meanRust_28 : decode cX8_meanRust 28 = .ok (.i2d, 1) := by decide +kernel
theorem dX8_meanRust_29 : decode cX8_meanRust 29 = .ok (.iload_n 1, 1) := by decide +kernel
theorem dX8_meanRust_30 : decode cX8_meanRust 30 = .ok (.i2d, 1) := by decide +kernel
theorem dX8_meanRust_31 : decode cX8_meanRust 31 = .ok (.ddiv, 1) := by decide +kernel
theorem dX8_meanRust_32 : decode cX8_meanRust 32 = .ok (.goto 4, 3) := by decide +kernel
theorem dX8_meanRust_35 : decode cX8_meanRust 35 = .ok (.dconst 0, 1) := by decide +kernel
theorem dX8_meanRust_36 : decode cX8_meanRust 36 = .ok (.dreturn, 1) := by decide +kernel
theorem dX8_answerShare_0 : decode cX8_answerShare 0 = .ok (.aload_n 0, 1) := by decide +kernel
theorem dX8_answerShare_1 : decode cX8_answerShare 1 = .ok (.getfield 12, 3) := by decide +kernel
theorem dX8_answerShare_4 : decode cX8_answerShare 4 = .ok (.getfield 259, 3) := by decide +kernel
theorem dX8_answerShare_7 : decode cX8_answerShare 7 = .ok (.aload_n 0, 1) := by decide +kernel
theorem dX8_answerShare_8 : decode cX8_answerShare 8 = .ok (.getfield 12, 3) := by decide +kernel
theorem dX8_answerShare_11 : decode cX8_answerShare 11 = .ok (.getfield 261, 3) := by decide +kernel
theorem dX8_answerShare_14 : decode cX8_answerShare 14 = .ok (.iadd, 1) := by decide +kernel
theorem dX8_answerShare_15 : decode cX8_answerShare 15 = .ok (.aload_n 0, 1) := by decide +kernel
theorem dX8_answerShare_16 : decode cX8_answerShare 16 = .ok (.getfield 12, 3) := by decide +kernel
theorem dX8_answerShare_19 : decode cX8_answerShare 19 = .ok (.getfield 263, 3) := by decide +kernel
theorem dX8_answerShare_22 : decode cX8_answerShare 22 = .ok (.iadd, 1) := by decide +kernel
theorem dX8_answerShare_23 : decode cX8_answerShare 23 = .ok (.istore_n 1, 1) := by decide +kernel
theorem dX8_answerShare_24 : decode cX8_answerShare 24 = .ok (.iload_n 1, 1) := by decide +kernel
theorem dX8_answerShare_25 : decode cX8_answerShare 25 = .ok (.ifCond .le 17, 3) := by decide +kernel
theorem dX8_answerShare_28 : decode cX8_answerShare 28 = .ok (.aload_n 0, 1) := by decide +kernel
theorem dX8_answerShare_29 : decode cX8_answerShare 29 = .ok (.getfield 12, 3) := by decide +kernel
theorem dX8_answerShare_32 : decode cX8_answerShare 32 = .ok (.getfield 259, 3) := by decide +kernel
theorem dX8_answerShare_35 : decode cX8_answerShare 35 = .ok (.i2f, 1) := by decide +kernel
theorem dX8_answerShare_36 : decode cX8_answerShare 36 = .ok (.iload_n 1, 1) := by decide +kernel
theorem dX8_answerShare_37 : decode cX8_answerShare 37 = .ok (.i2f, 1) := by decide +kernel
theorem dX8_answerShare_38 : decode cX8_answerShare 38 = .ok (.fdiv, 1) := by decide +kernel
theorem dX8_answerShare_39 : decode cX8_answerShare 39 = .ok (.goto 4, 3) := by decide +kernel
theorem dX8_answerShare_42 : decode cX8_answerShare 42 = .ok (.fconst 0, 1) := by decide +kernel
theorem dX8_answerShare_43 : decode cX8_answerShare 43 = .ok (.freturn, 1) := by decide +kernel
set_option maxRecDepth 20000 in
theorem ggX8_undo_X1_stepBack : GoodIn wsX8_undo wsX1_stepBack := goodIn_r _ [8, 9, 10, 11, 12, 13, 14, 15, 16, 17, 7, 18, 19, 20, 21, 22, 23, 24, 25, 26, 27, 28, 29, 30, 31, 32, 33, 34, 35, 36, 37, 38, 39, 40, 41, 42, 43, 44, 45, 46, 47, 48, 49, 50, 51, 52, 53, 54, 55, 56, 57, 58, 59, 60, 61, 62, 63, 64, 65, 66, 67, 68, 69, 70, 71, 72, 73, 74, 75, 76, 77, 78, 79, 80, 81, 82, 83, 84, 85, 86, 87, 88, 89, 90, 91, 92, 93, 94, 95, 96, 97, 98, 99, 100, 101, 102, 103, 104, 105, 106, 116, 117, 118, 119, 120, 121, 122, 123, 124, 125, 126, 127, 128, 129, 130, 131, 132, 133, 134, 135, 136, 137, 138, 139, 140, 141, 142, 143, 144, 145, 146, 147] (by decide +kernel) (by decide +kernel)
set_option maxRecDepth 20000 in
theorem gX8_undo_X1_stepBack : GoodIn wsX8_undo (wsV RX8 290 RX1 yX1_stepBack wsX1_stepBack) := goodIn_app (goodIn_of _ (by decide +kernel)) ggX8_undo_X1_stepBack
theorem dX8_undo_0 : decode cX8_undo 0 = .ok (.aload_n 0, 1) := by decide +kernel
theorem dX8_undo_1 : decode cX8_undo 1 = .ok (.getfield 22, 3) := by decide +kernel
theorem dX8_undo_4 : decode cX8_undo 4 = .ok (.aload_n 0, 1) := by decide +kernel
theorem dX8_undo_5 : decode cX8_undo 5 = .ok (.getfield 12, 3) := by decide +kernel
theorem dX8_undo_8 : decode cX8_undo 8 = .ok (.invokevirtual 290, 3) := by decide +kernel
theorem dX8_undo_11 : decode cX8_undo 11 = .ok (.ifCond .eq 13, 3) := by decide +kernel
theorem dX8_undo_14 : decode cX8_undo 14 = .ok (.aload_n 0, 1) := by decide +kernel
theorem dX8_undo_15 : decode cX8_undo 15 = .ok (.getfield 22, 3) := by decide +kernel
theorem dX8_undo_18 : decode cX8_undo 18 = .ok (.getfield 273, 3) := by decide +kernel
theorem dX8_undo_21 : decode cX8_undo 21 = .ok (.goto 6, 3) := by decide +kernel
theorem dX8_undo_24 : decode cX8_undo 24 = .ok (.sipush (-1015), 3) := by decide +kernel
theorem dX8_undo_27 : decode cX8_undo 27 = .ok (.ireturn, 1) := by decide +kernel
set_option maxRecDepth 20000 in
theorem ggX8_save_X7_init : GoodIn wsX8_save wsX7_init := goodIn_r _ [9, 10, 11, 12, 13, 14, 15, 16, 17, 18, 19, 20, 21, 22, 23, 24, 25, 26, 27, 28, 29, 30, 31, 32, 33, 34, 35, 36, 37, 38, 39, 40, 41, 42, 43, 44, 45, 46, 47, 48, 109, 110, 111, 112, 113, 114, 115, 97, 98, 99, 100, 101, 102, 103, 104, 105, 106, 107, 108, 116, 117, 118, 119, 120, 121, 122, 123, 124, 125] (by decide +kernel) (by decide +kernel)
set_option maxRecDepth 20000 in
theorem gX8_save_X7_init_n11 : GoodIn wsX8_save (wsX7_init) := ggX8_save_X7_init
set_option maxRecDepth 20000 in
theorem ggX8_save_X7_copyFrom : GoodIn wsX8_save wsX7_copyFrom := goodIn_r _ [52, 16, 20, 24, 26, 53, 54, 55, 56, 57, 58, 59, 60, 61, 62, 63, 15, 64, 65, 30, 31, 32, 33, 34, 35, 66, 67, 68, 69, 70, 71, 72, 73, 74, 75, 76, 77, 78, 79, 19, 80, 81, 39, 40, 41, 82, 83, 84, 23, 85, 86, 87, 45, 46, 47, 48, 97, 98, 99, 100, 101, 102, 103, 104, 105, 106, 107, 108, 109, 110, 111, 112, 113, 114, 115, 116, 117, 118, 119, 120, 121, 122, 123, 124, 125] (by decide +kernel) (by decide +kernel)
set_option maxRecDepth 20000 in
theorem gX8_save_X7_copyFrom : GoodIn wsX8_save (wsV RX8 151 RX7 yX7_copyFrom wsX7_copyFrom) := goodIn_app (goodIn_of _ (by decide +kernel)) ggX8_save_X7_copyFrom
theorem dX8_save_0 : decode cX8_save 0 = .ok (.aload_n 0, 1) := by decide +kernel
theorem dX8_save_1 : decode cX8_save 1 = .ok (.getfield 294, 3) := by decide +kernel
theorem dX8_save_4 : decode cX8_save 4 = .ok (.ifnonnull 14, 3) := by decide +kernel
theorem dX8_save_7 : decode cX8_save 7 = .ok (.aload_n 0, 1) := by decide +kernel
theorem dX8_save_8 : decode cX8_save 8 = .ok (.new 9, 3) := by decide +kernel
theorem dX8_save_11 : decode cX8_save 11 = .ok (.dup, 1) := by decide +kernel
theorem dX8_save_12 : decode cX8_save 12 = .ok (.invokespecial 11, 3) := by decide +kernel
theorem dX8_save_15 : decode cX8_save 15 = .ok (.putfield 294, 3) := by decide +kernel
theorem dX8_save_18 : decode cX8_save 18 = .ok (.aload_n 0, 1) := by decide +kernel
theorem dX8_save_19 : decode cX8_save 19 = .ok (.getfield 294, 3) := by decide +kernel
theorem dX8_save_22 : decode cX8_save 22 = .ok (.aload_n 0, 1) := by decide +kernel
theorem dX8_save_23 : decode cX8_save 23 = .ok (.getfield 12, 3) := by decide +kernel
theorem dX8_save_26 : decode cX8_save 26 = .ok (.invokevirtual 151, 3) := by decide +kernel
theorem dX8_save_29 : decode cX8_save 29 = .ok (.aload_n 0, 1) := by decide +kernel
theorem dX8_save_30 : decode cX8_save 30 = .ok (.getfield 12, 3) := by decide +kernel
theorem dX8_save_33 : decode cX8_save 33 = .ok (.getfield 75, 3) := by decide +kernel
theorem dX8_save_36 : decode cX8_save 36 = .ok (.getfield 160, 3) := by decide +kernel
theorem dX8_save_39 : decode cX8_save 39 = .ok (.ireturn, 1) := by decide +kernel
set_option maxRecDepth 20000 in
theorem ggX8_restore_X7_copyFrom : GoodIn wsX8_restore wsX7_copyFrom := goodIn_r _ [11, 12, 13, 14, 15, 16, 17, 18, 19, 20, 21, 22, 23, 24, 25, 26, 27, 28, 29, 30, 31, 32, 33, 34, 35, 36, 37, 38, 39, 40, 41, 42, 43, 44, 45, 46, 47, 48, 49, 50, 51, 52, 53, 54, 55, 56, 57, 58, 59, 60, 61, 62, 63, 64, 65, 66, 79, 80, 81, 82, 83, 84, 85, 86, 87, 88, 89, 90, 91, 92, 93, 94, 95, 96, 97, 98, 99, 100, 101, 102, 103, 104, 105, 106, 107] (by decide +kernel) (by decide +kernel)
set_option maxRecDepth 20000 in
theorem gX8_restore_X7_copyFrom : GoodIn wsX8_restore (wsV RX8 151 RX7 yX7_copyFrom wsX7_copyFrom) := goodIn_app (goodIn_of _ (by decide +kernel)) ggX8_restore_X7_copyFrom
theorem dX8_restore_0 : decode cX8_restore 0 = .ok (.aload_n 0, 1) := by decide +kernel
theorem dX8_restore_1 : decode cX8_restore 1 = .ok (.getfield 294, 3) := by decide +kernel
theorem dX8_restore_4 : decode cX8_restore 4 = .ok (.ifnonnull 7, 3) := by decide +kernel
theorem dX8_restore_7 : decode cX8_restore 7 = .ok (.sipush (-1015), 3) := by decide +kernel
theorem dX8_restore_10 : decode cX8_restore 10 = .ok (.ireturn, 1) := by decide +kernel
theorem dX8_restore_11 : decode cX8_restore 11 = .ok (.aload_n 0, 1) := by decide +kernel
theorem dX8_restore_12 : decode cX8_restore 12 = .ok (.getfield 12, 3) := by decide +kernel
theorem dX8_restore_15 : decode cX8_restore 15 = .ok (.aload_n 0, 1) := by decide +kernel
theorem dX8_restore_16 : decode cX8_restore 16 = .ok (.getfield 294, 3) := by decide +kernel
theorem dX8_restore_19 : decode cX8_restore 19 = .ok (.invokevirtual 151, 3) := by decide +kernel
theorem dX8_restore_22 : decode cX8_restore 22 = .ok (.aload_n 0, 1) := by decide +kernel
theorem dX8_restore_23 : decode cX8_restore 23 = .ok (.getfield 22, 3) := by decide +kernel
theorem dX8_restore_26 : decode cX8_restore 26 = .ok (.iconst 0, 1) := by decide +kernel
theorem dX8_restore_27 : decode cX8_restore 27 = .ok (.putfield 273, 3) := by decide +kernel
theorem dX8_restore_30 : decode cX8_restore 30 = .ok (.aload_n 0, 1) := by decide +kernel
theorem dX8_restore_31 : decode cX8_restore 31 = .ok (.getfield 12, 3) := by decide +kernel
theorem dX8_restore_34 : decode cX8_restore 34 = .ok (.getfield 75, 3) := by decide +kernel
theorem dX8_restore_37 : decode cX8_restore 37 = .ok (.getfield 160, 3) := by decide +kernel
theorem dX8_restore_40 : decode cX8_restore 40 = .ok (.ireturn, 1) := by decide +kernel
set_option maxRecDepth 20000 in
theorem ggX8_settle_X1_keep : GoodIn wsX8_settle wsX1_keep := goodIn_r _ [6, 7, 8, 9, 10, 11, 12, 13, 14, 15, 16, 26, 27, 28] (by decide +kernel) (by decide +kernel)
set_option maxRecDepth 20000 in
theorem gX8_settle_X1_keep : GoodIn wsX8_settle (wsV RX8 297 RX1 yX1_keep wsX1_keep) := goodIn_app (goodIn_of _ (by decide +kernel)) ggX8_settle_X1_keep
theorem dX8_settle_0 : decode cX8_settle 0 = .ok (.iload_n 1, 1) := by decide +kernel
theorem dX8_settle_1 : decode cX8_settle 1 = .ok (.ifCond .lt 10, 3) := by decide +kernel
theorem dX8_settle_4 : decode cX8_settle 4 = .ok (.aload_n 0, 1) := by decide +kernel
theorem dX8_settle_5 : decode cX8_settle 5 = .ok (.getfield 22, 3) := by decide +kernel
theorem dX8_settle_8 : decode cX8_settle 8 = .ok (.invokevirtual 297, 3) := by decide +kernel
theorem dX8_settle_11 : decode cX8_settle 11 = .ok (.iload_n 1, 1) := by decide +kernel
theorem dX8_settle_12 : decode cX8_settle 12 = .ok (.ireturn, 1) := by decide +kernel
theorem dX8_refuse_0 : decode cX8_refuse 0 = .ok (.aload_n 0, 1) := by decide +kernel
theorem dX8_refuse_1 : decode cX8_refuse 1 = .ok (.iload_n 1, 1) := by decide +kernel
theorem dX8_refuse_2 : decode cX8_refuse 2 = .ok (.putfield 47, 3) := by decide +kernel
