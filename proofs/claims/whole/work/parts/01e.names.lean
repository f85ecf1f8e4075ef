theorem dX2_write_14 : decode cX2_write 14 = .ok (.getfield 15, 3) := by decide +kernel
theorem dX2_write_17 : decode cX2_write 17 = .ok (.iconst 1, 1) := by decide +kernel
theorem dX2_write_18 : decode cX2_write 18 = .ok (.iadd, 1) := by decide +kernel
theorem dX2_write_19 : decode cX2_write 19 = .ok (.sipush 128, 3) := by decide +kernel
theorem dX2_write_22 : decode cX2_write 22 = .ok (.invokestatic 23, 3) := by decide +kernel
theorem dX2_write_25 : decode cX2_write 25 = .ok (.putfield 15, 3) := by decide +kernel
theorem dX2_write_28 : decode cX2_write 28 = .ok (.return_, 1) := by decide +kernel
set_option maxRecDepth 20000 in
theorem ggX2_writeNumber_X2_write : GoodIn wsX2_writeNumber wsX2_write := goodIn_r _ [5, 6, 7, 8, 9, 10, 11, 12, 13, 14, 15, 16] (by decide +kernel) (by decide +kernel)
set_option maxRecDepth 20000 in
theorem gX2_writeNumber_X2_write : GoodIn wsX2_writeNumber (wsV RX2 29 RX2 yX2_write wsX2_write) := goodIn_app (goodIn_of _ (by decide +kernel)) ggX2_writeNumber_X2_write
theorem dX2_writeNumber_0 : decode cX2_writeNumber 0 = .ok (.iload_n 1, 1) := by decide +kernel
theorem dX2_writeNumber_1 : decode cX2_writeNumber 1 = .ok (.bipush 10, 2) := by decide +kernel
theorem dX2_writeNumber_3 : decode cX2_writeNumber 3 = .ok (.if_icmp .lt 14, 3) := by decide +kernel
theorem dX2_writeNumber_6 : decode cX2_writeNumber 6 = .ok (.aload_n 0, 1) := by decide +kernel
theorem dX2_writeNumber_7 : decode cX2_writeNumber 7 = .ok (.bipush 48, 2) := by decide +kernel
theorem dX2_writeNumber_9 : decode cX2_writeNumber 9 = .ok (.iload_n 1, 1) := by decide +kernel
theorem dX2_writeNumber_10 : decode cX2_writeNumber 10 = .ok (.bipush 10, 2) := by decide +kernel
theorem dX2_writeNumber_12 : decode cX2_writeNumber 12 = .ok (.idiv, 1) := by decide +kernel
theorem dX2_writeNumber_13 : decode cX2_writeNumber 13 = .ok (.iadd, 1) := by decide +kernel
theorem dX2_writeNumber_14 : decode cX2_writeNumber 14 = .ok (.invokevirtual 29, 3) := by decide +kernel
theorem dX2_writeNumber_17 : decode cX2_writeNumber 17 = .ok (.aload_n 0, 1) := by decide +kernel
theorem dX2_writeNumber_18 : decode cX2_writeNumber 18 = .ok (.bipush 48, 2) := by decide +kernel
theorem dX2_writeNumber_20 : decode cX2_writeNumber 20 = .ok (.iload_n 1, 1) := by decide +kernel
theorem dX2_writeNumber_21 : decode cX2_writeNumber 21 = .ok (.bipush 10, 2) := by decide +kernel
theorem dX2_writeNumber_23 : decode cX2_writeNumber 23 = .ok (.irem, 1) := by decide +kernel
theorem dX2_writeNumber_24 : decode cX2_writeNumber 24 = .ok (.iadd, 1) := by decide +kernel
theorem dX2_writeNumber_25 : decode cX2_writeNumber 25 = .ok (.invokevirtual 29, 3) := by decide +kernel
theorem dX2_writeNumber_28 : decode cX2_writeNumber 28 = .ok (.return_, 1) := by decide +kernel
theorem dX3_init_0 : decode cX3_init 0 = .ok (.aload_n 0, 1) := by decide +kernel
theorem dX3_init_1 : decode cX3_init 1 = .ok (.invokespecial 3, 3) := by decide +kernel
theorem dX3_init_4 : decode cX3_init 4 = .ok (.aload_n 0, 1) := by decide +kernel
theorem dX3_init_5 : decode cX3_init 5 = .ok (.bipush 60, 2) := by decide +kernel
theorem dX3_init_7 : decode cX3_init 7 = .ok (.newarray .int, 2) := by decide +kernel
theorem dX3_init_9 : decode cX3_init 9 = .ok (.putfield 9, 3) := by decide +kernel
theorem dX3_init_12 : decode cX3_init 12 = .ok (.aload_n 0, 1) := by decide +kernel
theorem dX3_init_13 : decode cX3_init 13 = .ok (.sipush 180, 3) := by decide +kernel
theorem dX3_init_16 : decode cX3_init 16 = .ok (.newarray .int, 2) := by decide +kernel
theorem dX3_init_18 : decode cX3_init 18 = .ok (.putfield 15, 3) := by decide +kernel
theorem dX3_init_21 : decode cX3_init 21 = .ok (.return_, 1) := by decide +kernel
set_option maxRecDepth 20000 in
theorem ggX3_numberAt_X8_at : GoodIn wsX3_numberAt wsX8_at := goodIn_r _ [4] (by decide +kernel) (by decide +kernel)
set_option maxRecDepth 20000 in
theorem gX3_numberAt_X8_at_n18 : GoodIn wsX3_numberAt (wsX8_at) := ggX3_numberAt_X8_at
theorem dX3_numberAt_0 : decode cX3_numberAt 0 = .ok (.aload_n 0, 1) := by decide +kernel
theorem dX3_numberAt_1 : decode cX3_numberAt 1 = .ok (.getfield 15, 3) := by decide +kernel
theorem dX3_numberAt_4 : decode cX3_numberAt 4 = .ok (.iload_n 1, 1) := by decide +kernel
theorem dX3_numberAt_5 : decode cX3_numberAt 5 = .ok (.iconst 3, 1) := by decide +kernel
theorem dX3_numberAt_6 : decode cX3_numberAt 6 = .ok (.imul, 1) := by decide +kernel
theorem dX3_numberAt_7 : decode cX3_numberAt 7 = .ok (.iload_n 2, 1) := by decide +kernel
theorem dX3_numberAt_8 : decode cX3_numberAt 8 = .ok (.iadd, 1) := by decide +kernel
theorem dX3_numberAt_9 : decode cX3_numberAt 9 = .ok (.invokestatic 18, 3) := by decide +kernel
theorem dX3_numberAt_12 : decode cX3_numberAt 12 = .ok (.ireturn, 1) := by decide +kernel
set_option maxRecDepth 20000 in
theorem ggX3_read_X3_readOrder : GoodIn wsX3_read wsX3_readOrder := goodIn_r _ [8, 2, 9, 1, 10, 11, 12, 13, 14, 15, 16, 17, 18, 19, 20, 21, 22, 7, 23, 24, 25, 26, 27, 28, 29, 30, 31, 32, 33, 34, 35, 36, 37, 38, 39, 40, 41, 42, 43, 44, 45, 46, 47, 48, 49, 50, 51, 52, 53, 54, 55, 56, 57, 58, 59, 60, 61, 62, 63, 64, 65, 66, 67, 68, 69, 70, 71, 72, 73, 74, 75, 76, 77, 78, 79, 80, 81, 82, 83, 84, 85, 86, 87, 88, 89, 90, 91, 92, 93, 94, 95] (by decide +kernel) (by decide +kernel)
set_option maxRecDepth 20000 in
theorem gX3_read_X3_readOrder : GoodIn wsX3_read (wsV RX3 29 RX3 yX3_readOrder wsX3_readOrder) := goodIn_app (goodIn_of _ (by decide +kernel)) ggX3_read_X3_readOrder
set_option maxRecDepth 20000 in
theorem ggX3_read_X3_readSign : GoodIn wsX3_read wsX3_readSign := goodIn_r _ [87, 2, 10, 11, 12, 13, 14, 15, 16, 17, 18, 19, 90, 91, 92, 93, 94, 95] (by decide +kernel) (by decide +kernel)
set_option maxRecDepth 20000 in
theorem gX3_read_X3_readSign : GoodIn wsX3_read (wsV RX3 38 RX3 yX3_readSign wsX3_readSign) := goodIn_app (goodIn_of _ (by decide +kernel)) ggX3_read_X3_readSign
theorem dX3_read_0 : decode cX3_read 0 = .ok (.aload_n 0, 1) := by decide +kernel
theorem dX3_read_1 : decode cX3_read 1 = .ok (.iconst 0, 1) := by decide +kernel
theorem dX3_read_2 : decode cX3_read 2 = .ok (.putfield 22, 3) := by decide +kernel
theorem dX3_read_5 : decode cX3_read 5 = .ok (.aload_n 0, 1) := by decide +kernel
theorem dX3_read_6 : decode cX3_read 6 = .ok (.iconst 0, 1) := by decide +kernel
theorem dX3_read_7 : decode cX3_read 7 = .ok (.putfield 26, 3) := by decide +kernel
theorem dX3_read_10 : decode cX3_read 10 = .ok (.iconst 0, 1) := by decide +kernel
theorem dX3_read_11 : decode cX3_read 11 = .ok (.istore_n 2, 1) := by decide +kernel
theorem dX3_read_12 : decode cX3_read 12 = .ok (.iload_n 2, 1) := by decide +kernel
theorem dX3_read_13 : decode cX3_read 13 = .ok (.bipush 60, 2) := by decide +kernel
theorem dX3_read_15 : decode cX3_read 15 = .ok (.if_icmp .ge 50, 3) := by decide +kernel
theorem dX3_read_18 : decode cX3_read 18 = .ok (.aload_n 0, 1) := by decide +kernel
theorem dX3_read_19 : decode cX3_read 19 = .ok (.aload_n 1, 1) := by decide +kernel
theorem dX3_read_20 : decode cX3_read 20 = .ok (.invokevirtual 29, 3) := by decide +kernel
theorem dX3_read_23 : decode cX3_read 23 = .ok (.ifCond .ne 8, 3) := by decide +kernel
theorem dX3_read_26 : decode cX3_read 26 = .ok (.aload_n 0, 1) := by decide +kernel
theorem dX3_read_27 : decode cX3_read 27 = .ok (.getfield 26, 3) := by decide +kernel
theorem dX3_read_30 : decode cX3_read 30 = .ok (.ireturn, 1) := by decide +kernel
theorem dX3_read_31 : decode cX3_read 31 = .ok (.aload_n 0, 1) := by decide +kernel
theorem dX3_read_32 : decode cX3_read 32 = .ok (.getfield 26, 3) := by decide +kernel
theorem dX3_read_35 : decode cX3_read 35 = .ok (.aload_n 1, 1) := by decide +kernel
theorem dX3_read_36 : decode cX3_read 36 = .ok (.getfield 33, 3) := by decide +kernel
theorem dX3_read_39 : decode cX3_read 39 = .ok (.if_icmp .lt 5, 3) := by decide +kernel
theorem dX3_read_42 : decode cX3_read 42 = .ok (.iconst (-1), 1) := by decide +kernel
theorem dX3_read_43 : decode cX3_read 43 = .ok (.ireturn, 1) := by decide +kernel
theorem dX3_read_44 : decode cX3_read 44 = .ok (.aload_n 0, 1) := by decide +kernel
theorem dX3_read_45 : decode cX3_read 45 = .ok (.aload_n 1, 1) := by decide +kernel
theorem dX3_read_46 : decode cX3_read 46 = .ok (.bipush 59, 2) := by decide +kernel
theorem dX3_read_48 : decode cX3_read 48 = .ok (.invokevirtual 38, 3) := by decide +kernel
theorem dX3_read_51 : decode cX3_read 51 = .ok (.ifCond .ne 8, 3) := by decide +kernel
theorem dX3_read_54 : decode cX3_read 54 = .ok (.aload_n 0, 1) := by decide +kernel
theorem dX3_read_55 : decode cX3_read 55 = .ok (.getfield 26, 3) := by decide +kernel
theorem dX3_read_58 : decode cX3_read 58 = .ok (.ireturn, 1) := by decide +kernel
theorem dX3_read_59 : decode cX3_read 59 = .ok (.iinc 2 1, 3) := by decide +kernel
theorem dX3_read_62 : decode cX3_read 62 = .ok (.goto (-50), 3) := by decide +kernel
theorem dX3_read_65 : decode cX3_read 65 = .ok (.aload_n 0, 1) := by decide +kernel
theorem dX3_read_66 : decode cX3_read 66 = .ok (.getfield 26, 3) := by decide +kernel
theorem dX3_read_69 : decode cX3_read 69 = .ok (.ireturn, 1) := by decide +kernel
set_option maxRecDepth 20000 in
theorem ggX3_readOrder_X6_codeAt : GoodIn wsX3_readOrder wsX6_codeAt := goodIn_r _ [8, 9, 10, 11, 12, 13, 89, 90] (by decide +kernel) (by decide +kernel)
set_option maxRecDepth 20000 in
theorem gX3_readOrder_X6_codeAt : GoodIn wsX3_readOrder (wsV RX3 42 RX6 yX6_codeAt wsX6_codeAt) := goodIn_app (goodIn_of _ (by decide +kernel)) ggX3_readOrder_X6_codeAt
set_option maxRecDepth 20000 in
theorem ggX3_readOrder_X3_shapeOf : GoodIn wsX3_readOrder wsX3_shapeOf := goodIn_r _ [18] (by decide +kernel) (by decide +kernel)
set_option maxRecDepth 20000 in
theorem gX3_readOrder_X3_shapeOf : GoodIn wsX3_readOrder (wsV RX3 46 RX3 yX3_shapeOf wsX3_shapeOf) := goodIn_app (goodIn_of _ (by decide +kernel)) ggX3_readOrder_X3_shapeOf
set_option maxRecDepth 20000 in
theorem ggX3_readOrder_J0_isEmpty_aae02 : GoodIn wsX3_readOrder wsJ0_isEmpty_aae02 := goodIn_r _ [23, 24] (by decide +kernel) (by decide +kernel)
set_option maxRecDepth 20000 in
theorem gX3_readOrder_J0_isEmpty_aae02 : GoodIn wsX3_readOrder (wsV RX3 50 RJ0 yJ0_isEmpty_aae02 wsJ0_isEmpty_aae02) := goodIn_app (goodIn_of _ (by decide +kernel)) ggX3_readOrder_J0_isEmpty_aae02
set_option maxRecDepth 20000 in
theorem ggX3_readOrder_X8_put : GoodIn wsX3_readOrder wsX8_put := goodIn_r _ [26] (by decide +kernel) (by decide +kernel)
set_option maxRecDepth 20000 in
theorem gX3_readOrder_X8_put_n56 : GoodIn wsX3_readOrder (wsX8_put) := ggX3_readOrder_X8_put
set_option maxRecDepth 20000 in
theorem ggX3_readOrder_J0_length_8abf5 : GoodIn wsX3_readOrder wsJ0_length_8abf5 := goodIn_r _ [30, 24, 31, 32, 33, 22, 34, 35, 36] (by decide +kernel) (by decide +kernel)
set_option maxRecDepth 20000 in
theorem gX3_readOrder_J0_length_8abf5 : GoodIn wsX3_readOrder (wsV RX3 60 RJ0 yJ0_length_8abf5 wsJ0_length_8abf5) := goodIn_app (goodIn_of _ (by decide +kernel)) ggX3_readOrder_J0_length_8abf5
set_option maxRecDepth 20000 in
theorem ggX3_readOrder_J0_charAt_5068e : GoodIn wsX3_readOrder wsJ0_charAt_5068e := goodIn_r _ [40, 24, 41, 42, 43, 22, 44, 35, 36, 45, 46, 47, 48, 49, 50, 51, 52, 53, 54, 55, 56, 57, 58, 59, 60, 61, 62, 63, 64, 65, 66, 67, 68, 69, 70, 71, 72, 73] (by decide +kernel) (by decide +kernel)
set_option maxRecDepth 20000 in
theorem gX3_readOrder_J0_charAt_5068e : GoodIn wsX3_readOrder (wsV RX3 63 RJ0 yJ0_charAt_5068e wsJ0_charAt_5068e) := goodIn_app (goodIn_of _ (by decide +kernel)) ggX3_readOrder_J0_charAt_5068e
set_option maxRecDepth 20000 in
theorem ggX3_readOrder_X3_readNumber : GoodIn wsX3_readOrder wsX3_readNumber := goodIn_r _ [77, 1, 78, 4, 5, 6, 7, 8, 9, 10, 11, 12, 13, 25, 26, 79, 80, 81, 17, 82, 83, 84, 85, 86, 87, 88, 89, 90] (by decide +kernel) (by decide +kernel)
set_option maxRecDepth 20000 in
theorem gX3_readOrder_X3_readNumber : GoodIn wsX3_readOrder (wsV RX3 67 RX3 yX3_readNumber wsX3_readNumber) := goodIn_app (goodIn_of _ (by decide +kernel)) ggX3_readOrder_X3_readNumber
set_option maxRecDepth 20000 in
theorem ggX3_readOrder_X3_readSign : GoodIn wsX3_readOrder wsX3_readSign := goodIn_r _ [82, 1, 4, 5, 6, 7, 8, 9, 10, 11, 12, 13, 85, 86, 87, 88, 89, 90] (by decide +kernel) (by decide +kernel)
set_option maxRecDepth 20000 in
theorem gX3_readOrder_X3_readSign : GoodIn wsX3_readOrder (wsV RX3 38 RX3 yX3_readSign wsX3_readSign) := goodIn_app (goodIn_of _ (by decide +kernel)) ggX3_readOrder_X3_readSign
theorem dX3_readOrder_0 : decode cX3_readOrder 0 = .ok (.aload_n 0, 1) := by decide +kernel
theorem dX3_readOrder_1 : decode cX3_readOrder 1 = .ok (.aload_n 1, 1) := by decide +kernel
theorem dX3_readOrder_2 : decode cX3_readOrder 2 = .ok (.aload_n 0, 1) := by decide +kernel
theorem dX3_readOrder_3 : decode cX3_readOrder 3 = .ok (.getfield 26, 3) := by decide +kernel
theorem dX3_readOrder_6 : decode cX3_readOrder 6 = .ok (.invokevirtual 42, 3) := by decide +kernel
theorem dX3_readOrder_9 : decode cX3_readOrder 9 = .ok (.invokevirtual 46, 3) := by decide +kernel
theorem dX3_readOrder_12 : decode cX3_readOrder 12 = .ok (.astore_n 2, 1) := by decide +kernel
theorem dX3_readOrder_13 : decode cX3_readOrder 13 = .ok (.aload_n 2, 1) := by decide +kernel
theorem dX3_readOrder_14 : decode cX3_readOrder 14 = .ok (.invokevirtual 50, 3) := by decide +kernel
theorem dX3_readOrder_17 : decode cX3_readOrder 17 = .ok (.ifCond .eq 5, 3) := by decide +kernel
theorem dX3_readOrder_20 : decode cX3_readOrder 20 = .ok (.iconst 0, 1) := by decide +kernel
theorem dX3_readOrder_21 : decode cX3_readOrder 21 = .ok (.ireturn, 1) := by decide +kernel
theorem dX3_readOrder_22 : decode cX3_readOrder 22 = .ok (.aload_n 0, 1) := by decide +kernel
theorem dX3_readOrder_23 : decode cX3_readOrder 23 = .ok (.getfield 9, 3) := by decide +kernel
theorem dX3_readOrder_26 : decode cX3_readOrder 26 = .ok (.aload_n 0, 1) := by decide +kernel
theorem dX3_readOrder_27 : decode cX3_readOrder 27 = .ok (.getfield 22, 3) := by decide +kernel
theorem dX3_readOrder_30 : decode cX3_readOrder 30 = .ok (.aload_n 1, 1) := by decide +kernel
theorem dX3_readOrder_31 : decode cX3_readOrder 31 = .ok (.aload_n 0, 1) := by decide +kernel
theorem dX3_readOrder_32 : decode cX3_readOrder 32 = .ok (.getfield 26, 3) := by decide +kernel
theorem dX3_readOrder_35 : decode cX3_readOrder 35 = .ok (.invokevirtual 42, 3) := by decide +kernel
theorem dX3_readOrder_38 : decode cX3_readOrder 38 = .ok (.invokestatic 56, 3) := by decide +kernel
theorem dX3_readOrder_41 : decode cX3_readOrder 41 = .ok (.aload_n 0, 1) := by decide +kernel
theorem dX3_readOrder_42 : decode cX3_readOrder 42 = .ok (.getfield 22, 3) := by decide +kernel
theorem dX3_readOrder_45 : decode cX3_readOrder 45 = .ok (.iconst 3, 1) := by decide +kernel
theorem dX3_readOrder_46 : decode cX3_readOrder 46 = .ok (.imul, 1) := by decide +kernel
theorem dX3_readOrder_47 : decode cX3_readOrder 47 = .ok (.istore_n 3, 1) := by decide +kernel
theorem dX3_readOrder_48 : decode cX3_readOrder 48 = .ok (.iconst 0, 1) := by decide +kernel
theorem dX3_readOrder_49 : decode cX3_readOrder 49 = .ok (.istore 4, 2) := by decide +kernel
theorem dX3_readOrder_51 : decode cX3_readOrder 51 = .ok (.iload 4, 2) := by decide +kernel
theorem dX3_readOrder_53 : decode cX3_readOrder 53 = .ok (.aload_n 2, 1) := by decide +kernel
theorem dX3_readOrder_54 : decode cX3_readOrder 54 = .ok (.invokevirtual 60, 3) := by decide +kernel
theorem dX3_readOrder_57 : decode cX3_readOrder 57 = .ok (.if_icmp .ge 85, 3) := by decide +kernel
theorem dX3_readOrder_60 : decode cX3_readOrder 60 = .ok (.aload_n 2, 1) := by decide +kernel
theorem dX3_readOrder_61 : decode cX3_readOrder 61 = .ok (.iload 4, 2) := by decide +kernel
theorem dX3_readOrder_63 : decode cX3_readOrder 63 = .ok (.invokevirtual 63, 3) := by decide +kernel
theorem dX3_readOrder_66 : decode cX3_readOrder 66 = .ok (.istore 5, 2) := by decide +kernel
theorem dX3_readOrder_68 : decode cX3_readOrder 68 = .ok (.iload 5, 2) := by decide +kernel
theorem dX3_readOrder_70 : decode cX3_readOrder 70 = .ok (.bipush 68, 2) := by decide +kernel
theorem dX3_readOrder_72 : decode cX3_readOrder 72 = .ok (.if_icmp .eq 17, 3) := by decide +kernel
theorem dX3_readOrder_75 : decode cX3_readOrder 75 = .ok (.iload 5, 2) := by decide +kernel
theorem dX3_readOrder_77 : decode cX3_readOrder 77 = .ok (.bipush 100, 2) := by decide +kernel
theorem dX3_readOrder_79 : decode cX3_readOrder 79 = .ok (.if_icmp .eq 10, 3) := by decide +kernel
theorem dX3_readOrder_82 : decode cX3_readOrder 82 = .ok (.iload 5, 2) := by decide +kernel
theorem dX3_readOrder_84 : decode cX3_readOrder 84 = .ok (.bipush 63, 2) := by decide +kernel
theorem dX3_readOrder_86 : decode cX3_readOrder 86 = .ok (.if_icmp .ne 7, 3) := by decide +kernel
theorem dX3_readOrder_89 : decode cX3_readOrder 89 = .ok (.iconst 1, 1) := by decide +kernel
theorem dX3_readOrder_90 : decode cX3_readOrder 90 = .ok (.goto 4, 3) := by decide +kernel
theorem dX3_readOrder_93 : decode cX3_readOrder 93 = .ok (.iconst 0, 1) := by decide +kernel
theorem dX3_readOrder_94 : decode cX3_readOrder 94 = .ok (.istore 6, 2) := by decide +kernel
theorem dX3_readOrder_96 : decode cX3_readOrder 96 = .ok (.iload 6, 2) := by decide +kernel
theorem dX3_readOrder_98 : decode cX3_readOrder 98 = .ok (.ifCond .eq 14, 3) := by decide +kernel
theorem dX3_readOrder_101 : decode cX3_readOrder 101 = .ok (.aload_n 0, 1) := by decide +kernel
theorem dX3_readOrder_102 : decode cX3_readOrder 102 = .ok (.aload_n 1, 1) := by decide +kernel
theorem dX3_readOrder_103 : decode cX3_readOrder 103 = .ok (.iload 5, 2) := by decide +kernel
theorem dX3_readOrder_105 : decode cX3_readOrder 105 = .ok (.iload_n 3, 1) := by decide +kernel
theorem dX3_readOrder_106 : decode cX3_readOrder 106 = .ok (.invokevirtual 67, 3) := by decide +kernel
theorem dX3_readOrder_109 : decode cX3_readOrder 109 = .ok (.goto 10, 3) := by decide +kernel
theorem dX3_readOrder_112 : decode cX3_readOrder 112 = .ok (.aload_n 0, 1) := by decide +kernel
theorem dX3_readOrder_113 : decode cX3_readOrder 113 = .ok (.aload_n 1, 1) := by decide +kernel
theorem dX3_readOrder_114 : decode cX3_readOrder 114 = .ok (.iload 5, 2) := by decide +kernel
theorem dX3_readOrder_116 : decode cX3_readOrder 116 = .ok (.invokevirtual 38, 3) := by decide +kernel
theorem dX3_readOrder_119 : decode cX3_readOrder 119 = .ok (.istore 7, 2) := by decide +kernel
theorem dX3_readOrder_121 : decode cX3_readOrder 121 = .ok (.iload 7, 2) := by decide +kernel
theorem dX3_readOrder_123 : decode cX3_readOrder 123 = .ok (.ifCond .ne 5, 3) := by decide +kernel
theorem dX3_readOrder_126 : decode cX3_readOrder 126 = .ok (.iconst 0, 1) := by decide +kernel
theorem dX3_readOrder_127 : decode cX3_readOrder 127 = .ok (.ireturn, 1) := by decide +kernel
theorem dX3_readOrder_128 : decode cX3_readOrder 128 = .ok (.iload 6, 2) := by decide +kernel
theorem dX3_readOrder_130 : decode cX3_readOrder 130 = .ok (.ifCond .eq 6, 3) := by decide +kernel
theorem dX3_readOrder_133 : decode cX3_readOrder 133 = .ok (.iinc 3 1, 3) := by decide +kernel
theorem dX3_readOrder_136 : decode cX3_readOrder 136 = .ok (.iinc 4 1, 3) := by decide +kernel
theorem dX3_readOrder_139 : decode cX3_readOrder 139 = .ok (.goto (-88), 3) := by decide +kernel
theorem dX3_readOrder_142 : decode cX3_readOrder 142 = .ok (.aload_n 0, 1) := by decide +kernel
theorem dX3_readOrder_143 : decode cX3_readOrder 143 = .ok (.dup, 1) := by decide +kernel
theorem dX3_readOrder_144 : decode cX3_readOrder 144 = .ok (.getfield 22, 3) := by decide +kernel
theorem dX3_readOrder_147 : decode cX3_readOrder 147 = .ok (.iconst 1, 1) := by decide +kernel
theorem dX3_readOrder_148 : decode cX3_readOrder 148 = .ok (.iadd, 1) := by decide +kernel
theorem dX3_readOrder_149 : decode cX3_readOrder 149 = .ok (.putfield 22, 3) := by decide +kernel
theorem dX3_readOrder_152 : decode cX3_readOrder 152 = .ok (.iconst 1, 1) := by decide +kernel
theorem dX3_readOrder_153 : decode cX3_readOrder 153 = .ok (.ireturn, 1) := by decide +kernel
theorem dX3_shapeOf_0 : decode cX3_shapeOf 0 = .ok (.iload_n 1, 1) := by decide +kernel
theorem dX3_shapeOf_1 : decode cX3_shapeOf 1 = .ok (.tableswitch 122 99 118 #[107, 122, 119, 122, 122, 113, 122, 122, 122, 122, 122, 110, 116, 104, 122, 95, 101, 122, 122, 98], 95) := by decide +kernel
theorem dX3_shapeOf_96 : decode cX3_shapeOf 96 = .ok (.ldc 71, 2) := by decide +kernel
theorem dX3_shapeOf_98 : decode cX3_shapeOf 98 = .ok (.areturn, 1) := by decide +kernel
theorem dX3_shapeOf_99 : decode cX3_shapeOf 99 = .ok (.ldc 73, 2) := by decide +kernel
theorem dX3_shapeOf_101 : decode cX3_shapeOf 101 = .ok (.areturn, 1) := by decide +kernel
theorem dX3_shapeOf_102 : decode cX3_shapeOf 102 = .ok (.ldc 75, 2) := by decide +kernel
theorem dX3_shapeOf_104 : decode cX3_shapeOf 104 = .ok (.areturn, 1) := by decide +kernel
theorem dX3_shapeOf_105 : decode cX3_shapeOf 105 = .ok (.ldc 77, 2) := by decide +kernel
theorem dX3_shapeOf_107 : decode cX3_shapeOf 107 = .ok (.areturn, 1) := by decide +kernel
theorem dX3_shapeOf_108 : decode cX3_shapeOf 108 = .ok (.ldc 79, 2) := by decide +kernel
theorem dX3_shapeOf_110 : decode cX3_shapeOf 110 = .ok (.areturn, 1) := by decide +kernel
theorem dX3_shapeOf_111 : decode cX3_shapeOf 111 = .ok (.ldc 81, 2) := by decide +kernel
theorem dX3_shapeOf_113 : decode cX3_shapeOf 113 = .ok (.areturn, 1) := by decide +kernel
theorem dX3_shapeOf_114 : decode cX3_shapeOf 114 = .ok (.ldc 83, 2) := by decide +kernel
theorem dX3_shapeOf_116 : decode cX3_shapeOf 116 = .ok (.areturn, 1) := by decide +kernel
theorem dX3_shapeOf_117 : decode cX3_shapeOf 117 = .ok (.ldc 85, 2) := by decide +kernel
theorem dX3_shapeOf_119 : decode cX3_shapeOf 119 = .ok (.areturn, 1) := by decide +kernel
theorem dX3_shapeOf_120 : decode cX3_shapeOf 120 = .ok (.ldc 87, 2) := by decide +kernel
theorem dX3_shapeOf_122 : decode cX3_shapeOf 122 = .ok (.areturn, 1) := by decide +kernel
theorem dX3_shapeOf_123 : decode cX3_shapeOf 123 = .ok (.ldc 89, 2) := by decide +kernel
theorem dX3_shapeOf_125 : decode cX3_shapeOf 125 = .ok (.areturn, 1) := by decide +kernel
set_option maxRecDepth 20000 in
theorem ggX3_readSign_X6_codeAt : GoodIn wsX3_readSign wsX6_codeAt := goodIn_r _ [6, 7, 8, 9, 10, 11, 16, 17] (by decide +kernel) (by decide +kernel)
set_option maxRecDepth 20000 in
theorem gX3_readSign_X6_codeAt : GoodIn wsX3_readSign (wsV RX3 42 RX6 yX6_codeAt wsX6_codeAt) := goodIn_app (goodIn_of _ (by decide +kernel)) ggX3_readSign_X6_codeAt
theorem dX3_readSign_0 : decode cX3_readSign 0 = .ok (.aload_n 1, 1) := by decide +kernel
theorem dX3_readSign_1 : decode cX3_readSign 1 = .ok (.aload_n 0, 1) := by decide +kernel
theorem dX3_readSign_2 : decode cX3_readSign 2 = .ok (.getfield 26, 3) := by decide +kernel
theorem dX3_readSign_5 : decode cX3_readSign 5 = .ok (.invokevirtual 42, 3) := by decide +kernel
theorem dX3_readSign_8 : decode cX3_readSign 8 = .ok (.iload_n 2, 1) := by decide +kernel
theorem dX3_readSign_9 : decode cX3_readSign 9 = .ok (.if_icmp .eq 5, 3) := by decide +kernel
theorem dX3_readSign_12 : decode cX3_readSign 12 = .ok (.iconst 0, 1) := by decide +kernel
theorem dX3_readSign_13 : decode cX3_readSign 13 = .ok (.ireturn, 1) := by decide +kernel
theorem dX3_readSign_14 : decode cX3_readSign 14 = .ok (.aload_n 0, 1) := by decide +kernel
theorem dX3_readSign_15 : decode cX3_readSign 15 = .ok (.dup, 1) := by decide +kernel
theorem dX3_readSign_16 : decode cX3_readSign 16 = .ok (.getfield 26, 3) := by decide +kernel
theorem dX3_readSign_19 : decode cX3_readSign 19 = .ok (.iconst 1, 1) := by decide +kernel
theorem dX3_readSign_20 : decode cX3_readSign 20 = .ok (.iadd, 1) := by decide +kernel
theorem dX3_readSign_21 : decode cX3_readSign 21 = .ok (.putfield 26, 3) := by decide +kernel
theorem dX3_readSign_24 : decode cX3_readSign 24 = .ok (.iconst 1, 1) := by decide +kernel
theorem dX3_readSign_25 : decode cX3_readSign 25 = .ok (.ireturn, 1) := by decide +kernel
set_option maxRecDepth 20000 in
theorem ggX3_readNumber_X6_codeAt : GoodIn wsX3_readNumber wsX6_codeAt := goodIn_r _ [7, 8, 9, 10, 11, 12, 26, 27] (by decide +kernel) (by decide +kernel)
set_option maxRecDepth 20000 in
theorem gX3_readNumber_X6_codeAt : GoodIn wsX3_readNumber (wsV RX3 42 RX6 yX6_codeAt wsX6_codeAt) := goodIn_app (goodIn_of _ (by decide +kernel)) ggX3_readNumber_X6_codeAt
set_option maxRecDepth 20000 in
theorem ggX3_readNumber_X8_put : GoodIn wsX3_readNumber wsX8_put := goodIn_r _ [14] (by decide +kernel) (by decide +kernel)
set_option maxRecDepth 20000 in
theorem gX3_readNumber_X8_put_n56 : GoodIn wsX3_readNumber (wsX8_put) := ggX3_readNumber_X8_put
set_option maxRecDepth 20000 in
theorem ggX3_readNumber_X3_readSign : GoodIn wsX3_readNumber wsX3_readSign := goodIn_r _ [19, 1, 3, 4, 5, 6, 7, 8, 9, 10, 11, 12, 22, 23, 24, 25, 26, 27] (by decide +kernel) (by decide +kernel)
set_option maxRecDepth 20000 in
theorem gX3_readNumber_X3_readSign : GoodIn wsX3_readNumber (wsV RX3 38 RX3 yX3_readSign wsX3_readSign) := goodIn_app (goodIn_of _ (by decide +kernel)) ggX3_readNumber_X3_readSign
set_option maxRecDepth 20000 in
theorem ggX3_readNumber_X8_isDigit : GoodIn wsX3_readNumber wsX8_isDigit := goodIn_r _ [21] (by decide +kernel) (by decide +kernel)
set_option maxRecDepth 20000 in
theorem gX3_readNumber_X8_isDigit_n91 : GoodIn wsX3_readNumber (wsX8_isDigit) := ggX3_readNumber_X8_isDigit
theorem dX3_readNumber_0 : decode cX3_readNumber 0 = .ok (.aload_n 1, 1) := by decide +kernel
theorem dX3_readNumber_1 : decode cX3_readNumber 1 = .ok (.aload_n 0, 1) := by decide +kernel
theorem dX3_readNumber_2 : decode cX3_readNumber 2 = .ok (.getfield 26, 3) := by decide +kernel
theorem dX3_readNumber_5 : decode cX3_readNumber 5 = .ok (.invokevirtual 42, 3) := by decide +kernel
theorem dX3_readNumber_8 : decode cX3_readNumber 8 = .ok (.istore 4, 2) := by decide +kernel
theorem dX3_readNumber_10 : decode cX3_readNumber 10 = .ok (.iload_n 2, 1) := by decide +kernel
theorem dX3_readNumber_11 : decode cX3_readNumber 11 = .ok (.bipush 63, 2) := by decide +kernel
theorem dX3_readNumber_13 : decode cX3_readNumber 13 = .ok (.if_icmp .ne 49, 3) := by decide +kernel
theorem dX3_readNumber_16 : decode cX3_readNumber 16 = .ok (.aload_n 0, 1) := by decide +kernel
theorem dX3_readNumber_17 : decode cX3_readNumber 17 = .ok (.getfield 15, 3) := by decide +kernel
theorem dX3_readNumber_20 : decode cX3_readNumber 20 = .ok (.iload_n 3, 1) := by decide +kernel
theorem dX3_readNumber_21 : decode cX3_readNumber 21 = .ok (.iload 4, 2) := by decide +kernel
theorem dX3_readNumber_23 : decode cX3_readNumber 23 = .ok (.bipush 43, 2) := by decide +kernel
theorem dX3_readNumber_25 : decode cX3_readNumber 25 = .ok (.if_icmp .ne 7, 3) := by decide +kernel
theorem dX3_readNumber_28 : decode cX3_readNumber 28 = .ok (.iconst 1, 1) := by decide +kernel
theorem dX3_readNumber_29 : decode cX3_readNumber 29 = .ok (.goto 4, 3) := by decide +kernel
theorem dX3_readNumber_32 : decode cX3_readNumber 32 = .ok (.iconst 0, 1) := by decide +kernel
theorem dX3_readNumber_33 : decode cX3_readNumber 33 = .ok (.invokestatic 56, 3) := by decide +kernel
theorem dX3_readNumber_36 : decode cX3_readNumber 36 = .ok (.aload_n 0, 1) := by decide +kernel
theorem dX3_readNumber_37 : decode cX3_readNumber 37 = .ok (.aload_n 1, 1) := by decide +kernel
theorem dX3_readNumber_38 : decode cX3_readNumber 38 = .ok (.bipush 43, 2) := by decide +kernel
theorem dX3_readNumber_40 : decode cX3_readNumber 40 = .ok (.invokevirtual 38, 3) := by decide +kernel
theorem dX3_readNumber_43 : decode cX3_readNumber 43 = .ok (.ifCond .ne 13, 3) := by decide +kernel
theorem dX3_readNumber_46 : decode cX3_readNumber 46 = .ok (.aload_n 0, 1) := by decide +kernel
theorem dX3_readNumber_47 : decode cX3_readNumber 47 = .ok (.aload_n 1, 1) := by decide +kernel
theorem dX3_readNumber_48 : decode cX3_readNumber 48 = .ok (.bipush 45, 2) := by decide +kernel
theorem dX3_readNumber_50 : decode cX3_readNumber 50 = .ok (.invokevirtual 38, 3) := by decide +kernel
theorem dX3_readNumber_53 : decode cX3_readNumber 53 = .ok (.ifCond .eq 7, 3) := by decide +kernel
theorem dX3_readNumber_56 : decode cX3_readNumber 56 = .ok (.iconst 1, 1) := by decide +kernel
theorem dX3_readNumber_57 : decode cX3_readNumber 57 = .ok (.goto 4, 3) := by decide +kernel
theorem dX3_readNumber_60 : decode cX3_readNumber 60 = .ok (.iconst 0, 1) := by decide +kernel
theorem dX3_readNumber_61 : decode cX3_readNumber 61 = .ok (.ireturn, 1) := by decide +kernel
theorem dX3_readNumber_62 : decode cX3_readNumber 62 = .ok (.iload 4, 2) := by decide +kernel
theorem dX3_readNumber_64 : decode cX3_readNumber 64 = .ok (.invokestatic 91, 3) := by decide +kernel
theorem dX3_readNumber_67 : decode cX3_readNumber 67 = .ok (.ifCond .ne 5, 3) := by decide +kernel
theorem dX3_readNumber_70 : decode cX3_readNumber 70 = .ok (.iconst 0, 1) := by decide +kernel
theorem dX3_readNumber_71 : decode cX3_readNumber 71 = .ok (.ireturn, 1) := by decide +kernel
theorem dX3_readNumber_72 : decode cX3_readNumber 72 = .ok (.aload_n 0, 1) := by decide +kernel
theorem dX3_readNumber_73 : decode cX3_readNumber 73 = .ok (.getfield 15, 3) := by decide +kernel
theorem dX3_readNumber_76 : decode cX3_readNumber 76 = .ok (.iload_n 3, 1) := by decide +kernel
theorem dX3_readNumber_77 : decode cX3_readNumber 77 = .ok (.iload 4, 2) := by decide +kernel
theorem dX3_readNumber_79 : decode cX3_readNumber 79 = .ok (.bipush 48, 2) := by decide +kernel
theorem dX3_readNumber_81 : decode cX3_readNumber 81 = .ok (.isub, 1) := by decide +kernel
theorem dX3_readNumber_82 : decode cX3_readNumber 82 = .ok (.invokestatic 56, 3) := by decide +kernel
theorem dX3_readNumber_85 : decode cX3_readNumber 85 = .ok (.aload_n 0, 1) := by decide +kernel
theorem dX3_readNumber_86 : decode cX3_readNumber 86 = .ok (.dup, 1) := by decide +kernel
theorem dX3_readNumber_87 : decode cX3_readNumber 87 = .ok (.getfield 26, 3) := by decide +kernel
theorem dX3_readNumber_90 : decode cX3_readNumber 90 = .ok (.iconst 1, 1) := by decide +kernel
theorem dX3_readNumber_91 : decode cX3_readNumber 91 = .ok (.iadd, 1) := by decide +kernel
theorem dX3_readNumber_92 : decode cX3_readNumber 92 = .ok (.putfield 26, 3) := by decide +kernel
theorem dX3_readNumber_95 : decode cX3_readNumber 95 = .ok (.aload_n 1, 1) := by decide +kernel
theorem dX3_readNumber_96 : decode cX3_readNumber 96 = .ok (.aload_n 0, 1) := by decide +kernel
theorem dX3_readNumber_97 : decode cX3_readNumber 97 = .ok (.getfield 26, 3) := by decide +kernel
theorem dX3_readNumber_100 : decode cX3_readNumber 100 = .ok (.invokevirtual 42, 3) := by decide +kernel
theorem dX3_readNumber_103 : decode cX3_readNumber 103 = .ok (.istore 5, 2) := by decide +kernel
theorem dX3_readNumber_105 : decode cX3_readNumber 105 = .ok (.iload_n 2, 1) := by decide +kernel
theorem dX3_readNumber_106 : decode cX3_readNumber 106 = .ok (.bipush 68, 2) := by decide +kernel
theorem dX3_readNumber_108 : decode cX3_readNumber 108 = .ok (.if_icmp .ne 43, 3) := by decide +kernel
theorem dX3_readNumber_111 : decode cX3_readNumber 111 = .ok (.iload 5, 2) := by decide +kernel
theorem dX3_readNumber_113 : decode cX3_readNumber 113 = .ok (.invokestatic 91, 3) := by decide +kernel
theorem dX3_readNumber_116 : decode cX3_readNumber 116 = .ok (.ifCond .eq 35, 3) := by decide +kernel
theorem dX3_readNumber_119 : decode cX3_readNumber 119 = .ok (.aload_n 0, 1) := by decide +kernel
theorem dX3_readNumber_120 : decode cX3_readNumber 120 = .ok (.getfield 15, 3) := by decide +kernel
theorem dX3_readNumber_123 : decode cX3_readNumber 123 = .ok (.iload_n 3, 1) := by decide +kernel
theorem dX3_readNumber_124 : decode cX3_readNumber 124 = .ok (.iload 4, 2) := by decide +kernel
theorem dX3_readNumber_126 : decode cX3_readNumber 126 = .ok (.bipush 48, 2) := by decide +kernel
theorem dX3_readNumber_128 : decode cX3_readNumber 128 = .ok (.isub, 1) := by decide +kernel
theorem dX3_readNumber_129 : decode cX3_readNumber 129 = .ok (.bipush 10, 2) := by decide +kernel
theorem dX3_readNumber_131 : decode cX3_readNumber 131 = .ok (.imul, 1) := by decide +kernel
theorem dX3_readNumber_132 : decode cX3_readNumber 132 = .ok (.iload 5, 2) := by decide +kernel
theorem dX3_readNumber_134 : decode cX3_readNumber 134 = .ok (.iadd, 1) := by decide +kernel
theorem dX3_readNumber_135 : decode cX3_readNumber 135 = .ok (.bipush 48, 2) := by decide +kernel
theorem dX3_readNumber_137 : decode cX3_readNumber 137 = .ok (.isub, 1) := by decide +kernel
theorem dX3_readNumber_138 : decode cX3_readNumber 138 = .ok (.invokestatic 56, 3) := by decide +kernel
theorem dX3_readNumber_141 : decode cX3_readNumber 141 = .ok (.aload_n 0, 1) := by decide +kernel
theorem dX3_readNumber_142 : decode cX3_readNumber 142 = .ok (.dup, 1) := by decide +kernel
theorem dX3_readNumber_143 : decode cX3_readNumber 143 = .ok (.getfield 26, 3) := by decide +kernel
theorem dX3_readNumber_146 : decode cX3_readNumber 146 = .ok (.iconst 1, 1) := by decide +kernel
theorem dX3_readNumber_147 : decode cX3_readNumber 147 = .ok (.iadd, 1) := by decide +kernel
theorem dX3_readNumber_148 : decode cX3_readNumber 148 = .ok (.putfield 26, 3) := by decide +kernel
theorem dX3_readNumber_151 : decode cX3_readNumber 151 = .ok (.iconst 1, 1) := by decide +kernel
theorem dX3_readNumber_152 : decode cX3_readNumber 152 = .ok (.ireturn, 1) := by decide +kernel
theorem dX4_init_0 : decode cX4_init 0 = .ok (.aload_n 0, 1) := by decide +kernel
theorem dX4_init_1 : decode cX4_init 1 = .ok (.invokespecial 3, 3) := by decide +kernel
theorem dX4_init_4 : decode cX4_init 4 = .ok (.aload_n 0, 1) := by decide +kernel
theorem dX4_init_5 : decode cX4_init 5 = .ok (.bipush 16, 2) := by decide +kernel
theorem dX4_init_7 : decode cX4_init 7 = .ok (.newarray .int, 2) := by decide +kernel
theorem dX4_init_9 : decode cX4_init 9 = .ok (.putfield 9, 3) := by decide +kernel
theorem dX4_init_12 : decode cX4_init 12 = .ok (.aload_n 0, 1) := by decide +kernel
theorem dX4_init_13 : decode cX4_init 13 = .ok (.bipush 16, 2) := by decide +kernel
theorem dX4_init_15 : decode cX4_init 15 = .ok (.newarray .int, 2) := by decide +kernel
theorem dX4_init_17 : decode cX4_init 17 = .ok (.putfield 15, 3) := by decide +kernel
theorem dX4_init_20 : decode cX4_init 20 = .ok (.aload_n 0, 1) := by decide +kernel
theorem dX4_init_21 : decode cX4_init 21 = .ok (.bipush 16, 2) := by decide +kernel
theorem dX4_init_23 : decode cX4_init 23 = .ok (.newarray .int, 2) := by decide +kernel
theorem dX4_init_25 : decode cX4_init 25 = .ok (.putfield 18, 3) := by decide +kernel
theorem dX4_init_28 : decode cX4_init 28 = .ok (.return_, 1) := by decide +kernel
set_option maxRecDepth 20000 in
theorem ggX4_copyFrom_X8_copy : GoodIn wsX4_copyFrom wsX8_copy := goodIn_r _ [7, 8, 9, 10, 11, 12, 13, 14, 15] (by decide +kernel) (by decide +kernel)
set_option maxRecDepth 20000 in
theorem gX4_copyFrom_X8_copy_n25 : GoodIn wsX4_copyFrom (wsX8_copy) := ggX4_copyFrom_X8_copy
theorem dX4_copyFrom_0 : decode cX4_copyFrom 0 = .ok (.aload_n 0, 1) := by decide +kernel
theorem dX4_copyFrom_1 : decode cX4_copyFrom 1 = .ok (.aload_n 1, 1) := by decide +kernel
theorem dX4_copyFrom_2 : decode cX4_copyFrom 2 = .ok (.getfield 21, 3) := by decide +kernel
theorem dX4_copyFrom_5 : decode cX4_copyFrom 5 = .ok (.putfield 21, 3) := by decide +kernel
theorem dX4_copyFrom_8 : decode cX4_copyFrom 8 = .ok (.aload_n 1, 1) := by decide +kernel
theorem dX4_copyFrom_9 : decode cX4_copyFrom 9 = .ok (.getfield 9, 3) := by decide +kernel
theorem dX4_copyFrom_12 : decode cX4_copyFrom 12 = .ok (.aload_n 0, 1) := by decide +kernel
theorem dX4_copyFrom_13 : decode cX4_copyFrom 13 = .ok (.getfield 9, 3) := by decide +kernel
theorem dX4_copyFrom_16 : decode cX4_copyFrom 16 = .ok (.invokestatic 25, 3) := by decide +kernel
theorem dX4_copyFrom_19 : decode cX4_copyFrom 19 = .ok (.aload_n 1, 1) := by decide +kernel
theorem dX4_copyFrom_20 : decode cX4_copyFrom 20 = .ok (.getfield 15, 3) := by decide +kernel
theorem dX4_copyFrom_23 : decode cX4_copyFrom 23 = .ok (.aload_n 0, 1) := by decide +kernel
theorem dX4_copyFrom_24 : decode cX4_copyFrom 24 = .ok (.getfield 15, 3) := by decide +kernel
theorem dX4_copyFrom_27 : decode cX4_copyFrom 27 = .ok (.invokestatic 25, 3) := by decide +kernel
theorem dX4_copyFrom_30 : decode cX4_copyFrom 30 = .ok (.aload_n 1, 1) := by decide +kernel
theorem dX4_copyFrom_31 : decode cX4_copyFrom 31 = .ok (.getfield 18, 3) := by decide +kernel
theorem dX4_copyFrom_34 : decode cX4_copyFrom 34 = .ok (.aload_n 0, 1) := by decide +kernel
theorem dX4_copyFrom_35 : decode cX4_copyFrom 35 = .ok (.getfield 18, 3) := by decide +kernel
theorem dX4_copyFrom_38 : decode cX4_copyFrom 38 = .ok (.invokestatic 25, 3) := by decide +kernel
theorem dX4_copyFrom_41 : decode cX4_copyFrom 41 = .ok (.return_, 1) := by decide +kernel
theorem dX4_has_0 : decode cX4_has 0 = .ok (.iload_n 1, 1) := by decide +kernel
theorem dX4_has_1 : decode cX4_has 1 = .ok (.ifCond .lt 15, 3) := by decide +kernel
theorem dX4_has_4 : decode cX4_has 4 = .ok (.iload_n 1, 1) := by decide +kernel
theorem dX4_has_5 : decode cX4_has 5 = .ok (.aload_n 0, 1) := by decide +kernel
theorem dX4_has_6 : decode cX4_has 6 = .ok (.getfield 21, 3) := by decide +kernel
theorem dX4_has_9 : decode cX4_has 9 = .ok (.if_icmp .ge 7, 3) := by decide +kernel
theorem dX4_has_12 : decode cX4_has 12 = .ok (.iconst 1, 1) := by decide +kernel
theorem dX4_has_13 : decode cX4_has 13 = .ok (.goto 4, 3) := by decide +kernel
theorem dX4_has_16 : decode cX4_has 16 = .ok (.iconst 0, 1) := by decide +kernel
theorem dX4_has_17 : decode cX4_has 17 = .ok (.ireturn, 1) := by decide +kernel
set_option maxRecDepth 20000 in
theorem ggX4_isNextAt_X8_at : GoodIn wsX4_isNextAt wsX8_at := goodIn_r _ [5] (by decide +kernel) (by decide +kernel)
set_option maxRecDepth 20000 in
theorem gX4_isNextAt_X8_at_n29 : GoodIn wsX4_isNextAt (wsX8_at) := ggX4_isNextAt_X8_at
theorem dX4_isNextAt_0 : decode cX4_isNextAt 0 = .ok (.aload_n 0, 1) := by decide +kernel
theorem dX4_isNextAt_1 : decode cX4_isNextAt 1 = .ok (.getfield 21, 3) := by decide +kernel
theorem dX4_isNextAt_4 : decode cX4_isNextAt 4 = .ok (.ifCond .le 19, 3) := by decide +kernel
theorem dX4_isNextAt_7 : decode cX4_isNextAt 7 = .ok (.aload_n 0, 1) := by decide +kernel
theorem dX4_isNextAt_8 : decode cX4_isNextAt 8 = .ok (.getfield 15, 3) := by decide +kernel
theorem dX4_isNextAt_11 : decode cX4_isNextAt 11 = .ok (.iconst 0, 1) := by decide +kernel
theorem dX4_isNextAt_12 : decode cX4_isNextAt 12 = .ok (.invokestatic 29, 3) := by decide +kernel
theorem dX4_isNextAt_15 : decode cX4_isNextAt 15 = .ok (.iload_n 1, 1) := by decide +kernel
theorem dX4_isNextAt_16 : decode cX4_isNextAt 16 = .ok (.if_icmp .ne 7, 3) := by decide +kernel
theorem dX4_isNextAt_19 : decode cX4_isNextAt 19 = .ok (.iconst 1, 1) := by decide +kernel
theorem dX4_isNextAt_20 : decode cX4_isNextAt 20 = .ok (.goto 4, 3) := by decide +kernel
theorem dX4_isNextAt_23 : decode cX4_isNextAt 23 = .ok (.iconst 0, 1) := by decide +kernel
theorem dX4_isNextAt_24 : decode cX4_isNextAt 24 = .ok (.ireturn, 1) := by decide +kernel
set_option maxRecDepth 20000 in
theorem ggX4_numberOf_X8_bit : GoodIn wsX4_numberOf wsX8_bit := goodIn_r _ [3] (by decide +kernel) (by decide +kernel)
set_option maxRecDepth 20000 in
theorem gX4_numberOf_X8_bit_n33 : GoodIn wsX4_numberOf (wsX8_bit) := ggX4_numberOf_X8_bit
set_option maxRecDepth 20000 in
theorem ggX4_numberOf_X4_numberIn : GoodIn wsX4_numberOf wsX4_numberIn := goodIn_r _ [8, 9, 10, 11, 2, 12, 13, 14, 15, 16, 17, 18] (by decide +kernel) (by decide +kernel)
set_option maxRecDepth 20000 in
theorem gX4_numberOf_X4_numberIn : GoodIn wsX4_numberOf (wsV RX4 37 RX4 yX4_numberIn wsX4_numberIn) := goodIn_app (goodIn_of _ (by decide +kernel)) ggX4_numberOf_X4_numberIn
theorem dX4_numberOf_0 : decode cX4_numberOf 0 = .ok (.aload_n 0, 1) := by decide +kernel
theorem dX4_numberOf_1 : decode cX4_numberOf 1 = .ok (.iload_n 1, 1) := by decide +kernel
theorem dX4_numberOf_2 : decode cX4_numberOf 2 = .ok (.invokestatic 33, 3) := by decide +kernel
theorem dX4_numberOf_5 : decode cX4_numberOf 5 = .ok (.invokevirtual 37, 3) := by decide +kernel
theorem dX4_numberOf_8 : decode cX4_numberOf 8 = .ok (.ireturn, 1) := by decide +kernel
set_option maxRecDepth 20000 in
theorem ggX4_numberIn_X8_at : GoodIn wsX4_numberIn wsX8_at := goodIn_r _ [5] (by decide +kernel) (by decide +kernel)
set_option maxRecDepth 20000 in
theorem gX4_numberIn_X8_at_n29 : GoodIn wsX4_numberIn (wsX8_at) := ggX4_numberIn_X8_at
set_option maxRecDepth 20000 in
theorem ggX4_numberIn_X8_isIn : GoodIn wsX4_numberIn wsX8_isIn := goodIn_r _ [7] (by decide +kernel) (by decide +kernel)
set_option maxRecDepth 20000 in
theorem gX4_numberIn_X8_isIn_n40 : GoodIn wsX4_numberIn (wsX8_isIn) := ggX4_numberIn_X8_isIn
theorem dX4_numberIn_0 : decode cX4_numberIn 0 = .ok (.iconst 0, 1) := by decide +kernel
theorem dX4_numberIn_1 : decode cX4_numberIn 1 = .ok (.istore_n 2, 1) := by decide +kernel
theorem dX4_numberIn_2 : decode cX4_numberIn 2 = .ok (.iconst 0, 1) := by decide +kernel
theorem dX4_numberIn_3 : decode cX4_numberIn 3 = .ok (.istore_n 3, 1) := by decide +kernel
theorem dX4_numberIn_4 : decode cX4_numberIn 4 = .ok (.iload_n 3, 1) := by decide +kernel
theorem dX4_numberIn_5 : decode cX4_numberIn 5 = .ok (.aload_n 0, 1) := by decide +kernel
theorem dX4_numberIn_6 : decode cX4_numberIn 6 = .ok (.getfield 21, 3) := by decide +kernel
theorem dX4_numberIn_9 : decode cX4_numberIn 9 = .ok (.if_icmp .ge 27, 3) := by decide +kernel
theorem dX4_numberIn_12 : decode cX4_numberIn 12 = .ok (.iload_n 1, 1) := by decide +kernel
theorem dX4_numberIn_13 : decode cX4_numberIn 13 = .ok (.aload_n 0, 1) := by decide +kernel
theorem dX4_numberIn_14 : decode cX4_numberIn 14 = .ok (.getfield 9, 3) := by decide +kernel
theorem dX4_numberIn_17 : decode cX4_numberIn 17 = .ok (.iload_n 3, 1) := by decide +kernel
theorem dX4_numberIn_18 : decode cX4_numberIn 18 = .ok (.invokestatic 29, 3) := by decide +kernel
theorem dX4_numberIn_21 : decode cX4_numberIn 21 = .ok (.invokestatic 40, 3) := by decide +kernel
theorem dX4_numberIn_24 : decode cX4_numberIn 24 = .ok (.ifCond .eq 6, 3) := by decide +kernel
theorem dX4_numberIn_27 : decode cX4_numberIn 27 = .ok (.iinc 2 1, 3) := by decide +kernel
theorem dX4_numberIn_30 : decode cX4_numberIn 30 = .ok (.iinc 3 1, 3) := by decide +kernel
theorem dX4_numberIn_33 : decode cX4_numberIn 33 = .ok (.goto (-29), 3) := by decide +kernel
theorem dX4_numberIn_36 : decode cX4_numberIn 36 = .ok (.iload_n 2, 1) := by decide +kernel
theorem dX4_numberIn_37 : decode cX4_numberIn 37 = .ok (.ireturn, 1) := by decide +kernel
set_option maxRecDepth 20000 in
theorem ggX4_insert_X4_isAheadOf : GoodIn wsX4_insert wsX4_isAheadOf := goodIn_r _ [9, 3, 4, 2, 10, 11, 12, 19, 20, 21, 22] (by decide +kernel) (by decide +kernel)
set_option maxRecDepth 20000 in
theorem gX4_insert_X4_isAheadOf : GoodIn wsX4_insert (wsV RX4 44 RX4 yX4_isAheadOf wsX4_isAheadOf) := goodIn_app (goodIn_of _ (by decide +kernel)) ggX4_insert_X4_isAheadOf
set_option maxRecDepth 20000 in
theorem ggX4_insert_X4_carry : GoodIn wsX4_insert wsX4_carry := goodIn_r _ [16, 2, 3, 4, 10, 11, 12, 17, 18, 19, 20, 21, 22] (by decide +kernel) (by decide +kernel)
set_option maxRecDepth 20000 in
theorem gX4_insert_X4_carry : GoodIn wsX4_insert (wsV RX4 48 RX4 yX4_carry wsX4_carry) := goodIn_app (goodIn_of _ (by decide +kernel)) ggX4_insert_X4_carry
set_option maxRecDepth 20000 in
theorem ggX4_insert_X8_put : GoodIn wsX4_insert wsX8_put := goodIn_r _ [18] (by decide +kernel) (by decide +kernel)
set_option maxRecDepth 20000 in
theorem gX4_insert_X8_put_n52 : GoodIn wsX4_insert (wsX8_put) := ggX4_insert_X8_put
theorem dX4_insert_0 : decode cX4_insert 0 = .ok (.aload_n 0, 1) := by decide +kernel
theorem dX4_insert_1 : decode cX4_insert 1 = .ok (.getfield 21, 3) := by decide +kernel
theorem dX4_insert_4 : decode cX4_insert 4 = .ok (.istore 4, 2) := by decide +kernel
theorem dX4_insert_6 : decode cX4_insert 6 = .ok (.aload_n 0, 1) := by decide +kernel
theorem dX4_insert_7 : decode cX4_insert 7 = .ok (.dup, 1) := by decide +kernel
theorem dX4_insert_8 : decode cX4_insert 8 = .ok (.getfield 21, 3) := by decide +kernel
theorem dX4_insert_11 : decode cX4_insert 11 = .ok (.iconst 1, 1) := by decide +kernel
theorem dX4_insert_12 : decode cX4_insert 12 = .ok (.iadd, 1) := by decide +kernel
theorem dX4_insert_13 : decode cX4_insert 13 = .ok (.putfield 21, 3) := by decide +kernel
theorem dX4_insert_16 : decode cX4_insert 16 = .ok (.iload 4, 2) := by decide +kernel
theorem dX4_insert_18 : decode cX4_insert 18 = .ok (.ifCond .le 33, 3) := by decide +kernel
theorem dX4_insert_21 : decode cX4_insert 21 = .ok (.aload_n 0, 1) := by decide +kernel
theorem dX4_insert_22 : decode cX4_insert 22 = .ok (.iload 4, 2) := by decide +kernel
theorem dX4_insert_24 : decode cX4_insert 24 = .ok (.iconst 1, 1) := by decide +kernel
theorem dX4_insert_25 : decode cX4_insert 25 = .ok (.isub, 1) := by decide +kernel
theorem dX4_insert_26 : decode cX4_insert 26 = .ok (.iload_n 1, 1) := by decide +kernel
theorem dX4_insert_27 : decode cX4_insert 27 = .ok (.iload_n 2, 1) := by decide +kernel
theorem dX4_insert_28 : decode cX4_insert 28 = .ok (.iload_n 3, 1) := by decide +kernel
theorem dX4_insert_29 : decode cX4_insert 29 = .ok (.invokevirtual 44, 3) := by decide +kernel
theorem dX4_insert_32 : decode cX4_insert 32 = .ok (.ifCond .eq 19, 3) := by decide +kernel
theorem dX4_insert_35 : decode cX4_insert 35 = .ok (.aload_n 0, 1) := by decide +kernel
theorem dX4_insert_36 : decode cX4_insert 36 = .ok (.iload 4, 2) := by decide +kernel
theorem dX4_insert_38 : decode cX4_insert 38 = .ok (.iconst 1, 1) := by decide +kernel
theorem dX4_insert_39 : decode cX4_insert 39 = .ok (.isub, 1) := by decide +kernel
theorem dX4_insert_40 : decode cX4_insert 40 = .ok (.iload 4, 2) := by decide +kernel
theorem dX4_insert_42 : decode cX4_insert 42 = .ok (.invokevirtual 48, 3) := by decide +kernel
theorem dX4_insert_45 : decode cX4_insert 45 = .ok (.iinc 4 (-1), 3) := by decide +kernel
theorem dX4_insert_48 : decode cX4_insert 48 = .ok (.goto (-32), 3) := by decide +kernel
theorem dX4_insert_51 : decode cX4_insert 51 = .ok (.aload_n 0, 1) := by decide +kernel
theorem dX4_insert_52 : decode cX4_insert 52 = .ok (.getfield 9, 3) := by decide +kernel
theorem dX4_insert_55 : decode cX4_insert 55 = .ok (.iload 4, 2) := by decide +kernel
theorem dX4_insert_57 : decode cX4_insert 57 = .ok (.iload_n 1, 1) := by decide +kernel
theorem dX4_insert_58 : decode cX4_insert 58 = .ok (.invokestatic 52, 3) := by decide +kernel
theorem dX4_insert_61 : decode cX4_insert 61 = .ok (.aload_n 0, 1) := by decide +kernel
theorem dX4_insert_62 : decode cX4_insert 62 = .ok (.getfield 15, 3) := by decide +kernel
theorem dX4_insert_65 : decode cX4_insert 65 = .ok (.iload 4, 2) := by decide +kernel
theorem dX4_insert_67 : decode cX4_insert 67 = .ok (.iload_n 2, 1) := by decide +kernel
theorem dX4_insert_68 : decode cX4_insert 68 = .ok (.invokestatic 52, 3) := by decide +kernel
theorem dX4_insert_71 : decode cX4_insert 71 = .ok (.aload_n 0, 1) := by decide +kernel
theorem dX4_insert_72 : decode cX4_insert 72 = .ok (.getfield 18, 3) := by decide +kernel
theorem dX4_insert_75 : decode cX4_insert 75 = .ok (.iload 4, 2) := by decide +kernel
theorem dX4_insert_77 : decode cX4_insert 77 = .ok (.iload_n 3, 1) := by decide +kernel
theorem dX4_insert_78 : decode cX4_insert 78 = .ok (.invokestatic 52, 3) := by decide +kernel
theorem dX4_insert_81 : decode cX4_insert 81 = .ok (.iload 4, 2) := by decide +kernel
theorem dX4_insert_83 : decode cX4_insert 83 = .ok (.ireturn, 1) := by decide +kernel
set_option maxRecDepth 20000 in
theorem ggX4_isAheadOf_X8_at : GoodIn wsX4_isAheadOf wsX8_at := goodIn_r _ [6] (by decide +kernel) (by decide +kernel)
set_option maxRecDepth 20000 in
theorem gX4_isAheadOf_X8_at_n29 : GoodIn wsX4_isAheadOf (wsX8_at) := ggX4_isAheadOf_X8_at
theorem dX4_isAheadOf_0 : decode cX4_isAheadOf 0 = .ok (.iload_n 3, 1) := by decide +kernel
theorem dX4_isAheadOf_1 : decode cX4_isAheadOf 1 = .ok (.aload_n 0, 1) := by decide +kernel
theorem dX4_isAheadOf_2 : decode cX4_isAheadOf 2 = .ok (.getfield 15, 3) := by decide +kernel
theorem dX4_isAheadOf_5 : decode cX4_isAheadOf 5 = .ok (.iload_n 1, 1) := by decide +kernel
theorem dX4_isAheadOf_6 : decode cX4_isAheadOf 6 = .ok (.invokestatic 29, 3) := by decide +kernel
theorem dX4_isAheadOf_9 : decode cX4_isAheadOf 9 = .ok (.if_icmp .eq 21, 3) := by decide +kernel
theorem dX4_isAheadOf_12 : decode cX4_isAheadOf 12 = .ok (.iload_n 3, 1) := by decide +kernel
theorem dX4_isAheadOf_13 : decode cX4_isAheadOf 13 = .ok (.aload_n 0, 1) := by decide +kernel
theorem dX4_isAheadOf_14 : decode cX4_isAheadOf 14 = .ok (.getfield 15, 3) := by decide +kernel
theorem dX4_isAheadOf_17 : decode cX4_isAheadOf 17 = .ok (.iload_n 1, 1) := by decide +kernel
theorem dX4_isAheadOf_18 : decode cX4_isAheadOf 18 = .ok (.invokestatic 29, 3) := by decide +kernel
theorem dX4_isAheadOf_21 : decode cX4_isAheadOf 21 = .ok (.if_icmp .ge 7, 3) := by decide +kernel
theorem dX4_isAheadOf_24 : decode cX4_isAheadOf 24 = .ok (.iconst 1, 1) := by decide +kernel
theorem dX4_isAheadOf_25 : decode cX4_isAheadOf 25 = .ok (.goto 4, 3) := by decide +kernel
theorem dX4_isAheadOf_28 : decode cX4_isAheadOf 28 = .ok (.iconst 0, 1) := by decide +kernel
theorem dX4_isAheadOf_29 : decode cX4_isAheadOf 29 = .ok (.ireturn, 1) := by decide +kernel
theorem dX4_isAheadOf_30 : decode cX4_isAheadOf 30 = .ok (.iload 4, 2) := by decide +kernel
theorem dX4_isAheadOf_32 : decode cX4_isAheadOf 32 = .ok (.aload_n 0, 1) := by decide +kernel
theorem dX4_isAheadOf_33 : decode cX4_isAheadOf 33 = .ok (.getfield 18, 3) := by decide +kernel
theorem dX4_isAheadOf_36 : decode cX4_isAheadOf 36 = .ok (.iload_n 1, 1) := by decide +kernel
theorem dX4_isAheadOf_37 : decode cX4_isAheadOf 37 = .ok (.invokestatic 29, 3) := by decide +kernel
theorem dX4_isAheadOf_40 : decode cX4_isAheadOf 40 = .ok (.if_icmp .eq 22, 3) := by decide +kernel
theorem dX4_isAheadOf_43 : decode cX4_isAheadOf 43 = .ok (.iload 4, 2) := by decide +kernel
theorem dX4_isAheadOf_45 : decode cX4_isAheadOf 45 = .ok (.aload_n 0, 1) := by decide +kernel
theorem dX4_isAheadOf_46 : decode cX4_isAheadOf 46 = .ok (.getfield 18, 3) := by decide +kernel
theorem dX4_isAheadOf_49 : decode cX4_isAheadOf 49 = .ok (.iload_n 1, 1) := by decide +kernel
theorem dX4_isAheadOf_50 : decode cX4_isAheadOf 50 = .ok (.invokestatic 29, 3) := by decide +kernel
theorem dX4_isAheadOf_53 : decode cX4_isAheadOf 53 = .ok (.if_icmp .le 7, 3) := by decide +kernel
theorem dX4_isAheadOf_56 : decode cX4_isAheadOf 56 = .ok (.iconst 1, 1) := by decide +kernel
theorem dX4_isAheadOf_57 : decode cX4_isAheadOf 57 = .ok (.goto 4, 3) := by decide +kernel
theorem dX4_isAheadOf_60 : decode cX4_isAheadOf 60 = .ok (.iconst 0, 1) := by decide +kernel
theorem dX4_isAheadOf_61 : decode cX4_isAheadOf 61 = .ok (.ireturn, 1) := by decide +kernel
theorem dX4_isAheadOf_62 : decode cX4_isAheadOf 62 = .ok (.iload_n 2, 1) := by decide +kernel
theorem dX4_isAheadOf_63 : decode cX4_isAheadOf 63 = .ok (.aload_n 0, 1) := by decide +kernel
theorem dX4_isAheadOf_64 : decode cX4_isAheadOf 64 = .ok (.getfield 9, 3) := by decide +kernel
theorem dX4_isAheadOf_67 : decode cX4_isAheadOf 67 = .ok (.iload_n 1, 1) := by decide +kernel
theorem dX4_isAheadOf_68 : decode cX4_isAheadOf 68 = .ok (.invokestatic 29, 3) := by decide +kernel
theorem dX4_isAheadOf_71 : decode cX4_isAheadOf 71 = .ok (.if_icmp .ge 7, 3) := by decide +kernel
theorem dX4_isAheadOf_74 : decode cX4_isAheadOf 74 = .ok (.iconst 1, 1) := by decide +kernel
theorem dX4_isAheadOf_75 : decode cX4_isAheadOf 75 = .ok (.goto 4, 3) := by decide +kernel
theorem dX4_isAheadOf_78 : decode cX4_isAheadOf 78 = .ok (.iconst 0, 1) := by decide +kernel
theorem dX4_isAheadOf_79 : decode cX4_isAheadOf 79 = .ok (.ireturn, 1) := by decide +kernel
set_option maxRecDepth 20000 in
theorem ggX4_carry_X8_at : GoodIn wsX4_carry wsX8_at := goodIn_r _ [6] (by decide +kernel) (by decide +kernel)
set_option maxRecDepth 20000 in
theorem gX4_carry_X8_at_n29 : GoodIn wsX4_carry (wsX8_at) := ggX4_carry_X8_at
set_option maxRecDepth 20000 in
theorem ggX4_carry_X8_put : GoodIn wsX4_carry wsX8_put := goodIn_r _ [8] (by decide +kernel) (by decide +kernel)
set_option maxRecDepth 20000 in
theorem gX4_carry_X8_put_n52 : GoodIn wsX4_carry (wsX8_put) := ggX4_carry_X8_put
theorem dX4_carry_0 : decode cX4_carry 0 = .ok (.aload_n 0, 1) := by decide +kernel
theorem dX4_carry_1 : decode cX4_carry 1 = .ok (.getfield 9, 3) := by decide +kernel
theorem dX4_carry_4 : decode cX4_carry 4 = .ok (.iload_n 2, 1) := by decide +kernel
theorem dX4_carry_5 : decode cX4_carry 5 = .ok (.aload_n 0, 1) := by decide +kernel
theorem dX4_carry_6 : decode cX4_carry 6 = .ok (.getfield 9, 3) := by decide +kernel
theorem dX4_carry_9 : decode cX4_carry 9 = .ok (.iload_n 1, 1) := by decide +kernel
theorem dX4_carry_10 : decode cX4_carry 10 = .ok (.invokestatic 29, 3) := by decide +kernel
theorem dX4_carry_13 : decode cX4_carry 13 = .ok (.invokestatic 52, 3) := by decide +kernel
theorem dX4_carry_16 : decode cX4_carry 16 = .ok (.aload_n 0, 1) := by decide +kernel
theorem dX4_carry_17 : decode cX4_carry 17 = .ok (.getfield 15, 3) := by decide +kernel
theorem dX4_carry_20 : decode cX4_carry 20 = .ok (.iload_n 2, 1) := by decide +kernel
theorem dX4_carry_21 : decode cX4_carry 21 = .ok (.aload_n 0, 1) := by decide +kernel
theorem dX4_carry_22 : decode cX4_carry 22 = .ok (.getfield 15, 3) := by decide +kernel
theorem dX4_carry_25 : decode cX4_carry 25 = .ok (.iload_n 1, 1) := by decide +kernel
theorem dX4_carry_26 : decode cX4_carry 26 = .ok (.invokestatic 29, 3) := by decide +kernel
theorem dX4_carry_29 : decode cX4_carry 29 = .ok (.invokestatic 52, 3) := by decide +kernel
theorem dX4_carry_32 : decode cX4_carry 32 = .ok (.aload_n 0, 1) := by decide +kernel
theorem dX4_carry_33 : decode cX4_carry 33 = .ok (.getfield 18, 3) := by decide +kernel
theorem dX4_carry_36 : decode cX4_carry 36 = .ok (.iload_n 2, 1) := by decide +kernel
theorem dX4_carry_37 : decode cX4_carry 37 = .ok (.aload_n 0, 1) := by decide +kernel
theorem dX4_carry_38 : decode cX4_carry 38 = .ok (.getfield 18, 3) := by decide +kernel
theorem dX4_carry_41 : decode cX4_carry 41 = .ok (.iload_n 1, 1) := by decide +kernel
theorem dX4_carry_42 : decode cX4_carry 42 = .ok (.invokestatic 29, 3) := by decide +kernel
theorem dX4_carry_45 : decode cX4_carry 45 = .ok (.invokestatic 52, 3) := by decide +kernel
theorem dX4_carry_48 : decode cX4_carry 48 = .ok (.return_, 1) := by decide +kernel
set_option maxRecDepth 20000 in
theorem ggX4_removeFirst_X4_carry : GoodIn wsX4_removeFirst wsX4_carry := goodIn_r _ [10, 11, 12, 13, 14, 15, 16, 17, 18, 19, 20, 21, 22] (by decide +kernel) (by decide +kernel)
set_option maxRecDepth 20000 in
theorem gX4_removeFirst_X4_carry : GoodIn wsX4_removeFirst (wsV RX4 48 RX4 yX4_carry wsX4_carry) := goodIn_app (goodIn_of _ (by decide +kernel)) ggX4_removeFirst_X4_carry
theorem dX4_removeFirst_0 : decode cX4_removeFirst 0 = .ok (.iconst 1, 1) := by decide +kernel
theorem dX4_removeFirst_1 : decode cX4_removeFirst 1 = .ok (.istore_n 1, 1) := by decide +kernel
theorem dX4_removeFirst_2 : decode cX4_removeFirst 2 = .ok (.iload_n 1, 1) := by decide +kernel
theorem dX4_removeFirst_3 : decode cX4_removeFirst 3 = .ok (.aload_n 0, 1) := by decide +kernel
theorem dX4_removeFirst_4 : decode cX4_removeFirst 4 = .ok (.getfield 21, 3) := by decide +kernel
theorem dX4_removeFirst_7 : decode cX4_removeFirst 7 = .ok (.if_icmp .ge 17, 3) := by decide +kernel
theorem dX4_removeFirst_10 : decode cX4_removeFirst 10 = .ok (.aload_n 0, 1) := by decide +kernel
theorem dX4_removeFirst_11 : decode cX4_removeFirst 11 = .ok (.iload_n 1, 1) := by decide +kernel
theorem dX4_removeFirst_12 : decode cX4_removeFirst 12 = .ok (.iload_n 1, 1) := by decide +kernel
theorem dX4_removeFirst_13 : decode cX4_removeFirst 13 = .ok (.iconst 1, 1) := by decide +kernel
theorem dX4_removeFirst_14 : decode cX4_removeFirst 14 = .ok (.isub, 1) := by decide +kernel
theorem dX4_removeFirst_15 : decode cX4_removeFirst 15 = .ok (.invokevirtual 48, 3) := by decide +kernel
theorem dX4_removeFirst_18 : decode cX4_removeFirst 18 = .ok (.iinc 1 1, 3) := by decide +kernel
theorem dX4_removeFirst_21 : decode cX4_removeFirst 21 = .ok (.goto (-19), 3) := by decide +kernel
theorem dX4_removeFirst_24 : decode cX4_removeFirst 24 = .ok (.aload_n 0, 1) := by decide +kernel
theorem dX4_removeFirst_25 : decode cX4_removeFirst 25 = .ok (.aload_n 0, 1) := by decide +kernel
theorem dX4_removeFirst_26 : decode cX4_removeFirst 26 = .ok (.getfield 21, 3) := by decide +kernel
theorem dX4_removeFirst_29 : decode cX4_removeFirst 29 = .ok (.iconst 1, 1) := by decide +kernel
theorem dX4_removeFirst_30 : decode cX4_removeFirst 30 = .ok (.isub, 1) := by decide +kernel
theorem dX4_removeFirst_31 : decode cX4_removeFirst 31 = .ok (.iconst 0, 1) := by decide +kernel
theorem dX4_removeFirst_32 : decode cX4_removeFirst 32 = .ok (.invokestatic 56, 3) := by decide +kernel
theorem dX4_removeFirst_35 : decode cX4_removeFirst 35 = .ok (.putfield 21, 3) := by decide +kernel
theorem dX4_removeFirst_38 : decode cX4_removeFirst 38 = .ok (.return_, 1) := by decide +kernel
set_option maxRecDepth 20000 in
theorem ggX4_removeAllOf_X8_at : GoodIn wsX4_removeAllOf wsX8_at := goodIn_r _ [5] (by decide +kernel) (by decide +kernel)
set_option maxRecDepth 20000 in
theorem gX4_removeAllOf_X8_at_n29 : GoodIn wsX4_removeAllOf (wsX8_at) := ggX4_removeAllOf_X8_at
set_option maxRecDepth 20000 in
theorem ggX4_removeAllOf_X4_carry : GoodIn wsX4_removeAllOf wsX4_carry := goodIn_r _ [10, 2, 11, 12, 3, 4, 5, 13, 14, 15, 16, 17, 18] (by decide +kernel) (by decide +kernel)
set_option maxRecDepth 20000 in
theorem gX4_removeAllOf_X4_carry : GoodIn wsX4_removeAllOf (wsV RX4 48 RX4 yX4_carry wsX4_carry) := goodIn_app (goodIn_of _ (by decide +kernel)) ggX4_removeAllOf_X4_carry
theorem dX4_removeAllOf_0 : decode cX4_removeAllOf 0 = .ok (.iconst 0, 1) := by decide +kernel
theorem dX4_removeAllOf_1 : decode cX4_removeAllOf 1 = .ok (.istore_n 2, 1) := by decide +kernel
theorem dX4_removeAllOf_2 : decode cX4_removeAllOf 2 = .ok (.iconst 0, 1) := by decide +kernel
theorem dX4_removeAllOf_3 : decode cX4_removeAllOf 3 = .ok (.istore_n 3, 1) := by decide +kernel
theorem dX4_removeAllOf_4 : decode cX4_removeAllOf 4 = .ok (.iload_n 3, 1) := by decide +kernel
theorem dX4_removeAllOf_5 : decode cX4_removeAllOf 5 = .ok (.aload_n 0, 1) := by decide +kernel
theorem dX4_removeAllOf_6 : decode cX4_removeAllOf 6 = .ok (.getfield 21, 3) := by decide +kernel
theorem dX4_removeAllOf_9 : decode cX4_removeAllOf 9 = .ok (.if_icmp .ge 30, 3) := by decide +kernel
theorem dX4_removeAllOf_12 : decode cX4_removeAllOf 12 = .ok (.aload_n 0, 1) := by decide +kernel
theorem dX4_removeAllOf_13 : decode cX4_removeAllOf 13 = .ok (.getfield 9, 3) := by decide +kernel
theorem dX4_removeAllOf_16 : decode cX4_removeAllOf 16 = .ok (.iload_n 3, 1) := by decide +kernel
theorem dX4_removeAllOf_17 : decode cX4_removeAllOf 17 = .ok (.invokestatic 29, 3) := by decide +kernel
theorem dX4_removeAllOf_20 : decode cX4_removeAllOf 20 = .ok (.iload_n 1, 1) := by decide +kernel
theorem dX4_removeAllOf_21 : decode cX4_removeAllOf 21 = .ok (.if_icmp .eq 12, 3) := by decide +kernel
theorem dX4_removeAllOf_24 : decode cX4_removeAllOf 24 = .ok (.aload_n 0, 1) := by decide +kernel
theorem dX4_removeAllOf_25 : decode cX4_removeAllOf 25 = .ok (.iload_n 3, 1) := by decide +kernel
theorem dX4_removeAllOf_26 : decode cX4_removeAllOf 26 = .ok (.iload_n 2, 1) := by decide +kernel
theorem dX4_removeAllOf_27 : decode cX4_removeAllOf 27 = .ok (.invokevirtual 48, 3) := by decide +kernel
theorem dX4_removeAllOf_30 : decode cX4_removeAllOf 30 = .ok (.iinc 2 1, 3) := by decide +kernel
theorem dX4_removeAllOf_33 : decode cX4_removeAllOf 33 = .ok (.iinc 3 1, 3) := by decide +kernel
theorem dX4_removeAllOf_36 : decode cX4_removeAllOf 36 = .ok (.goto (-32), 3) := by decide +kernel
theorem dX4_removeAllOf_39 : decode cX4_removeAllOf 39 = .ok (.aload_n 0, 1) := by decide +kernel
theorem dX4_removeAllOf_40 : decode cX4_removeAllOf 40 = .ok (.iload_n 2, 1) := by decide +kernel
theorem dX4_removeAllOf_41 : decode cX4_removeAllOf 41 = .ok (.putfield 21, 3) := by decide +kernel
theorem dX4_removeAllOf_44 : decode cX4_removeAllOf 44 = .ok (.return_, 1) := by decide +kernel
theorem dX5_init_0 : decode cX5_init 0 = .ok (.aload_n 0, 1) := by decide +kernel
theorem dX5_init_1 : decode cX5_init 1 = .ok (.invokespecial 3, 3) := by decide +kernel
theorem dX5_init_4 : decode cX5_init 4 = .ok (.aload_n 0, 1) := by decide +kernel
theorem dX5_init_5 : decode cX5_init 5 = .ok (.bipush 12, 2) := by decide +kernel
theorem dX5_init_7 : decode cX5_init 7 = .ok (.newarray .int, 2) := by decide +kernel
theorem dX5_init_9 : decode cX5_init 9 = .ok (.putfield 9, 3) := by decide +kernel
theorem dX5_init_12 : decode cX5_init 12 = .ok (.aload_n 0, 1) := by decide +kernel
theorem dX5_init_13 : decode cX5_init 13 = .ok (.bipush 12, 2) := by decide +kernel
theorem dX5_init_15 : decode cX5_init 15 = .ok (.newarray .int, 2) := by decide +kernel
theorem dX5_init_17 : decode cX5_init 17 = .ok (.putfield 15, 3) := by decide +kernel
theorem dX5_init_20 : decode cX5_init 20 = .ok (.aload_n 0, 1) := by decide +kernel
theorem dX5_init_21 : decode cX5_init 21 = .ok (.bipush 12, 2) := by decide +kernel
theorem dX5_init_23 : decode cX5_init 23 = .ok (.newarray .int, 2) := by decide +kernel
theorem dX5_init_25 : decode cX5_init 25 = .ok (.putfield 18, 3) := by decide +kernel
theorem dX5_init_28 : decode cX5_init 28 = .ok (.aload_n 0, 1) := by decide +kernel
theorem dX5_init_29 : decode cX5_init 29 = .ok (.bipush 12, 2) := by decide +kernel
theorem dX5_init_31 : decode cX5_init 31 = .ok (.newarray .int, 2) := by decide +kernel
theorem dX5_init_33 : decode cX5_init 33 = .ok (.putfield 21, 3) := by decide +kernel
theorem dX5_init_36 : decode cX5_init 36 = .ok (.aload_n 0, 1) := by decide +kernel
theorem dX5_init_37 : decode cX5_init 37 = .ok (.bipush 12, 2) := by decide +kernel
theorem dX5_init_39 : decode cX5_init 39 = .ok (.newarray .int, 2) := by decide +kernel
theorem dX5_init_41 : decode cX5_init 41 = .ok (.putfield 24, 3) := by decide +kernel
theorem dX5_init_44 : decode cX5_init 44 = .ok (.aload_n 0, 1) := by decide +kernel
theorem dX5_init_45 : decode cX5_init 45 = .ok (.bipush 12, 2) := by decide +kernel
theorem dX5_init_47 : decode cX5_init 47 = .ok (.newarray .int, 2) := by decide +kernel
theorem dX5_init_49 : decode cX5_init 49 = .ok (.putfield 27, 3) := by decide +kernel
theorem dX5_init_52 : decode cX5_init 52 = .ok (.return_, 1) := by decide +kernel
set_option maxRecDepth 20000 in
theorem ggX5_copyFrom_X8_copy : GoodIn wsX5_copyFrom wsX8_copy := goodIn_r _ [10, 11, 12, 13, 14, 15, 16, 17, 18] (by decide +kernel) (by decide +kernel)
set_option maxRecDepth 20000 in
theorem gX5_copyFrom_X8_copy_n34 : GoodIn wsX5_copyFrom (wsX8_copy) := ggX5_copyFrom_X8_copy
theorem dX5_copyFrom_0 : decode cX5_copyFrom 0 = .ok (.aload_n 0, 1) := by decide +kernel
theorem dX5_copyFrom_1 : decode cX5_copyFrom 1 = .ok (.aload_n 1, 1) := by decide +kernel
theorem dX5_copyFrom_2 : decode cX5_copyFrom 2 = .ok (.getfield 30, 3) := by decide +kernel
theorem dX5_copyFrom_5 : decode cX5_copyFrom 5 = .ok (.putfield 30, 3) := by decide +kernel
theorem dX5_copyFrom_8 : decode cX5_copyFrom 8 = .ok (.aload_n 1, 1) := by decide +kernel
theorem dX5_copyFrom_9 : decode cX5_copyFrom 9 = .ok (.getfield 9, 3) := by decide +kernel
theorem dX5_copyFrom_12 : decode cX5_copyFrom 12 = .ok (.aload_n 0, 1) := by decide +kernel
theorem dX5_copyFrom_13 : decode cX5_copyFrom 13 = .ok (.getfield 9, 3) := by decide +kernel
theorem dX5_copyFrom_16 : decode cX5_copyFrom 16 = .ok (.invokestatic 34, 3) := by decide +kernel
theorem dX5_copyFrom_19 : decode cX5_copyFrom 19 = .ok (.aload_n 1, 1) := by decide +kernel
theorem dX5_copyFrom_20 : decode cX5_copyFrom 20 = .ok (.getfield 15, 3) := by decide +kernel
theorem dX5_copyFrom_23 : decode cX5_copyFrom 23 = .ok (.aload_n 0, 1) := by decide +kernel
theorem dX5_copyFrom_24 : decode cX5_copyFrom 24 = .ok (.getfield 15, 3) := by decide +kernel
theorem dX5_copyFrom_27 : decode cX5_copyFrom 27 = .ok (.invokestatic 34, 3) := by decide +kernel
theorem dX5_copyFrom_30 : decode cX5_copyFrom 30 = .ok (.aload_n 1, 1) := by decide +kernel
theorem dX5_copyFrom_31 : decode cX5_copyFrom 31 = .ok (.getfield 18, 3) := by decide +kernel
theorem dX5_copyFrom_34 : decode cX5_copyFrom 34 = .ok (.aload_n 0, 1) := by decide +kernel
theorem dX5_copyFrom_35 : decode cX5_copyFrom 35 = .ok (.getfield 18, 3) := by decide +kernel
theorem dX5_copyFrom_38 : decode cX5_copyFrom 38 = .ok (.invokestatic 34, 3) := by decide +kernel
theorem dX5_copyFrom_41 : decode cX5_copyFrom 41 = .ok (.aload_n 1, 1) := by decide +kernel
theorem dX5_copyFrom_42 : decode cX5_copyFrom 42 = .ok (.getfield 21, 3) := by decide +kernel
theorem dX5_copyFrom_45 : decode cX5_copyFrom 45 = .ok (.aload_n 0, 1) := by decide +kernel
theorem dX5_copyFrom_46 : decode cX5_copyFrom 46 = .ok (.getfield 21, 3) := by decide +kernel
theorem dX5_copyFrom_49 : decode cX5_copyFrom 49 = .ok (.invokestatic 34, 3) := by decide +kernel
theorem dX5_copyFrom_52 : decode cX5_copyFrom 52 = .ok (.aload_n 1, 1) := by decide +kernel
theorem dX5_copyFrom_53 : decode cX5_copyFrom 53 = .ok (.getfield 24, 3) := by decide +kernel
theorem dX5_copyFrom_56 : decode cX5_copyFrom 56 = .ok (.aload_n 0, 1) := by decide +kernel
theorem dX5_copyFrom_57 : decode cX5_copyFrom 57 = .ok (.getfield 24, 3) := by decide +kernel
theorem dX5_copyFrom_60 : decode cX5_copyFrom 60 = .ok (.invokestatic 34, 3) := by decide +kernel
theorem dX5_copyFrom_63 : decode cX5_copyFrom 63 = .ok (.aload_n 1, 1) := by decide +kernel
theorem dX5_copyFrom_64 : decode cX5_copyFrom 64 = .ok (.getfield 27, 3) := by decide +kernel
theorem dX5_copyFrom_67 : decode cX5_copyFrom 67 = .ok (.aload_n 0, 1) := by decide +kernel
theorem dX5_copyFrom_68 : decode cX5_copyFrom 68 = .ok (.getfield 27, 3) := by decide +kernel
theorem dX5_copyFrom_71 : decode cX5_copyFrom 71 = .ok (.invokestatic 34, 3) := by decide +kernel
theorem dX5_copyFrom_74 : decode cX5_copyFrom 74 = .ok (.return_, 1) := by decide +kernel
theorem dX5_has_0 : decode cX5_has 0 = .ok (.iload_n 1, 1) := by decide +kernel
theorem dX5_has_1 : decode cX5_has 1 = .ok (.ifCond .lt 15, 3) := by decide +kernel
theorem dX5_has_4 : decode cX5_has 4 = .ok (.iload_n 1, 1) := by decide +kernel
theorem dX5_has_5 : decode cX5_has 5 = .ok (.aload_n 0, 1) := by decide +kernel
theorem dX5_has_6 : decode cX5_has 6 = .ok (.getfield 30, 3) := by decide +kernel
theorem dX5_has_9 : decode cX5_has 9 = .ok (.if_icmp .ge 7, 3) := by decide +kernel
theorem dX5_has_12 : decode cX5_has 12 = .ok (.iconst 1, 1) := by decide +kernel
theorem dX5_has_13 : decode cX5_has 13 = .ok (.goto 4, 3) := by decide +kernel
theorem dX5_has_16 : decode cX5_has 16 = .ok (.iconst 0, 1) := by decide +kernel
theorem dX5_has_17 : decode cX5_has 17 = .ok (.ireturn, 1) := by decide +kernel
set_option maxRecDepth 20000 in
theorem ggX5_bring_X8_put : GoodIn wsX5_bring wsX8_put := goodIn_r _ [6] (by decide +kernel) (by decide +kernel)
set_option maxRecDepth 20000 in
theorem gX5_bring_X8_put_n38 : GoodIn wsX5_bring (wsX8_put) := ggX5_bring_X8_put
theorem dX5_bring_0 : decode cX5_bring 0 = .ok (.aload_n 0, 1) := by decide +kernel
theorem dX5_bring_1 : decode cX5_bring 1 = .ok (.getfield 30, 3) := by decide +kernel
theorem dX5_bring_4 : decode cX5_bring 4 = .ok (.istore_n 2, 1) := by decide +kernel
theorem dX5_bring_5 : decode cX5_bring 5 = .ok (.aload_n 0, 1) := by decide +kernel
theorem dX5_bring_6 : decode cX5_bring 6 = .ok (.dup, 1) := by decide +kernel
theorem dX5_bring_7 : decode cX5_bring 7 = .ok (.getfield 30, 3) := by decide +kernel
theorem dX5_bring_10 : decode cX5_bring 10 = .ok (.iconst 1, 1) := by decide +kernel
theorem dX5_bring_11 : decode cX5_bring 11 = .ok (.iadd, 1) := by decide +kernel
theorem dX5_bring_12 : decode cX5_bring 12 = .ok (.putfield 30, 3) := by decide +kernel
theorem dX5_bring_15 : decode cX5_bring 15 = .ok (.aload_n 0, 1) := by decide +kernel
theorem dX5_bring_16 : decode cX5_bring 16 = .ok (.getfield 9, 3) := by decide +kernel
theorem dX5_bring_19 : decode cX5_bring 19 = .ok (.iload_n 2, 1) := by decide +kernel
theorem dX5_bring_20 : decode cX5_bring 20 = .ok (.iload_n 1, 1) := by decide +kernel
theorem dX5_bring_21 : decode cX5_bring 21 = .ok (.invokestatic 38, 3) := by decide +kernel
theorem dX5_bring_24 : decode cX5_bring 24 = .ok (.aload_n 0, 1) := by decide +kernel
theorem dX5_bring_25 : decode cX5_bring 25 = .ok (.getfield 15, 3) := by decide +kernel
theorem dX5_bring_28 : decode cX5_bring 28 = .ok (.iload_n 2, 1) := by decide +kernel
theorem dX5_bring_29 : decode cX5_bring 29 = .ok (.iconst 1, 1) := by decide +kernel
theorem dX5_bring_30 : decode cX5_bring 30 = .ok (.invokestatic 38, 3) := by decide +kernel
theorem dX5_bring_33 : decode cX5_bring 33 = .ok (.iload_n 2, 1) := by decide +kernel
theorem dX5_bring_34 : decode cX5_bring 34 = .ok (.ireturn, 1) := by decide +kernel
set_option maxRecDepth 20000 in
theorem ggX5_isEnough_X8_at : GoodIn wsX5_isEnough wsX8_at := goodIn_r _ [5] (by decide +kernel) (by decide +kernel)
set_option maxRecDepth 20000 in
theorem gX5_isEnough_X8_at_n42 : GoodIn wsX5_isEnough (wsX8_at) := ggX5_isEnough_X8_at
theorem dX5_isEnough_0 : decode cX5_isEnough 0 = .ok (.aload_n 0, 1) := by decide +kernel
theorem dX5_isEnough_1 : decode cX5_isEnough 1 = .ok (.getfield 15, 3) := by decide +kernel
theorem dX5_isEnough_4 : decode cX5_isEnough 4 = .ok (.iload_n 1, 1) := by decide +kernel
theorem dX5_isEnough_5 : decode cX5_isEnough 5 = .ok (.invokestatic 42, 3) := by decide +kernel
theorem dX5_isEnough_8 : decode cX5_isEnough 8 = .ok (.iconst 1, 1) := by decide +kernel
theorem dX5_isEnough_9 : decode cX5_isEnough 9 = .ok (.if_icmp .ne 19, 3) := by decide +kernel
theorem dX5_isEnough_12 : decode cX5_isEnough 12 = .ok (.iload_n 2, 1) := by decide +kernel
theorem dX5_isEnough_13 : decode cX5_isEnough 13 = .ok (.aload_n 0, 1) := by decide +kernel
theorem dX5_isEnough_14 : decode cX5_isEnough 14 = .ok (.getfield 18, 3) := by decide +kernel
theorem dX5_isEnough_17 : decode cX5_isEnough 17 = .ok (.iload_n 1, 1) := by decide +kernel
theorem dX5_isEnough_18 : decode cX5_isEnough 18 = .ok (.invokestatic 42, 3) := by decide +kernel
theorem dX5_isEnough_21 : decode cX5_isEnough 21 = .ok (.if_icmp .le 7, 3) := by decide +kernel
theorem dX5_isEnough_24 : decode cX5_isEnough 24 = .ok (.iconst 1, 1) := by decide +kernel
theorem dX5_isEnough_25 : decode cX5_isEnough 25 = .ok (.goto 4, 3) := by decide +kernel
theorem dX5_isEnough_28 : decode cX5_isEnough 28 = .ok (.iconst 0, 1) := by decide +kernel
theorem dX5_isEnough_29 : decode cX5_isEnough 29 = .ok (.ireturn, 1) := by decide +kernel
set_option maxRecDepth 20000 in
theorem ggX5_becomeRustier_X8_at : GoodIn wsX5_becomeRustier wsX8_at := goodIn_r _ [8] (by decide +kernel) (by decide +kernel)
set_option maxRecDepth 20000 in
theorem gX5_becomeRustier_X8_at_n42 : GoodIn wsX5_becomeRustier (wsX8_at) := ggX5_becomeRustier_X8_at
set_option maxRecDepth 20000 in
theorem ggX5_becomeRustier_X8_put : GoodIn wsX5_becomeRustier wsX8_put := goodIn_r _ [10] (by decide +kernel) (by decide +kernel)
set_option maxRecDepth 20000 in
theorem gX5_becomeRustier_X8_put_n38 : GoodIn wsX5_becomeRustier (wsX8_put) := ggX5_becomeRustier_X8_put
theorem dX5_becomeRustier_0 : decode cX5_becomeRustier 0 = .ok (.aload_n 0, 1) := by decide +kernel
theorem dX5_becomeRustier_1 : decode cX5_becomeRustier 1 = .ok (.getfield 18, 3) := by decide +kernel
theorem dX5_becomeRustier_4 : decode cX5_becomeRustier 4 = .ok (.iload_n 1, 1) := by decide +kernel
theorem dX5_becomeRustier_5 : decode cX5_becomeRustier 5 = .ok (.aload_n 0, 1) := by decide +kernel
theorem dX5_becomeRustier_6 : decode cX5_becomeRustier 6 = .ok (.getfield 18, 3) := by decide +kernel
theorem dX5_becomeRustier_9 : decode cX5_becomeRustier 9 = .ok (.iload_n 1, 1) := by decide +kernel
theorem dX5_becomeRustier_10 : decode cX5_becomeRustier 10 = .ok (.invokestatic 42, 3) := by decide +kernel
theorem dX5_becomeRustier_13 : decode cX5_becomeRustier 13 = .ok (.iconst 1, 1) := by decide +kernel
theorem dX5_becomeRustier_14 : decode cX5_becomeRustier 14 = .ok (.iadd, 1) := by decide +kernel
theorem dX5_becomeRustier_15 : decode cX5_becomeRustier 15 = .ok (.bipush 9, 2) := by decide +kernel
theorem dX5_becomeRustier_17 : decode cX5_becomeRustier 17 = .ok (.invokestatic 46, 3) := by decide +kernel
theorem dX5_becomeRustier_20 : decode cX5_becomeRustier 20 = .ok (.invokestatic 38, 3) := by decide +kernel
theorem dX5_becomeRustier_23 : decode cX5_becomeRustier 23 = .ok (.return_, 1) := by decide +kernel
set_option maxRecDepth 20000 in
theorem ggX5_loseRust_X8_isIn : GoodIn wsX5_loseRust wsX8_isIn := goodIn_r _ [9] (by decide +kernel) (by decide +kernel)
set_option maxRecDepth 20000 in
theorem gX5_loseRust_X8_isIn_n52 : GoodIn wsX5_loseRust (wsX8_isIn) := ggX5_loseRust_X8_isIn
set_option maxRecDepth 20000 in
theorem ggX5_loseRust_X8_at : GoodIn wsX5_loseRust wsX8_at := goodIn_r _ [11] (by decide +kernel) (by decide +kernel)
set_option maxRecDepth 20000 in
theorem gX5_loseRust_X8_at_n42 : GoodIn wsX5_loseRust (wsX8_at) := ggX5_loseRust_X8_at
set_option maxRecDepth 20000 in
theorem ggX5_loseRust_X8_put : GoodIn wsX5_loseRust wsX8_put := goodIn_r _ [13] (by decide +kernel) (by decide +kernel)
set_option maxRecDepth 20000 in
theorem gX5_loseRust_X8_put_n38 : GoodIn wsX5_loseRust (wsX8_put) := ggX5_loseRust_X8_put
theorem dX5_loseRust_0 : decode cX5_loseRust 0 = .ok (.iconst 0, 1) := by decide +kernel
theorem dX5_loseRust_1 : decode cX5_loseRust 1 = .ok (.istore_n 2, 1) := by decide +kernel
theorem dX5_loseRust_2 : decode cX5_loseRust 2 = .ok (.iload_n 2, 1) := by decide +kernel
theorem dX5_loseRust_3 : decode cX5_loseRust 3 = .ok (.aload_n 0, 1) := by decide +kernel
theorem dX5_loseRust_4 : decode cX5_loseRust 4 = .ok (.getfield 30, 3) := by decide +kernel
theorem dX5_loseRust_7 : decode cX5_loseRust 7 = .ok (.if_icmp .ge 39, 3) := by decide +kernel
theorem dX5_loseRust_10 : decode cX5_loseRust 10 = .ok (.iload_n 1, 1) := by decide +kernel
theorem dX5_loseRust_11 : decode cX5_loseRust 11 = .ok (.iload_n 2, 1) := by decide +kernel
theorem dX5_loseRust_12 : decode cX5_loseRust 12 = .ok (.invokestatic 52, 3) := by decide +kernel
theorem dX5_loseRust_15 : decode cX5_loseRust 15 = .ok (.ifCond .ne 25, 3) := by decide +kernel
theorem dX5_loseRust_18 : decode cX5_loseRust 18 = .ok (.aload_n 0, 1) := by decide +kernel
theorem dX5_loseRust_19 : decode cX5_loseRust 19 = .ok (.getfield 18, 3) := by decide +kernel
theorem dX5_loseRust_22 : decode cX5_loseRust 22 = .ok (.iload_n 2, 1) := by decide +kernel
theorem dX5_loseRust_23 : decode cX5_loseRust 23 = .ok (.aload_n 0, 1) := by decide +kernel
theorem dX5_loseRust_24 : decode cX5_loseRust 24 = .ok (.getfield 18, 3) := by decide +kernel
theorem dX5_loseRust_27 : decode cX5_loseRust 27 = .ok (.iload_n 2, 1) := by decide +kernel
theorem dX5_loseRust_28 : decode cX5_loseRust 28 = .ok (.invokestatic 42, 3) := by decide +kernel
theorem dX5_loseRust_31 : decode cX5_loseRust 31 = .ok (.iconst 1, 1) := by decide +kernel
theorem dX5_loseRust_32 : decode cX5_loseRust 32 = .ok (.isub, 1) := by decide +kernel
theorem dX5_loseRust_33 : decode cX5_loseRust 33 = .ok (.iconst 0, 1) := by decide +kernel
theorem dX5_loseRust_34 : decode cX5_loseRust 34 = .ok (.invokestatic 56, 3) := by decide +kernel
theorem dX5_loseRust_37 : decode cX5_loseRust 37 = .ok (.invokestatic 38, 3) := by decide +kernel
theorem dX5_loseRust_40 : decode cX5_loseRust 40 = .ok (.iinc 2 1, 3) := by decide +kernel
theorem dX5_loseRust_43 : decode cX5_loseRust 43 = .ok (.goto (-41), 3) := by decide +kernel
theorem dX5_loseRust_46 : decode cX5_loseRust 46 = .ok (.return_, 1) := by decide +kernel
set_option maxRecDepth 20000 in
theorem ggX5_setOfAll_X8_bit : GoodIn wsX5_setOfAll wsX8_bit := goodIn_r _ [4] (by decide +kernel) (by decide +kernel)
set_option maxRecDepth 20000 in
theorem gX5_setOfAll_X8_bit_n59 : GoodIn wsX5_setOfAll (wsX8_bit) := ggX5_setOfAll_X8_bit
theorem dX5_setOfAll_0 : decode cX5_setOfAll 0 = .ok (.aload_n 0, 1) := by decide +kernel
theorem dX5_setOfAll_1 : decode cX5_setOfAll 1 = .ok (.getfield 30, 3) := by decide +kernel
theorem dX5_setOfAll_4 : decode cX5_setOfAll 4 = .ok (.invokestatic 59, 3) := by decide +kernel
theorem dX5_setOfAll_7 : decode cX5_setOfAll 7 = .ok (.iconst 1, 1) := by decide +kernel
theorem dX5_setOfAll_8 : decode cX5_setOfAll 8 = .ok (.isub, 1) := by decide +kernel
theorem dX5_setOfAll_9 : decode cX5_setOfAll 9 = .ok (.ireturn, 1) := by decide +kernel
set_option maxRecDepth 20000 in
theorem ggX5_setOf_X8_at : GoodIn wsX5_setOf wsX8_at := goodIn_r _ [5] (by decide +kernel) (by decide +kernel)
set_option maxRecDepth 20000 in
theorem gX5_setOf_X8_at_n42 : GoodIn wsX5_setOf (wsX8_at) := ggX5_setOf_X8_at
set_option maxRecDepth 20000 in
theorem ggX5_setOf_X8_bit : GoodIn wsX5_setOf wsX8_bit := goodIn_r _ [7] (by decide +kernel) (by decide +kernel)
set_option maxRecDepth 20000 in
theorem gX5_setOf_X8_bit_n59 : GoodIn wsX5_setOf (wsX8_bit) := ggX5_setOf_X8_bit
theorem dX5_setOf_0 : decode cX5_setOf 0 = .ok (.iconst 0, 1) := by decide +kernel
theorem dX5_setOf_1 : decode cX5_setOf 1 = .ok (.istore_n 2, 1) := by decide +kernel
theorem dX5_setOf_2 : decode cX5_setOf 2 = .ok (.iconst 0, 1) := by decide +kernel
theorem dX5_setOf_3 : decode cX5_setOf 3 = .ok (.istore_n 3, 1) := by decide +kernel
theorem dX5_setOf_4 : decode cX5_setOf 4 = .ok (.iload_n 3, 1) := by decide +kernel
theorem dX5_setOf_5 : decode cX5_setOf 5 = .ok (.aload_n 0, 1) := by decide +kernel
theorem dX5_setOf_6 : decode cX5_setOf 6 = .ok (.getfield 30, 3) := by decide +kernel
theorem dX5_setOf_9 : decode cX5_setOf 9 = .ok (.if_icmp .ge 28, 3) := by decide +kernel
theorem dX5_setOf_12 : decode cX5_setOf 12 = .ok (.aload_n 0, 1) := by decide +kernel
theorem dX5_setOf_13 : decode cX5_setOf 13 = .ok (.getfield 9, 3) := by decide +kernel
theorem dX5_setOf_16 : decode cX5_setOf 16 = .ok (.iload_n 3, 1) := by decide +kernel
theorem dX5_setOf_17 : decode cX5_setOf 17 = .ok (.invokestatic 42, 3) := by decide +kernel
theorem dX5_setOf_20 : decode cX5_setOf 20 = .ok (.iload_n 1, 1) := by decide +kernel
theorem dX5_setOf_21 : decode cX5_setOf 21 = .ok (.if_icmp .ne 10, 3) := by decide +kernel
theorem dX5_setOf_24 : decode cX5_setOf 24 = .ok (.iload_n 2, 1) := by decide +kernel
theorem dX5_setOf_25 : decode cX5_setOf 25 = .ok (.iload_n 3, 1) := by decide +kernel
theorem dX5_setOf_26 : decode cX5_setOf 26 = .ok (.invokestatic 59, 3) := by decide +kernel
theorem dX5_setOf_29 : decode cX5_setOf 29 = .ok (.ior, 1) := by decide +kernel
theorem dX5_setOf_30 : decode cX5_setOf 30 = .ok (.istore_n 2, 1) := by decide +kernel
theorem dX5_setOf_31 : decode cX5_setOf 31 = .ok (.iinc 3 1, 3) := by decide +kernel
theorem dX5_setOf_34 : decode cX5_setOf 34 = .ok (.goto (-30), 3) := by decide +kernel
theorem dX5_setOf_37 : decode cX5_setOf 37 = .ok (.iload_n 2, 1) := by decide +kernel
theorem dX5_setOf_38 : decode cX5_setOf 38 = .ok (.ireturn, 1) := by decide +kernel
set_option maxRecDepth 20000 in
theorem ggX5_sumOf_X8_at : GoodIn wsX5_sumOf wsX8_at := goodIn_r _ [5] (by decide +kernel) (by decide +kernel)
set_option maxRecDepth 20000 in
theorem gX5_sumOf_X8_at_n42 : GoodIn wsX5_sumOf (wsX8_at) := ggX5_sumOf_X8_at
theorem dX5_sumOf_0 : decode cX5_sumOf 0 = .ok (.iconst 0, 1) := by decide +kernel
theorem dX5_sumOf_1 : decode cX5_sumOf 1 = .ok (.istore_n 3, 1) := by decide +kernel
theorem dX5_sumOf_2 : decode cX5_sumOf 2 = .ok (.iconst 0, 1) := by decide +kernel
theorem dX5_sumOf_3 : decode cX5_sumOf 3 = .ok (.istore 4, 2) := by decide +kernel
theorem dX5_sumOf_5 : decode cX5_sumOf 5 = .ok (.iload 4, 2) := by decide +kernel
theorem dX5_sumOf_7 : decode cX5_sumOf 7 = .ok (.aload_n 0, 1) := by decide +kernel
theorem dX5_sumOf_8 : decode cX5_sumOf 8 = .ok (.getfield 30, 3) := by decide +kernel
theorem dX5_sumOf_11 : decode cX5_sumOf 11 = .ok (.if_icmp .ge 31, 3) := by decide +kernel
theorem dX5_sumOf_14 : decode cX5_sumOf 14 = .ok (.aload_n 0, 1) := by decide +kernel
theorem dX5_sumOf_15 : decode cX5_sumOf 15 = .ok (.getfield 9, 3) := by decide +kernel
theorem dX5_sumOf_18 : decode cX5_sumOf 18 = .ok (.iload 4, 2) := by decide +kernel
theorem dX5_sumOf_20 : decode cX5_sumOf 20 = .ok (.invokestatic 42, 3) := by decide +kernel
theorem dX5_sumOf_23 : decode cX5_sumOf 23 = .ok (.iload_n 2, 1) := by decide +kernel
theorem dX5_sumOf_24 : decode cX5_sumOf 24 = .ok (.if_icmp .ne 12, 3) := by decide +kernel
theorem dX5_sumOf_27 : decode cX5_sumOf 27 = .ok (.iload_n 3, 1) := by decide +kernel
theorem dX5_sumOf_28 : decode cX5_sumOf 28 = .ok (.aload_n 1, 1) := by decide +kernel
theorem dX5_sumOf_29 : decode cX5_sumOf 29 = .ok (.iload 4, 2) := by decide +kernel
theorem dX5_sumOf_31 : decode cX5_sumOf 31 = .ok (.invokestatic 42, 3) := by decide +kernel
theorem dX5_sumOf_34 : decode cX5_sumOf 34 = .ok (.iadd, 1) := by decide +kernel
theorem dX5_sumOf_35 : decode cX5_sumOf 35 = .ok (.istore_n 3, 1) := by decide +kernel
theorem dX5_sumOf_36 : decode cX5_sumOf 36 = .ok (.iinc 4 1, 3) := by decide +kernel
theorem dX5_sumOf_39 : decode cX5_sumOf 39 = .ok (.goto (-34), 3) := by decide +kernel
theorem dX5_sumOf_42 : decode cX5_sumOf 42 = .ok (.iload_n 3, 1) := by decide +kernel
theorem dX5_sumOf_43 : decode cX5_sumOf 43 = .ok (.ireturn, 1) := by decide +kernel
set_option maxRecDepth 20000 in
theorem ggX5_placeByRust_X5_isRustier : GoodIn wsX5_placeByRust wsX5_isRustier := goodIn_r _ [6, 7, 8, 9, 10, 11, 12, 13, 14, 15, 16, 17, 18] (by decide +kernel) (by decide +kernel)
set_option maxRecDepth 20000 in
theorem gX5_placeByRust_X5_isRustier : GoodIn wsX5_placeByRust (wsV RX5 63 RX5 yX5_isRustier wsX5_isRustier) := goodIn_app (goodIn_of _ (by decide +kernel)) ggX5_placeByRust_X5_isRustier
theorem dX5_placeByRust_0 : decode cX5_placeByRust 0 = .ok (.iconst 0, 1) := by decide +kernel
theorem dX5_placeByRust_1 : decode cX5_placeByRust 1 = .ok (.istore_n 2, 1) := by decide +kernel
theorem dX5_placeByRust_2 : decode cX5_placeByRust 2 = .ok (.iconst 0, 1) := by decide +kernel
theorem dX5_placeByRust_3 : decode cX5_placeByRust 3 = .ok (.istore_n 3, 1) := by decide +kernel
theorem dX5_placeByRust_4 : decode cX5_placeByRust 4 = .ok (.iload_n 3, 1) := by decide +kernel
theorem dX5_placeByRust_5 : decode cX5_placeByRust 5 = .ok (.aload_n 0, 1) := by decide +kernel
theorem dX5_placeByRust_6 : decode cX5_placeByRust 6 = .ok (.getfield 30, 3) := by decide +kernel
theorem dX5_placeByRust_9 : decode cX5_placeByRust 9 = .ok (.if_icmp .ge 21, 3) := by decide +kernel
theorem dX5_placeByRust_12 : decode cX5_placeByRust 12 = .ok (.aload_n 0, 1) := by decide +kernel
theorem dX5_placeByRust_13 : decode cX5_placeByRust 13 = .ok (.iload_n 3, 1) := by decide +kernel
theorem dX5_placeByRust_14 : decode cX5_placeByRust 14 = .ok (.iload_n 1, 1) := by decide +kernel
theorem dX5_placeByRust_15 : decode cX5_placeByRust 15 = .ok (.invokevirtual 63, 3) := by decide +kernel
theorem dX5_placeByRust_18 : decode cX5_placeByRust 18 = .ok (.ifCond .eq 6, 3) := by decide +kernel
theorem dX5_placeByRust_21 : decode cX5_placeByRust 21 = .ok (.iinc 2 1, 3) := by decide +kernel
theorem dX5_placeByRust_24 : decode cX5_placeByRust 24 = .ok (.iinc 3 1, 3) := by decide +kernel
theorem dX5_placeByRust_27 : decode cX5_placeByRust 27 = .ok (.goto (-23), 3) := by decide +kernel
theorem dX5_placeByRust_30 : decode cX5_placeByRust 30 = .ok (.iload_n 2, 1) := by decide +kernel
theorem dX5_placeByRust_31 : decode cX5_placeByRust 31 = .ok (.ireturn, 1) := by decide +kernel
set_option maxRecDepth 20000 in
theorem ggX5_isRustier_X8_at : GoodIn wsX5_isRustier wsX8_at := goodIn_r _ [5] (by decide +kernel) (by decide +kernel)
set_option maxRecDepth 20000 in
theorem gX5_isRustier_X8_at_n42 : GoodIn wsX5_isRustier (wsX8_at) := ggX5_isRustier_X8_at
theorem dX5_isRustier_0 : decode cX5_isRustier 0 = .ok (.aload_n 0, 1) := by decide +kernel
theorem dX5_isRustier_1 : decode cX5_isRustier 1 = .ok (.getfield 18, 3) := by decide +kernel
theorem dX5_isRustier_4 : decode cX5_isRustier 4 = .ok (.iload_n 1, 1) := by decide +kernel
theorem dX5_isRustier_5 : decode cX5_isRustier 5 = .ok (.invokestatic 42, 3) := by decide +kernel
theorem dX5_isRustier_8 : decode cX5_isRustier 8 = .ok (.aload_n 0, 1) := by decide +kernel
theorem dX5_isRustier_9 : decode cX5_isRustier 9 = .ok (.getfield 18, 3) := by decide +kernel
theorem dX5_isRustier_12 : decode cX5_isRustier 12 = .ok (.iload_n 2, 1) := by decide +kernel
theorem dX5_isRustier_13 : decode cX5_isRustier 13 = .ok (.invokestatic 42, 3) := by decide +kernel
theorem dX5_isRustier_16 : decode cX5_isRustier 16 = .ok (.if_icmp .eq 28, 3) := by decide +kernel
theorem dX5_isRustier_19 : decode cX5_isRustier 19 = .ok (.aload_n 0, 1) := by decide +kernel
theorem dX5_isRustier_20 : decode cX5_isRustier 20 = .ok (.getfield 18, 3) := by decide +kernel
theorem dX5_isRustier_23 : decode cX5_isRustier 23 = .ok (.iload_n 1, 1) := by decide +kernel
theorem dX5_isRustier_24 : decode cX5_isRustier 24 = .ok (.invokestatic 42, 3) := by decide +kernel
theorem dX5_isRustier_27 : decode cX5_isRustier 27 = .ok (.aload_n 0, 1) := by decide +kernel
theorem dX5_isRustier_28 : decode cX5_isRustier 28 = .ok (.getfield 18, 3) := by decide +kernel
theorem dX5_isRustier_31 : decode cX5_isRustier 31 = .ok (.iload_n 2, 1) := by decide +kernel
theorem dX5_isRustier_32 : decode cX5_isRustier 32 = .ok (.invokestatic 42, 3) := by decide +kernel
theorem dX5_isRustier_35 : decode cX5_isRustier 35 = .ok (.if_icmp .le 7, 3) := by decide +kernel
theorem dX5_isRustier_38 : decode cX5_isRustier 38 = .ok (.iconst 1, 1) := by decide +kernel
theorem dX5_isRustier_39 : decode cX5_isRustier 39 = .ok (.goto 4, 3) := by decide +kernel
theorem dX5_isRustier_42 : decode cX5_isRustier 42 = .ok (.iconst 0, 1) := by decide +kernel
theorem dX5_isRustier_43 : decode cX5_isRustier 43 = .ok (.ireturn, 1) := by decide +kernel
theorem dX5_isRustier_44 : decode cX5_isRustier 44 = .ok (.aload_n 0, 1) := by decide +kernel
theorem dX5_isRustier_45 : decode cX5_isRustier 45 = .ok (.getfield 21, 3) := by decide +kernel
theorem dX5_isRustier_48 : decode cX5_isRustier 48 = .ok (.iload_n 1, 1) := by decide +kernel
theorem dX5_isRustier_49 : decode cX5_isRustier 49 = .ok (.invokestatic 42, 3) := by decide +kernel
theorem dX5_isRustier_52 : decode cX5_isRustier 52 = .ok (.aload_n 0, 1) := by decide +kernel
theorem dX5_isRustier_53 : decode cX5_isRustier 53 = .ok (.getfield 21, 3) := by decide +kernel
theorem dX5_isRustier_56 : decode cX5_isRustier 56 = .ok (.iload_n 2, 1) := by decide +kernel
theorem dX5_isRustier_57 : decode cX5_isRustier 57 = .ok (.invokestatic 42, 3) := by decide +kernel
theorem dX5_isRustier_60 : decode cX5_isRustier 60 = .ok (.if_icmp .eq 28, 3) := by decide +kernel
theorem dX5_isRustier_63 : decode cX5_isRustier 63 = .ok (.aload_n 0, 1) := by decide +kernel
theorem dX5_isRustier_64 : decode cX5_isRustier 64 = .ok (.getfield 21, 3) := by decide +kernel
theorem dX5_isRustier_67 : decode cX5_isRustier 67 = .ok (.iload_n 1, 1) := by decide +kernel
theorem dX5_isRustier_68 : decode cX5_isRustier 68 = .ok (.invokestatic 42, 3) := by decide +kernel
theorem dX5_isRustier_71 : decode cX5_isRustier 71 = .ok (.aload_n 0, 1) := by decide +kernel
theorem dX5_isRustier_72 : decode cX5_isRustier 72 = .ok (.getfield 21, 3) := by decide +kernel
theorem dX5_isRustier_75 : decode cX5_isRustier 75 = .ok (.iload_n 2, 1) := by decide +kernel
theorem dX5_isRustier_76 : decode cX5_isRustier 76 = .ok (.invokestatic 42, 3) := by decide +kernel
theorem dX5_isRustier_79 : decode cX5_isRustier 79 = .ok (.if_icmp .ge 7, 3) := by decide +kernel
theorem dX5_isRustier_82 : decode cX5_isRustier 82 = .ok (.iconst 1, 1) := by decide +kernel
theorem dX5_isRustier_83 : decode cX5_isRustier 83 = .ok (.goto 4, 3) := by decide +kernel
theorem dX5_isRustier_86 : decode cX5_isRustier 86 = .ok (.iconst 0, 1) := by decide +kernel
theorem dX5_isRustier_87 : decode cX5_isRustier 87 = .ok (.ireturn, 1) := by decide +kernel
theorem dX5_isRustier_88 : decode cX5_isRustier 88 = .ok (.iload_n 1, 1) := by decide +kernel
theorem dX5_isRustier_89 : decode cX5_isRustier 89 = .ok (.iload_n 2, 1) := by decide +kernel
theorem dX5_isRustier_90 : decode cX5_isRustier 90 = .ok (.if_icmp .ge 7, 3) := by decide +kernel
theorem dX5_isRustier_93 : decode cX5_isRustier 93 = .ok (.iconst 1, 1) := by decide +kernel
theorem dX5_isRustier_94 : decode cX5_isRustier 94 = .ok (.goto 4, 3) := by decide +kernel
theorem dX5_isRustier_97 : decode cX5_isRustier 97 = .ok (.iconst 0, 1) := by decide +kernel
theorem dX5_isRustier_98 : decode cX5_isRustier 98 = .ok (.ireturn, 1) := by decide +kernel
set_option maxRecDepth 20000 in
theorem ggX5_placeByAnswers_X5_isAhead : GoodIn wsX5_placeByAnswers wsX5_isAhead := goodIn_r _ [5, 6, 7, 8, 9, 4, 10, 11, 12, 13, 14, 15, 16, 17, 18, 19, 20, 21, 22, 23, 24, 25, 26, 27, 28, 29, 30, 31, 32, 33, 34, 35] (by decide +kernel) (by decide +kernel)
set_option maxRecDepth 20000 in
theorem gX5_placeByAnswers_X5_isAhead : GoodIn wsX5_placeByAnswers (wsV RX5 66 RX5 yX5_isAhead wsX5_isAhead) := goodIn_app (goodIn_of _ (by decide +kernel)) ggX5_placeByAnswers_X5_isAhead
theorem dX5_placeByAnswers_0 : decode cX5_placeByAnswers 0 = .ok (.iconst 0, 1) := by decide +kernel
theorem dX5_placeByAnswers_1 : decode cX5_placeByAnswers 1 = .ok (.istore_n 2, 1) := by decide +kernel
theorem dX5_placeByAnswers_2 : decode cX5_placeByAnswers 2 = .ok (.iconst 0, 1) := by decide +kernel
theorem dX5_placeByAnswers_3 : decode cX5_placeByAnswers 3 = .ok (.istore_n 3, 1) := by decide +kernel
theorem dX5_placeByAnswers_4 : decode cX5_placeByAnswers 4 = .ok (.iload_n 3, 1) := by decide +kernel
theorem dX5_placeByAnswers_5 : decode cX5_placeByAnswers 5 = .ok (.iconst 4, 1) := by decide +kernel
theorem dX5_placeByAnswers_6 : decode cX5_placeByAnswers 6 = .ok (.if_icmp .ge 21, 3) := by decide +kernel
theorem dX5_placeByAnswers_9 : decode cX5_placeByAnswers 9 = .ok (.aload_n 0, 1) := by decide +kernel
theorem dX5_placeByAnswers_10 : decode cX5_placeByAnswers 10 = .ok (.iload_n 3, 1) := by decide +kernel
theorem dX5_placeByAnswers_11 : decode cX5_placeByAnswers 11 = .ok (.iload_n 1, 1) := by decide +kernel
theorem dX5_placeByAnswers_12 : decode cX5_placeByAnswers 12 = .ok (.invokevirtual 66, 3) := by decide +kernel
theorem dX5_placeByAnswers_15 : decode cX5_placeByAnswers 15 = .ok (.ifCond .eq 6, 3) := by decide +kernel
theorem dX5_placeByAnswers_18 : decode cX5_placeByAnswers 18 = .ok (.iinc 2 1, 3) := by decide +kernel
theorem dX5_placeByAnswers_21 : decode cX5_placeByAnswers 21 = .ok (.iinc 3 1, 3) := by decide +kernel
theorem dX5_placeByAnswers_24 : decode cX5_placeByAnswers 24 = .ok (.goto (-20), 3) := by decide +kernel
theorem dX5_placeByAnswers_27 : decode cX5_placeByAnswers 27 = .ok (.iload_n 2, 1) := by decide +kernel
theorem dX5_placeByAnswers_28 : decode cX5_placeByAnswers 28 = .ok (.ireturn, 1) := by decide +kernel
set_option maxRecDepth 20000 in
theorem ggX5_isAhead_X5_sumOf : GoodIn wsX5_isAhead wsX5_sumOf := goodIn_r _ [6, 7, 8, 9, 10, 11, 25, 26, 27, 28, 29, 30, 31] (by decide +kernel) (by decide +kernel)
