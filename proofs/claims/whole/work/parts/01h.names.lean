theorem dX8_refuse_5 : decode cX8_refuse 5 = .ok (.aload_n 0, 1) := by decide +kernel
theorem dX8_refuse_6 : decode cX8_refuse 6 = .ok (.iload_n 2, 1) := by decide +kernel
theorem dX8_refuse_7 : decode cX8_refuse 7 = .ok (.putfield 51, 3) := by decide +kernel
theorem dX8_refuse_10 : decode cX8_refuse 10 = .ok (.sipush (-1014), 3) := by decide +kernel
theorem dX8_refuse_13 : decode cX8_refuse 13 = .ok (.ireturn, 1) := by decide +kernel
set_option maxRecDepth 20000 in
theorem ggX8_bringRope_X8_isParish : GoodIn wsX8_bringRope wsX8_isParish := goodIn_r _ [7] (by decide +kernel) (by decide +kernel)
set_option maxRecDepth 20000 in
theorem gX8_bringRope_X8_isParish : GoodIn wsX8_bringRope (va_wsS RX8 192 yX8_isParish wsX8_isParish) := goodIn_app (goodIn_of _ (by decide +kernel)) ggX8_bringRope_X8_isParish
set_option maxRecDepth 20000 in
theorem ggX8_bringRope_X8_refuse : GoodIn wsX8_bringRope wsX8_refuse := goodIn_r _ [11, 12, 13, 24, 25, 26, 27, 28, 29, 30, 31, 32] (by decide +kernel) (by decide +kernel)
set_option maxRecDepth 20000 in
theorem gX8_bringRope_X8_refuse : GoodIn wsX8_bringRope (wsV RX8 235 RX8 yX8_refuse wsX8_refuse) := goodIn_app (goodIn_of _ (by decide +kernel)) ggX8_bringRope_X8_refuse
set_option maxRecDepth 20000 in
theorem ggX8_bringRope_X5_bring : GoodIn wsX8_bringRope wsX5_bring := goodIn_r _ [18, 19, 20, 21, 22, 6, 23, 45, 46, 47, 48, 49, 50, 51] (by decide +kernel) (by decide +kernel)
set_option maxRecDepth 20000 in
theorem gX8_bringRope_X5_bring : GoodIn wsX8_bringRope (wsV RX8 300 RX5 yX5_bring wsX5_bring) := goodIn_app (goodIn_of _ (by decide +kernel)) ggX8_bringRope_X5_bring
theorem dX8_bringRope_0 : decode cX8_bringRope 0 = .ok (.iload_n 1, 1) := by decide +kernel
theorem dX8_bringRope_1 : decode cX8_bringRope 1 = .ok (.invokestatic 192, 3) := by decide +kernel
theorem dX8_bringRope_4 : decode cX8_bringRope 4 = .ok (.ifCond .ne 7, 3) := by decide +kernel
theorem dX8_bringRope_7 : decode cX8_bringRope 7 = .ok (.sipush (-1012), 3) := by decide +kernel
theorem dX8_bringRope_10 : decode cX8_bringRope 10 = .ok (.ireturn, 1) := by decide +kernel
theorem dX8_bringRope_11 : decode cX8_bringRope 11 = .ok (.aload_n 0, 1) := by decide +kernel
theorem dX8_bringRope_12 : decode cX8_bringRope 12 = .ok (.getfield 12, 3) := by decide +kernel
theorem dX8_bringRope_15 : decode cX8_bringRope 15 = .ok (.getfield 75, 3) := by decide +kernel
theorem dX8_bringRope_18 : decode cX8_bringRope 18 = .ok (.getfield 160, 3) := by decide +kernel
theorem dX8_bringRope_21 : decode cX8_bringRope 21 = .ok (.bipush 12, 2) := by decide +kernel
theorem dX8_bringRope_23 : decode cX8_bringRope 23 = .ok (.if_icmp .lt 11, 3) := by decide +kernel
theorem dX8_bringRope_26 : decode cX8_bringRope 26 = .ok (.aload_n 0, 1) := by decide +kernel
theorem dX8_bringRope_27 : decode cX8_bringRope 27 = .ok (.iconst 1, 1) := by decide +kernel
theorem dX8_bringRope_28 : decode cX8_bringRope 28 = .ok (.bipush 12, 2) := by decide +kernel
theorem dX8_bringRope_30 : decode cX8_bringRope 30 = .ok (.invokevirtual 235, 3) := by decide +kernel
theorem dX8_bringRope_33 : decode cX8_bringRope 33 = .ok (.ireturn, 1) := by decide +kernel
theorem dX8_bringRope_34 : decode cX8_bringRope 34 = .ok (.aload_n 0, 1) := by decide +kernel
theorem dX8_bringRope_35 : decode cX8_bringRope 35 = .ok (.getfield 12, 3) := by decide +kernel
theorem dX8_bringRope_38 : decode cX8_bringRope 38 = .ok (.getfield 75, 3) := by decide +kernel
theorem dX8_bringRope_41 : decode cX8_bringRope 41 = .ok (.iload_n 1, 1) := by decide +kernel
theorem dX8_bringRope_42 : decode cX8_bringRope 42 = .ok (.invokevirtual 300, 3) := by decide +kernel
theorem dX8_bringRope_45 : decode cX8_bringRope 45 = .ok (.ireturn, 1) := by decide +kernel
set_option maxRecDepth 20000 in
theorem ggX8_giveRope_X5_has : GoodIn wsX8_giveRope wsX5_has := goodIn_r _ [8, 9, 47, 48, 49, 50, 51, 52, 53] (by decide +kernel) (by decide +kernel)
set_option maxRecDepth 20000 in
theorem gX8_giveRope_X5_has : GoodIn wsX8_giveRope (wsV RX8 79 RX5 yX5_has wsX5_has) := goodIn_app (goodIn_of _ (by decide +kernel)) ggX8_giveRope_X5_has
set_option maxRecDepth 20000 in
theorem ggX8_giveRope_X8_isParish : GoodIn wsX8_giveRope wsX8_isParish := goodIn_r _ [13] (by decide +kernel) (by decide +kernel)
set_option maxRecDepth 20000 in
theorem gX8_giveRope_X8_isParish : GoodIn wsX8_giveRope (va_wsS RX8 192 yX8_isParish wsX8_isParish) := goodIn_app (goodIn_of _ (by decide +kernel)) ggX8_giveRope_X8_isParish
set_option maxRecDepth 20000 in
theorem ggX8_giveRope_X8_at : GoodIn wsX8_giveRope wsX8_at := goodIn_r _ [16] (by decide +kernel) (by decide +kernel)
set_option maxRecDepth 20000 in
theorem gX8_giveRope_X8_at : GoodIn wsX8_giveRope (va_wsS RX8 89 yX8_at wsX8_at) := goodIn_app (goodIn_of _ (by decide +kernel)) ggX8_giveRope_X8_at
set_option maxRecDepth 20000 in
theorem ggX8_giveRope_X8_refuse : GoodIn wsX8_giveRope wsX8_refuse := goodIn_r _ [20, 21, 22, 26, 27, 28, 29, 30, 31, 32, 33, 34] (by decide +kernel) (by decide +kernel)
set_option maxRecDepth 20000 in
theorem gX8_giveRope_X8_refuse : GoodIn wsX8_giveRope (wsV RX8 235 RX8 yX8_refuse wsX8_refuse) := goodIn_app (goodIn_of _ (by decide +kernel)) ggX8_giveRope_X8_refuse
set_option maxRecDepth 20000 in
theorem ggX8_giveRope_X8_put : GoodIn wsX8_giveRope wsX8_put := goodIn_r _ [25] (by decide +kernel) (by decide +kernel)
set_option maxRecDepth 20000 in
theorem gX8_giveRope_X8_put : GoodIn wsX8_giveRope (va_wsS RX8 303 yX8_put wsX8_put) := goodIn_app (goodIn_of _ (by decide +kernel)) ggX8_giveRope_X8_put
theorem dX8_giveRope_0 : decode cX8_giveRope 0 = .ok (.aload_n 0, 1) := by decide +kernel
theorem dX8_giveRope_1 : decode cX8_giveRope 1 = .ok (.getfield 12, 3) := by decide +kernel
theorem dX8_giveRope_4 : decode cX8_giveRope 4 = .ok (.getfield 75, 3) := by decide +kernel
theorem dX8_giveRope_7 : decode cX8_giveRope 7 = .ok (.iload_n 1, 1) := by decide +kernel
theorem dX8_giveRope_8 : decode cX8_giveRope 8 = .ok (.invokevirtual 79, 3) := by decide +kernel
theorem dX8_giveRope_11 : decode cX8_giveRope 11 = .ok (.ifCond .ne 7, 3) := by decide +kernel
theorem dX8_giveRope_14 : decode cX8_giveRope 14 = .ok (.sipush (-1011), 3) := by decide +kernel
theorem dX8_giveRope_17 : decode cX8_giveRope 17 = .ok (.ireturn, 1) := by decide +kernel
theorem dX8_giveRope_18 : decode cX8_giveRope 18 = .ok (.iload_n 2, 1) := by decide +kernel
theorem dX8_giveRope_19 : decode cX8_giveRope 19 = .ok (.invokestatic 192, 3) := by decide +kernel
theorem dX8_giveRope_22 : decode cX8_giveRope 22 = .ok (.ifCond .ne 7, 3) := by decide +kernel
theorem dX8_giveRope_25 : decode cX8_giveRope 25 = .ok (.sipush (-1012), 3) := by decide +kernel
theorem dX8_giveRope_28 : decode cX8_giveRope 28 = .ok (.ireturn, 1) := by decide +kernel
theorem dX8_giveRope_29 : decode cX8_giveRope 29 = .ok (.aload_n 0, 1) := by decide +kernel
theorem dX8_giveRope_30 : decode cX8_giveRope 30 = .ok (.getfield 12, 3) := by decide +kernel
theorem dX8_giveRope_33 : decode cX8_giveRope 33 = .ok (.getfield 75, 3) := by decide +kernel
theorem dX8_giveRope_36 : decode cX8_giveRope 36 = .ok (.getfield 85, 3) := by decide +kernel
theorem dX8_giveRope_39 : decode cX8_giveRope 39 = .ok (.iload_n 1, 1) := by decide +kernel
theorem dX8_giveRope_40 : decode cX8_giveRope 40 = .ok (.invokestatic 89, 3) := by decide +kernel
theorem dX8_giveRope_43 : decode cX8_giveRope 43 = .ok (.istore_n 3, 1) := by decide +kernel
theorem dX8_giveRope_44 : decode cX8_giveRope 44 = .ok (.iload_n 3, 1) := by decide +kernel
theorem dX8_giveRope_45 : decode cX8_giveRope 45 = .ok (.iload_n 2, 1) := by decide +kernel
theorem dX8_giveRope_46 : decode cX8_giveRope 46 = .ok (.if_icmp .ne 10, 3) := by decide +kernel
theorem dX8_giveRope_49 : decode cX8_giveRope 49 = .ok (.aload_n 0, 1) := by decide +kernel
theorem dX8_giveRope_50 : decode cX8_giveRope 50 = .ok (.iconst 4, 1) := by decide +kernel
theorem dX8_giveRope_51 : decode cX8_giveRope 51 = .ok (.iload_n 2, 1) := by decide +kernel
theorem dX8_giveRope_52 : decode cX8_giveRope 52 = .ok (.invokevirtual 235, 3) := by decide +kernel
theorem dX8_giveRope_55 : decode cX8_giveRope 55 = .ok (.ireturn, 1) := by decide +kernel
theorem dX8_giveRope_56 : decode cX8_giveRope 56 = .ok (.aload_n 0, 1) := by decide +kernel
theorem dX8_giveRope_57 : decode cX8_giveRope 57 = .ok (.getfield 12, 3) := by decide +kernel
theorem dX8_giveRope_60 : decode cX8_giveRope 60 = .ok (.getfield 75, 3) := by decide +kernel
theorem dX8_giveRope_63 : decode cX8_giveRope 63 = .ok (.getfield 85, 3) := by decide +kernel
theorem dX8_giveRope_66 : decode cX8_giveRope 66 = .ok (.iload_n 1, 1) := by decide +kernel
theorem dX8_giveRope_67 : decode cX8_giveRope 67 = .ok (.iload_n 2, 1) := by decide +kernel
theorem dX8_giveRope_68 : decode cX8_giveRope 68 = .ok (.invokestatic 303, 3) := by decide +kernel
theorem dX8_giveRope_71 : decode cX8_giveRope 71 = .ok (.iload_n 3, 1) := by decide +kernel
theorem dX8_giveRope_72 : decode cX8_giveRope 72 = .ok (.ireturn, 1) := by decide +kernel
set_option maxRecDepth 20000 in
theorem ggX8_switchSensor_X5_has : GoodIn wsX8_switchSensor wsX5_has := goodIn_r _ [8, 9, 47, 48, 49, 50, 51, 52, 53] (by decide +kernel) (by decide +kernel)
set_option maxRecDepth 20000 in
theorem gX8_switchSensor_X5_has : GoodIn wsX8_switchSensor (wsV RX8 79 RX5 yX5_has wsX5_has) := goodIn_app (goodIn_of _ (by decide +kernel)) ggX8_switchSensor_X5_has
set_option maxRecDepth 20000 in
theorem ggX8_switchSensor_X8_at : GoodIn wsX8_switchSensor wsX8_at := goodIn_r _ [13] (by decide +kernel) (by decide +kernel)
set_option maxRecDepth 20000 in
theorem gX8_switchSensor_X8_at : GoodIn wsX8_switchSensor (va_wsS RX8 89 yX8_at wsX8_at) := goodIn_app (goodIn_of _ (by decide +kernel)) ggX8_switchSensor_X8_at
set_option maxRecDepth 20000 in
theorem ggX8_switchSensor_X8_refuse : GoodIn wsX8_switchSensor wsX8_refuse := goodIn_r _ [17, 18, 19, 26, 27, 28, 29, 30, 31, 32, 33, 34] (by decide +kernel) (by decide +kernel)
set_option maxRecDepth 20000 in
theorem gX8_switchSensor_X8_refuse : GoodIn wsX8_switchSensor (wsV RX8 235 RX8 yX8_refuse wsX8_refuse) := goodIn_app (goodIn_of _ (by decide +kernel)) ggX8_switchSensor_X8_refuse
set_option maxRecDepth 20000 in
theorem ggX8_switchSensor_X8_put : GoodIn wsX8_switchSensor wsX8_put := goodIn_r _ [22] (by decide +kernel) (by decide +kernel)
set_option maxRecDepth 20000 in
theorem gX8_switchSensor_X8_put : GoodIn wsX8_switchSensor (va_wsS RX8 303 yX8_put wsX8_put) := goodIn_app (goodIn_of _ (by decide +kernel)) ggX8_switchSensor_X8_put
set_option maxRecDepth 20000 in
theorem ggX8_switchSensor_X8_sum : GoodIn wsX8_switchSensor wsX8_sum := goodIn_r _ [25] (by decide +kernel) (by decide +kernel)
set_option maxRecDepth 20000 in
theorem gX8_switchSensor_X8_sum : GoodIn wsX8_switchSensor (va_wsS RX8 268 yX8_sum wsX8_sum) := goodIn_app (goodIn_of _ (by decide +kernel)) ggX8_switchSensor_X8_sum
theorem dX8_switchSensor_0 : decode cX8_switchSensor 0 = .ok (.aload_n 0, 1) := by decide +kernel
theorem dX8_switchSensor_1 : decode cX8_switchSensor 1 = .ok (.getfield 12, 3) := by decide +kernel
theorem dX8_switchSensor_4 : decode cX8_switchSensor 4 = .ok (.getfield 75, 3) := by decide +kernel
theorem dX8_switchSensor_7 : decode cX8_switchSensor 7 = .ok (.iload_n 1, 1) := by decide +kernel
theorem dX8_switchSensor_8 : decode cX8_switchSensor 8 = .ok (.invokevirtual 79, 3) := by decide +kernel
theorem dX8_switchSensor_11 : decode cX8_switchSensor 11 = .ok (.ifCond .ne 7, 3) := by decide +kernel
theorem dX8_switchSensor_14 : decode cX8_switchSensor 14 = .ok (.sipush (-1011), 3) := by decide +kernel
theorem dX8_switchSensor_17 : decode cX8_switchSensor 17 = .ok (.ireturn, 1) := by decide +kernel
theorem dX8_switchSensor_18 : decode cX8_switchSensor 18 = .ok (.iload_n 2, 1) := by decide +kernel
theorem dX8_switchSensor_19 : decode cX8_switchSensor 19 = .ok (.ifCond .eq 12, 3) := by decide +kernel
theorem dX8_switchSensor_22 : decode cX8_switchSensor 22 = .ok (.iload_n 2, 1) := by decide +kernel
theorem dX8_switchSensor_23 : decode cX8_switchSensor 23 = .ok (.iconst 1, 1) := by decide +kernel
theorem dX8_switchSensor_24 : decode cX8_switchSensor 24 = .ok (.if_icmp .eq 7, 3) := by decide +kernel
theorem dX8_switchSensor_27 : decode cX8_switchSensor 27 = .ok (.sipush (-1012), 3) := by decide +kernel
theorem dX8_switchSensor_30 : decode cX8_switchSensor 30 = .ok (.ireturn, 1) := by decide +kernel
theorem dX8_switchSensor_31 : decode cX8_switchSensor 31 = .ok (.aload_n 0, 1) := by decide +kernel
theorem dX8_switchSensor_32 : decode cX8_switchSensor 32 = .ok (.getfield 12, 3) := by decide +kernel
theorem dX8_switchSensor_35 : decode cX8_switchSensor 35 = .ok (.getfield 75, 3) := by decide +kernel
theorem dX8_switchSensor_38 : decode cX8_switchSensor 38 = .ok (.getfield 93, 3) := by decide +kernel
theorem dX8_switchSensor_41 : decode cX8_switchSensor 41 = .ok (.iload_n 1, 1) := by decide +kernel
theorem dX8_switchSensor_42 : decode cX8_switchSensor 42 = .ok (.invokestatic 89, 3) := by decide +kernel
theorem dX8_switchSensor_45 : decode cX8_switchSensor 45 = .ok (.iload_n 2, 1) := by decide +kernel
theorem dX8_switchSensor_46 : decode cX8_switchSensor 46 = .ok (.if_icmp .ne 10, 3) := by decide +kernel
theorem dX8_switchSensor_49 : decode cX8_switchSensor 49 = .ok (.aload_n 0, 1) := by decide +kernel
theorem dX8_switchSensor_50 : decode cX8_switchSensor 50 = .ok (.iconst 4, 1) := by decide +kernel
theorem dX8_switchSensor_51 : decode cX8_switchSensor 51 = .ok (.iload_n 2, 1) := by decide +kernel
theorem dX8_switchSensor_52 : decode cX8_switchSensor 52 = .ok (.invokevirtual 235, 3) := by decide +kernel
theorem dX8_switchSensor_55 : decode cX8_switchSensor 55 = .ok (.ireturn, 1) := by decide +kernel
theorem dX8_switchSensor_56 : decode cX8_switchSensor 56 = .ok (.aload_n 0, 1) := by decide +kernel
theorem dX8_switchSensor_57 : decode cX8_switchSensor 57 = .ok (.getfield 12, 3) := by decide +kernel
theorem dX8_switchSensor_60 : decode cX8_switchSensor 60 = .ok (.getfield 75, 3) := by decide +kernel
theorem dX8_switchSensor_63 : decode cX8_switchSensor 63 = .ok (.getfield 93, 3) := by decide +kernel
theorem dX8_switchSensor_66 : decode cX8_switchSensor 66 = .ok (.iload_n 1, 1) := by decide +kernel
theorem dX8_switchSensor_67 : decode cX8_switchSensor 67 = .ok (.iload_n 2, 1) := by decide +kernel
theorem dX8_switchSensor_68 : decode cX8_switchSensor 68 = .ok (.invokestatic 303, 3) := by decide +kernel
theorem dX8_switchSensor_71 : decode cX8_switchSensor 71 = .ok (.aload_n 0, 1) := by decide +kernel
theorem dX8_switchSensor_72 : decode cX8_switchSensor 72 = .ok (.getfield 12, 3) := by decide +kernel
theorem dX8_switchSensor_75 : decode cX8_switchSensor 75 = .ok (.getfield 75, 3) := by decide +kernel
theorem dX8_switchSensor_78 : decode cX8_switchSensor 78 = .ok (.getfield 93, 3) := by decide +kernel
theorem dX8_switchSensor_81 : decode cX8_switchSensor 81 = .ok (.invokestatic 268, 3) := by decide +kernel
theorem dX8_switchSensor_84 : decode cX8_switchSensor 84 = .ok (.ireturn, 1) := by decide +kernel
set_option maxRecDepth 20000 in
theorem ggX8_oilRope_X5_has : GoodIn wsX8_oilRope wsX5_has := goodIn_r _ [8, 9, 44, 45, 46, 47, 48, 49, 50] (by decide +kernel) (by decide +kernel)
set_option maxRecDepth 20000 in
theorem gX8_oilRope_X5_has : GoodIn wsX8_oilRope (wsV RX8 79 RX5 yX5_has wsX5_has) := goodIn_app (goodIn_of _ (by decide +kernel)) ggX8_oilRope_X5_has
set_option maxRecDepth 20000 in
theorem ggX8_oilRope_X8_at : GoodIn wsX8_oilRope wsX8_at := goodIn_r _ [13] (by decide +kernel) (by decide +kernel)
set_option maxRecDepth 20000 in
theorem gX8_oilRope_X8_at : GoodIn wsX8_oilRope (va_wsS RX8 89 yX8_at wsX8_at) := goodIn_app (goodIn_of _ (by decide +kernel)) ggX8_oilRope_X8_at
set_option maxRecDepth 20000 in
theorem ggX8_oilRope_X8_refuse : GoodIn wsX8_oilRope wsX8_refuse := goodIn_r _ [17, 18, 19, 23, 24, 25, 26, 27, 28, 29, 30, 31] (by decide +kernel) (by decide +kernel)
set_option maxRecDepth 20000 in
theorem gX8_oilRope_X8_refuse : GoodIn wsX8_oilRope (wsV RX8 235 RX8 yX8_refuse wsX8_refuse) := goodIn_app (goodIn_of _ (by decide +kernel)) ggX8_oilRope_X8_refuse
set_option maxRecDepth 20000 in
theorem ggX8_oilRope_X8_put : GoodIn wsX8_oilRope wsX8_put := goodIn_r _ [22] (by decide +kernel) (by decide +kernel)
set_option maxRecDepth 20000 in
theorem gX8_oilRope_X8_put : GoodIn wsX8_oilRope (va_wsS RX8 303 yX8_put wsX8_put) := goodIn_app (goodIn_of _ (by decide +kernel)) ggX8_oilRope_X8_put
theorem dX8_oilRope_0 : decode cX8_oilRope 0 = .ok (.aload_n 0, 1) := by decide +kernel
theorem dX8_oilRope_1 : decode cX8_oilRope 1 = .ok (.getfield 12, 3) := by decide +kernel
theorem dX8_oilRope_4 : decode cX8_oilRope 4 = .ok (.getfield 75, 3) := by decide +kernel
theorem dX8_oilRope_7 : decode cX8_oilRope 7 = .ok (.iload_n 1, 1) := by decide +kernel
theorem dX8_oilRope_8 : decode cX8_oilRope 8 = .ok (.invokevirtual 79, 3) := by decide +kernel
theorem dX8_oilRope_11 : decode cX8_oilRope 11 = .ok (.ifCond .ne 7, 3) := by decide +kernel
theorem dX8_oilRope_14 : decode cX8_oilRope 14 = .ok (.sipush (-1011), 3) := by decide +kernel
theorem dX8_oilRope_17 : decode cX8_oilRope 17 = .ok (.ireturn, 1) := by decide +kernel
theorem dX8_oilRope_18 : decode cX8_oilRope 18 = .ok (.iload_n 2, 1) := by decide +kernel
theorem dX8_oilRope_19 : decode cX8_oilRope 19 = .ok (.iconst 1, 1) := by decide +kernel
theorem dX8_oilRope_20 : decode cX8_oilRope 20 = .ok (.if_icmp .lt 9, 3) := by decide +kernel
theorem dX8_oilRope_23 : decode cX8_oilRope 23 = .ok (.iload_n 2, 1) := by decide +kernel
theorem dX8_oilRope_24 : decode cX8_oilRope 24 = .ok (.bipush 9, 2) := by decide +kernel
theorem dX8_oilRope_26 : decode cX8_oilRope 26 = .ok (.if_icmp .le 7, 3) := by decide +kernel
theorem dX8_oilRope_29 : decode cX8_oilRope 29 = .ok (.sipush (-1012), 3) := by decide +kernel
theorem dX8_oilRope_32 : decode cX8_oilRope 32 = .ok (.ireturn, 1) := by decide +kernel
theorem dX8_oilRope_33 : decode cX8_oilRope 33 = .ok (.aload_n 0, 1) := by decide +kernel
theorem dX8_oilRope_34 : decode cX8_oilRope 34 = .ok (.getfield 12, 3) := by decide +kernel
theorem dX8_oilRope_37 : decode cX8_oilRope 37 = .ok (.getfield 75, 3) := by decide +kernel
theorem dX8_oilRope_40 : decode cX8_oilRope 40 = .ok (.getfield 96, 3) := by decide +kernel
theorem dX8_oilRope_43 : decode cX8_oilRope 43 = .ok (.iload_n 1, 1) := by decide +kernel
theorem dX8_oilRope_44 : decode cX8_oilRope 44 = .ok (.invokestatic 89, 3) := by decide +kernel
theorem dX8_oilRope_47 : decode cX8_oilRope 47 = .ok (.istore_n 3, 1) := by decide +kernel
theorem dX8_oilRope_48 : decode cX8_oilRope 48 = .ok (.iload_n 3, 1) := by decide +kernel
theorem dX8_oilRope_49 : decode cX8_oilRope 49 = .ok (.iload_n 2, 1) := by decide +kernel
theorem dX8_oilRope_50 : decode cX8_oilRope 50 = .ok (.if_icmp .ge 10, 3) := by decide +kernel
theorem dX8_oilRope_53 : decode cX8_oilRope 53 = .ok (.aload_n 0, 1) := by decide +kernel
theorem dX8_oilRope_54 : decode cX8_oilRope 54 = .ok (.iconst 5, 1) := by decide +kernel
theorem dX8_oilRope_55 : decode cX8_oilRope 55 = .ok (.iload_n 3, 1) := by decide +kernel
theorem dX8_oilRope_56 : decode cX8_oilRope 56 = .ok (.invokevirtual 235, 3) := by decide +kernel
theorem dX8_oilRope_59 : decode cX8_oilRope 59 = .ok (.ireturn, 1) := by decide +kernel
theorem dX8_oilRope_60 : decode cX8_oilRope 60 = .ok (.aload_n 0, 1) := by decide +kernel
theorem dX8_oilRope_61 : decode cX8_oilRope 61 = .ok (.getfield 12, 3) := by decide +kernel
theorem dX8_oilRope_64 : decode cX8_oilRope 64 = .ok (.getfield 75, 3) := by decide +kernel
theorem dX8_oilRope_67 : decode cX8_oilRope 67 = .ok (.getfield 96, 3) := by decide +kernel
theorem dX8_oilRope_70 : decode cX8_oilRope 70 = .ok (.iload_n 1, 1) := by decide +kernel
theorem dX8_oilRope_71 : decode cX8_oilRope 71 = .ok (.iload_n 3, 1) := by decide +kernel
theorem dX8_oilRope_72 : decode cX8_oilRope 72 = .ok (.iload_n 2, 1) := by decide +kernel
theorem dX8_oilRope_73 : decode cX8_oilRope 73 = .ok (.isub, 1) := by decide +kernel
theorem dX8_oilRope_74 : decode cX8_oilRope 74 = .ok (.invokestatic 303, 3) := by decide +kernel
theorem dX8_oilRope_77 : decode cX8_oilRope 77 = .ok (.iload_n 3, 1) := by decide +kernel
theorem dX8_oilRope_78 : decode cX8_oilRope 78 = .ok (.iload_n 2, 1) := by decide +kernel
theorem dX8_oilRope_79 : decode cX8_oilRope 79 = .ok (.isub, 1) := by decide +kernel
theorem dX8_oilRope_80 : decode cX8_oilRope 80 = .ok (.ireturn, 1) := by decide +kernel
set_option maxRecDepth 20000 in
theorem ggX8_letWait_X5_has : GoodIn wsX8_letWait wsX5_has := goodIn_r _ [11, 12, 72, 73, 74, 75, 76, 77, 78] (by decide +kernel) (by decide +kernel)
set_option maxRecDepth 20000 in
theorem gX8_letWait_X5_has : GoodIn wsX8_letWait (wsV RX8 79 RX5 yX5_has wsX5_has) := goodIn_app (goodIn_of _ (by decide +kernel)) ggX8_letWait_X5_has
set_option maxRecDepth 20000 in
theorem ggX8_letWait_X8_isHour : GoodIn wsX8_letWait wsX8_isHour := goodIn_r _ [16] (by decide +kernel) (by decide +kernel)
set_option maxRecDepth 20000 in
theorem gX8_letWait_X8_isHour : GoodIn wsX8_letWait (va_wsS RX8 180 yX8_isHour wsX8_isHour) := goodIn_app (goodIn_of _ (by decide +kernel)) ggX8_letWait_X8_isHour
set_option maxRecDepth 20000 in
theorem ggX8_letWait_X8_isStrength : GoodIn wsX8_letWait wsX8_isStrength := goodIn_r _ [19] (by decide +kernel) (by decide +kernel)
set_option maxRecDepth 20000 in
theorem gX8_letWait_X8_isStrength : GoodIn wsX8_letWait (va_wsS RX8 144 yX8_isStrength wsX8_isStrength) := goodIn_app (goodIn_of _ (by decide +kernel)) ggX8_letWait_X8_isStrength
set_option maxRecDepth 20000 in
theorem ggX8_letWait_X8_refuse : GoodIn wsX8_letWait wsX8_refuse := goodIn_r _ [23, 24, 25, 47, 48, 49, 50, 51, 52, 53, 54, 55] (by decide +kernel) (by decide +kernel)
set_option maxRecDepth 20000 in
theorem gX8_letWait_X8_refuse : GoodIn wsX8_letWait (wsV RX8 235 RX8 yX8_refuse wsX8_refuse) := goodIn_app (goodIn_of _ (by decide +kernel)) ggX8_letWait_X8_refuse
set_option maxRecDepth 20000 in
theorem ggX8_letWait_X4_insert : GoodIn wsX8_letWait wsX4_insert := goodIn_r _ [30, 31, 32, 33, 34, 35, 36, 37, 29, 38, 39, 15, 40, 41, 42, 43, 44, 45, 46, 68, 69, 70, 71] (by decide +kernel) (by decide +kernel)
set_option maxRecDepth 20000 in
theorem gX8_letWait_X4_insert : GoodIn wsX8_letWait (wsV RX8 307 RX4 yX4_insert wsX4_insert) := goodIn_app (goodIn_of _ (by decide +kernel)) ggX8_letWait_X4_insert
theorem dX8_letWait_0 : decode cX8_letWait 0 = .ok (.aload_n 0, 1) := by decide +kernel
theorem dX8_letWait_1 : decode cX8_letWait 1 = .ok (.getfield 12, 3) := by decide +kernel
theorem dX8_letWait_4 : decode cX8_letWait 4 = .ok (.getfield 75, 3) := by decide +kernel
theorem dX8_letWait_7 : decode cX8_letWait 7 = .ok (.iload_n 1, 1) := by decide +kernel
theorem dX8_letWait_8 : decode cX8_letWait 8 = .ok (.invokevirtual 79, 3) := by decide +kernel
theorem dX8_letWait_11 : decode cX8_letWait 11 = .ok (.ifCond .ne 7, 3) := by decide +kernel
theorem dX8_letWait_14 : decode cX8_letWait 14 = .ok (.sipush (-1011), 3) := by decide +kernel
theorem dX8_letWait_17 : decode cX8_letWait 17 = .ok (.ireturn, 1) := by decide +kernel
theorem dX8_letWait_18 : decode cX8_letWait 18 = .ok (.iload_n 2, 1) := by decide +kernel
theorem dX8_letWait_19 : decode cX8_letWait 19 = .ok (.invokestatic 180, 3) := by decide +kernel
theorem dX8_letWait_22 : decode cX8_letWait 22 = .ok (.ifCond .eq 10, 3) := by decide +kernel
theorem dX8_letWait_25 : decode cX8_letWait 25 = .ok (.iload_n 3, 1) := by decide +kernel
theorem dX8_letWait_26 : decode cX8_letWait 26 = .ok (.invokestatic 144, 3) := by decide +kernel
theorem dX8_letWait_29 : decode cX8_letWait 29 = .ok (.ifCond .ne 7, 3) := by decide +kernel
theorem dX8_letWait_32 : decode cX8_letWait 32 = .ok (.sipush (-1012), 3) := by decide +kernel
theorem dX8_letWait_35 : decode cX8_letWait 35 = .ok (.ireturn, 1) := by decide +kernel
theorem dX8_letWait_36 : decode cX8_letWait 36 = .ok (.iload_n 2, 1) := by decide +kernel
theorem dX8_letWait_37 : decode cX8_letWait 37 = .ok (.aload_n 0, 1) := by decide +kernel
theorem dX8_letWait_38 : decode cX8_letWait 38 = .ok (.getfield 12, 3) := by decide +kernel
theorem dX8_letWait_41 : decode cX8_letWait 41 = .ok (.getfield 252, 3) := by decide +kernel
theorem dX8_letWait_44 : decode cX8_letWait 44 = .ok (.if_icmp .ge 16, 3) := by decide +kernel
theorem dX8_letWait_47 : decode cX8_letWait 47 = .ok (.aload_n 0, 1) := by decide +kernel
theorem dX8_letWait_48 : decode cX8_letWait 48 = .ok (.iconst 2, 1) := by decide +kernel
theorem dX8_letWait_49 : decode cX8_letWait 49 = .ok (.aload_n 0, 1) := by decide +kernel
theorem dX8_letWait_50 : decode cX8_letWait 50 = .ok (.getfield 12, 3) := by decide +kernel
theorem dX8_letWait_53 : decode cX8_letWait 53 = .ok (.getfield 252, 3) := by decide +kernel
theorem dX8_letWait_56 : decode cX8_letWait 56 = .ok (.invokevirtual 235, 3) := by decide +kernel
theorem dX8_letWait_59 : decode cX8_letWait 59 = .ok (.ireturn, 1) := by decide +kernel
theorem dX8_letWait_60 : decode cX8_letWait 60 = .ok (.aload_n 0, 1) := by decide +kernel
theorem dX8_letWait_61 : decode cX8_letWait 61 = .ok (.getfield 12, 3) := by decide +kernel
theorem dX8_letWait_64 : decode cX8_letWait 64 = .ok (.getfield 108, 3) := by decide +kernel
theorem dX8_letWait_67 : decode cX8_letWait 67 = .ok (.getfield 154, 3) := by decide +kernel
theorem dX8_letWait_70 : decode cX8_letWait 70 = .ok (.bipush 16, 2) := by decide +kernel
theorem dX8_letWait_72 : decode cX8_letWait 72 = .ok (.if_icmp .lt 11, 3) := by decide +kernel
theorem dX8_letWait_75 : decode cX8_letWait 75 = .ok (.aload_n 0, 1) := by decide +kernel
theorem dX8_letWait_76 : decode cX8_letWait 76 = .ok (.iconst 1, 1) := by decide +kernel
theorem dX8_letWait_77 : decode cX8_letWait 77 = .ok (.bipush 16, 2) := by decide +kernel
theorem dX8_letWait_79 : decode cX8_letWait 79 = .ok (.invokevirtual 235, 3) := by decide +kernel
theorem dX8_letWait_82 : decode cX8_letWait 82 = .ok (.ireturn, 1) := by decide +kernel
theorem dX8_letWait_83 : decode cX8_letWait 83 = .ok (.aload_n 0, 1) := by decide +kernel
theorem dX8_letWait_84 : decode cX8_letWait 84 = .ok (.getfield 12, 3) := by decide +kernel
theorem dX8_letWait_87 : decode cX8_letWait 87 = .ok (.dup, 1) := by decide +kernel
theorem dX8_letWait_88 : decode cX8_letWait 88 = .ok (.getfield 256, 3) := by decide +kernel
theorem dX8_letWait_91 : decode cX8_letWait 91 = .ok (.iconst 1, 1) := by decide +kernel
theorem dX8_letWait_92 : decode cX8_letWait 92 = .ok (.iadd, 1) := by decide +kernel
theorem dX8_letWait_93 : decode cX8_letWait 93 = .ok (.putfield 256, 3) := by decide +kernel
theorem dX8_letWait_96 : decode cX8_letWait 96 = .ok (.aload_n 0, 1) := by decide +kernel
theorem dX8_letWait_97 : decode cX8_letWait 97 = .ok (.getfield 12, 3) := by decide +kernel
theorem dX8_letWait_100 : decode cX8_letWait 100 = .ok (.getfield 108, 3) := by decide +kernel
theorem dX8_letWait_103 : decode cX8_letWait 103 = .ok (.iload_n 1, 1) := by decide +kernel
theorem dX8_letWait_104 : decode cX8_letWait 104 = .ok (.iload_n 2, 1) := by decide +kernel
theorem dX8_letWait_105 : decode cX8_letWait 105 = .ok (.iload_n 3, 1) := by decide +kernel
theorem dX8_letWait_106 : decode cX8_letWait 106 = .ok (.invokevirtual 307, 3) := by decide +kernel
theorem dX8_letWait_109 : decode cX8_letWait 109 = .ok (.ireturn, 1) := by decide +kernel
set_option maxRecDepth 20000 in
theorem ggX8_takeAway_X5_has : GoodIn wsX8_takeAway wsX5_has := goodIn_r _ [10, 11, 73, 74, 75, 76, 77, 78, 79] (by decide +kernel) (by decide +kernel)
set_option maxRecDepth 20000 in
theorem gX8_takeAway_X5_has : GoodIn wsX8_takeAway (wsV RX8 79 RX5 yX5_has wsX5_has) := goodIn_app (goodIn_of _ (by decide +kernel)) ggX8_takeAway_X5_has
set_option maxRecDepth 20000 in
theorem ggX8_takeAway_X4_numberOf : GoodIn wsX8_takeAway wsX4_numberOf := goodIn_r _ [16, 17, 18, 19, 20, 21, 22, 15, 23, 24, 25, 26, 27, 28, 29, 69, 70, 71, 72] (by decide +kernel) (by decide +kernel)
set_option maxRecDepth 20000 in
theorem gX8_takeAway_X4_numberOf : GoodIn wsX8_takeAway (wsV RX8 112 RX4 yX4_numberOf wsX4_numberOf) := goodIn_app (goodIn_of _ (by decide +kernel)) ggX8_takeAway_X4_numberOf
set_option maxRecDepth 20000 in
theorem ggX8_takeAway_X8_refuse : GoodIn wsX8_takeAway wsX8_refuse := goodIn_r _ [33, 34, 35, 48, 49, 50, 51, 52, 53, 54, 55, 56] (by decide +kernel) (by decide +kernel)
set_option maxRecDepth 20000 in
theorem gX8_takeAway_X8_refuse : GoodIn wsX8_takeAway (wsV RX8 235 RX8 yX8_refuse wsX8_refuse) := goodIn_app (goodIn_of _ (by decide +kernel)) ggX8_takeAway_X8_refuse
set_option maxRecDepth 20000 in
theorem ggX8_takeAway_X4_removeAllOf : GoodIn wsX8_takeAway wsX4_removeAllOf := goodIn_r _ [39, 24, 25, 26, 18, 27, 40, 41, 42, 15, 43, 44, 45, 46, 47, 69, 70, 71, 72] (by decide +kernel) (by decide +kernel)
set_option maxRecDepth 20000 in
theorem gX8_takeAway_X4_removeAllOf : GoodIn wsX8_takeAway (wsV RX8 310 RX4 yX4_removeAllOf wsX4_removeAllOf) := goodIn_app (goodIn_of _ (by decide +kernel)) ggX8_takeAway_X4_removeAllOf
theorem dX8_takeAway_0 : decode cX8_takeAway 0 = .ok (.aload_n 0, 1) := by decide +kernel
theorem dX8_takeAway_1 : decode cX8_takeAway 1 = .ok (.getfield 12, 3) := by decide +kernel
theorem dX8_takeAway_4 : decode cX8_takeAway 4 = .ok (.getfield 75, 3) := by decide +kernel
theorem dX8_takeAway_7 : decode cX8_takeAway 7 = .ok (.iload_n 1, 1) := by decide +kernel
theorem dX8_takeAway_8 : decode cX8_takeAway 8 = .ok (.invokevirtual 79, 3) := by decide +kernel
theorem dX8_takeAway_11 : decode cX8_takeAway 11 = .ok (.ifCond .ne 7, 3) := by decide +kernel
theorem dX8_takeAway_14 : decode cX8_takeAway 14 = .ok (.sipush (-1011), 3) := by decide +kernel
theorem dX8_takeAway_17 : decode cX8_takeAway 17 = .ok (.ireturn, 1) := by decide +kernel
theorem dX8_takeAway_18 : decode cX8_takeAway 18 = .ok (.aload_n 0, 1) := by decide +kernel
theorem dX8_takeAway_19 : decode cX8_takeAway 19 = .ok (.getfield 12, 3) := by decide +kernel
theorem dX8_takeAway_22 : decode cX8_takeAway 22 = .ok (.getfield 108, 3) := by decide +kernel
theorem dX8_takeAway_25 : decode cX8_takeAway 25 = .ok (.iload_n 1, 1) := by decide +kernel
theorem dX8_takeAway_26 : decode cX8_takeAway 26 = .ok (.invokevirtual 112, 3) := by decide +kernel
theorem dX8_takeAway_29 : decode cX8_takeAway 29 = .ok (.istore_n 2, 1) := by decide +kernel
theorem dX8_takeAway_30 : decode cX8_takeAway 30 = .ok (.iload_n 2, 1) := by decide +kernel
theorem dX8_takeAway_31 : decode cX8_takeAway 31 = .ok (.ifCond .ne 20, 3) := by decide +kernel
theorem dX8_takeAway_34 : decode cX8_takeAway 34 = .ok (.aload_n 0, 1) := by decide +kernel
theorem dX8_takeAway_35 : decode cX8_takeAway 35 = .ok (.bipush 6, 2) := by decide +kernel
theorem dX8_takeAway_37 : decode cX8_takeAway 37 = .ok (.aload_n 0, 1) := by decide +kernel
theorem dX8_takeAway_38 : decode cX8_takeAway 38 = .ok (.getfield 12, 3) := by decide +kernel
theorem dX8_takeAway_41 : decode cX8_takeAway 41 = .ok (.getfield 108, 3) := by decide +kernel
theorem dX8_takeAway_44 : decode cX8_takeAway 44 = .ok (.getfield 154, 3) := by decide +kernel
theorem dX8_takeAway_47 : decode cX8_takeAway 47 = .ok (.invokevirtual 235, 3) := by decide +kernel
theorem dX8_takeAway_50 : decode cX8_takeAway 50 = .ok (.ireturn, 1) := by decide +kernel
theorem dX8_takeAway_51 : decode cX8_takeAway 51 = .ok (.aload_n 0, 1) := by decide +kernel
theorem dX8_takeAway_52 : decode cX8_takeAway 52 = .ok (.getfield 12, 3) := by decide +kernel
theorem dX8_takeAway_55 : decode cX8_takeAway 55 = .ok (.getfield 108, 3) := by decide +kernel
theorem dX8_takeAway_58 : decode cX8_takeAway 58 = .ok (.iload_n 1, 1) := by decide +kernel
theorem dX8_takeAway_59 : decode cX8_takeAway 59 = .ok (.invokevirtual 310, 3) := by decide +kernel
theorem dX8_takeAway_62 : decode cX8_takeAway 62 = .ok (.aload_n 0, 1) := by decide +kernel
theorem dX8_takeAway_63 : decode cX8_takeAway 63 = .ok (.getfield 12, 3) := by decide +kernel
theorem dX8_takeAway_66 : decode cX8_takeAway 66 = .ok (.dup, 1) := by decide +kernel
theorem dX8_takeAway_67 : decode cX8_takeAway 67 = .ok (.getfield 265, 3) := by decide +kernel
theorem dX8_takeAway_70 : decode cX8_takeAway 70 = .ok (.iload_n 2, 1) := by decide +kernel
theorem dX8_takeAway_71 : decode cX8_takeAway 71 = .ok (.iadd, 1) := by decide +kernel
theorem dX8_takeAway_72 : decode cX8_takeAway 72 = .ok (.putfield 265, 3) := by decide +kernel
theorem dX8_takeAway_75 : decode cX8_takeAway 75 = .ok (.aload_n 0, 1) := by decide +kernel
theorem dX8_takeAway_76 : decode cX8_takeAway 76 = .ok (.getfield 12, 3) := by decide +kernel
theorem dX8_takeAway_79 : decode cX8_takeAway 79 = .ok (.getfield 108, 3) := by decide +kernel
theorem dX8_takeAway_82 : decode cX8_takeAway 82 = .ok (.getfield 154, 3) := by decide +kernel
theorem dX8_takeAway_85 : decode cX8_takeAway 85 = .ok (.ireturn, 1) := by decide +kernel
set_option maxRecDepth 20000 in
theorem ggX8_ringNext_X7_ringFirst : GoodIn wsX8_ringNext wsX7_ringFirst := goodIn_r _ [9, 10, 11, 12, 13, 14, 15, 16, 17, 18, 19, 20, 21, 22, 23, 24, 25, 26, 27, 28, 29, 30, 31, 32, 33, 34, 35, 36, 37, 38, 39, 40, 41, 42, 43, 44, 45, 46, 47, 48, 49, 50, 51, 52, 53, 54, 55, 56, 57, 8, 58, 59, 60, 61, 62, 63, 64, 65, 66, 67, 68, 69, 70, 71, 72, 73, 74, 75, 76, 77, 78, 79, 80, 81, 82, 83, 84, 85, 86, 87, 88, 89, 90, 91, 92, 93, 109, 110, 111, 112, 113, 114, 115, 116, 117, 118, 119, 120, 121, 122, 123, 124, 125, 126, 127, 128, 129, 130, 131, 132, 133, 134, 135, 136, 137] (by decide +kernel) (by decide +kernel)
set_option maxRecDepth 20000 in
theorem gX8_ringNext_X7_ringFirst : GoodIn wsX8_ringNext (wsV RX8 157 RX7 yX7_ringFirst wsX7_ringFirst) := goodIn_app (goodIn_of _ (by decide +kernel)) ggX8_ringNext_X7_ringFirst
set_option maxRecDepth 20000 in
theorem ggX8_ringNext_X8_refuse : GoodIn wsX8_ringNext wsX8_refuse := goodIn_r _ [97, 98, 99, 100, 101, 102, 103, 104, 105, 106, 107, 108] (by decide +kernel) (by decide +kernel)
set_option maxRecDepth 20000 in
theorem gX8_ringNext_X8_refuse : GoodIn wsX8_ringNext (wsV RX8 235 RX8 yX8_refuse wsX8_refuse) := goodIn_app (goodIn_of _ (by decide +kernel)) ggX8_ringNext_X8_refuse
theorem dX8_ringNext_0 : decode cX8_ringNext 0 = .ok (.aload_n 0, 1) := by decide +kernel
theorem dX8_ringNext_1 : decode cX8_ringNext 1 = .ok (.getfield 12, 3) := by decide +kernel
theorem dX8_ringNext_4 : decode cX8_ringNext 4 = .ok (.getfield 108, 3) := by decide +kernel
theorem dX8_ringNext_7 : decode cX8_ringNext 7 = .ok (.getfield 154, 3) := by decide +kernel
theorem dX8_ringNext_10 : decode cX8_ringNext 10 = .ok (.ifCond .le 13, 3) := by decide +kernel
theorem dX8_ringNext_13 : decode cX8_ringNext 13 = .ok (.aload_n 0, 1) := by decide +kernel
theorem dX8_ringNext_14 : decode cX8_ringNext 14 = .ok (.getfield 12, 3) := by decide +kernel
theorem dX8_ringNext_17 : decode cX8_ringNext 17 = .ok (.invokevirtual 157, 3) := by decide +kernel
theorem dX8_ringNext_20 : decode cX8_ringNext 20 = .ok (.goto 15, 3) := by decide +kernel
theorem dX8_ringNext_23 : decode cX8_ringNext 23 = .ok (.aload_n 0, 1) := by decide +kernel
theorem dX8_ringNext_24 : decode cX8_ringNext 24 = .ok (.iconst 3, 1) := by decide +kernel
theorem dX8_ringNext_25 : decode cX8_ringNext 25 = .ok (.aload_n 0, 1) := by decide +kernel
theorem dX8_ringNext_26 : decode cX8_ringNext 26 = .ok (.getfield 12, 3) := by decide +kernel
theorem dX8_ringNext_29 : decode cX8_ringNext 29 = .ok (.getfield 313, 3) := by decide +kernel
theorem dX8_ringNext_32 : decode cX8_ringNext 32 = .ok (.invokevirtual 235, 3) := by decide +kernel
theorem dX8_ringNext_35 : decode cX8_ringNext 35 = .ok (.ireturn, 1) := by decide +kernel
set_option maxRecDepth 20000 in
theorem ggX8_ringHour_X8_refuse : GoodIn wsX8_ringHour wsX8_refuse := goodIn_r _ [10, 11, 12, 105, 106, 107, 108, 109, 110, 111, 112, 113] (by decide +kernel) (by decide +kernel)
set_option maxRecDepth 20000 in
theorem gX8_ringHour_X8_refuse : GoodIn wsX8_ringHour (wsV RX8 235 RX8 yX8_refuse wsX8_refuse) := goodIn_app (goodIn_of _ (by decide +kernel)) ggX8_ringHour_X8_refuse
set_option maxRecDepth 20000 in
theorem ggX8_ringHour_X8_at : GoodIn wsX8_ringHour wsX8_at := goodIn_r _ [15] (by decide +kernel) (by decide +kernel)
set_option maxRecDepth 20000 in
theorem gX8_ringHour_X8_at : GoodIn wsX8_ringHour (va_wsS RX8 89 yX8_at wsX8_at) := goodIn_app (goodIn_of _ (by decide +kernel)) ggX8_ringHour_X8_at
set_option maxRecDepth 20000 in
theorem ggX8_ringHour_X4_isNextAt : GoodIn wsX8_ringHour wsX4_isNextAt := goodIn_r _ [20, 21, 22, 14, 9, 15, 126, 127, 128, 129] (by decide +kernel) (by decide +kernel)
set_option maxRecDepth 20000 in
theorem gX8_ringHour_X4_isNextAt : GoodIn wsX8_ringHour (wsV RX8 316 RX4 yX4_isNextAt wsX4_isNextAt) := goodIn_app (goodIn_of _ (by decide +kernel)) ggX8_ringHour_X4_isNextAt
set_option maxRecDepth 20000 in
theorem ggX8_ringHour_X7_ringFirst : GoodIn wsX8_ringHour wsX7_ringFirst := goodIn_r _ [27, 28, 29, 30, 31, 32, 33, 34, 35, 36, 37, 14, 9, 15, 38, 39, 40, 19, 41, 21, 42, 43, 44, 45, 46, 47, 48, 49, 50, 22, 51, 52, 53, 54, 55, 56, 57, 13, 58, 59, 60, 61, 62, 63, 64, 65, 66, 67, 68, 26, 69, 70, 71, 72, 73, 74, 75, 76, 77, 78, 79, 80, 81, 82, 83, 84, 85, 86, 87, 88, 89, 90, 91, 92, 93, 94, 95, 96, 97, 98, 99, 100, 101, 102, 103, 104, 114, 115, 116, 117, 118, 119, 120, 121, 122, 123, 124, 125, 126, 127, 128, 129, 130, 131, 132, 133, 134, 135, 136, 137, 138, 139, 140, 141, 142] (by decide +kernel) (by decide +kernel)
set_option maxRecDepth 20000 in
theorem gX8_ringHour_X7_ringFirst : GoodIn wsX8_ringHour (wsV RX8 157 RX7 yX7_ringFirst wsX7_ringFirst) := goodIn_app (goodIn_of _ (by decide +kernel)) ggX8_ringHour_X7_ringFirst
theorem dX8_ringHour_0 : decode cX8_ringHour 0 = .ok (.aload_n 0, 1) := by decide +kernel
theorem dX8_ringHour_1 : decode cX8_ringHour 1 = .ok (.getfield 12, 3) := by decide +kernel
theorem dX8_ringHour_4 : decode cX8_ringHour 4 = .ok (.getfield 108, 3) := by decide +kernel
theorem dX8_ringHour_7 : decode cX8_ringHour 7 = .ok (.getfield 154, 3) := by decide +kernel
theorem dX8_ringHour_10 : decode cX8_ringHour 10 = .ok (.ifCond .ne 16, 3) := by decide +kernel
theorem dX8_ringHour_13 : decode cX8_ringHour 13 = .ok (.aload_n 0, 1) := by decide +kernel
theorem dX8_ringHour_14 : decode cX8_ringHour 14 = .ok (.iconst 3, 1) := by decide +kernel
theorem dX8_ringHour_15 : decode cX8_ringHour 15 = .ok (.aload_n 0, 1) := by decide +kernel
theorem dX8_ringHour_16 : decode cX8_ringHour 16 = .ok (.getfield 12, 3) := by decide +kernel
theorem dX8_ringHour_19 : decode cX8_ringHour 19 = .ok (.getfield 313, 3) := by decide +kernel
theorem dX8_ringHour_22 : decode cX8_ringHour 22 = .ok (.invokevirtual 235, 3) := by decide +kernel
theorem dX8_ringHour_25 : decode cX8_ringHour 25 = .ok (.ireturn, 1) := by decide +kernel
theorem dX8_ringHour_26 : decode cX8_ringHour 26 = .ok (.aload_n 0, 1) := by decide +kernel
theorem dX8_ringHour_27 : decode cX8_ringHour 27 = .ok (.getfield 12, 3) := by decide +kernel
theorem dX8_ringHour_30 : decode cX8_ringHour 30 = .ok (.getfield 108, 3) := by decide +kernel
theorem dX8_ringHour_33 : decode cX8_ringHour 33 = .ok (.getfield 138, 3) := by decide +kernel
theorem dX8_ringHour_36 : decode cX8_ringHour 36 = .ok (.iconst 0, 1) := by decide +kernel
theorem dX8_ringHour_37 : decode cX8_ringHour 37 = .ok (.invokestatic 89, 3) := by decide +kernel
theorem dX8_ringHour_40 : decode cX8_ringHour 40 = .ok (.istore_n 1, 1) := by decide +kernel
theorem dX8_ringHour_41 : decode cX8_ringHour 41 = .ok (.iconst 0, 1) := by decide +kernel
theorem dX8_ringHour_42 : decode cX8_ringHour 42 = .ok (.istore_n 2, 1) := by decide +kernel
theorem dX8_ringHour_43 : decode cX8_ringHour 43 = .ok (.iconst 0, 1) := by decide +kernel
theorem dX8_ringHour_44 : decode cX8_ringHour 44 = .ok (.istore_n 3, 1) := by decide +kernel
theorem dX8_ringHour_45 : decode cX8_ringHour 45 = .ok (.iload_n 3, 1) := by decide +kernel
theorem dX8_ringHour_46 : decode cX8_ringHour 46 = .ok (.bipush 16, 2) := by decide +kernel
theorem dX8_ringHour_48 : decode cX8_ringHour 48 = .ok (.if_icmp .ge 37, 3) := by decide +kernel
theorem dX8_ringHour_51 : decode cX8_ringHour 51 = .ok (.aload_n 0, 1) := by decide +kernel
theorem dX8_ringHour_52 : decode cX8_ringHour 52 = .ok (.getfield 12, 3) := by decide +kernel
theorem dX8_ringHour_55 : decode cX8_ringHour 55 = .ok (.getfield 108, 3) := by decide +kernel
theorem dX8_ringHour_58 : decode cX8_ringHour 58 = .ok (.iload_n 1, 1) := by decide +kernel
theorem dX8_ringHour_59 : decode cX8_ringHour 59 = .ok (.invokevirtual 316, 3) := by decide +kernel
theorem dX8_ringHour_62 : decode cX8_ringHour 62 = .ok (.ifCond .eq 23, 3) := by decide +kernel
theorem dX8_ringHour_65 : decode cX8_ringHour 65 = .ok (.aload_n 0, 1) := by decide +kernel
theorem dX8_ringHour_66 : decode cX8_ringHour 66 = .ok (.getfield 12, 3) := by decide +kernel
theorem dX8_ringHour_69 : decode cX8_ringHour 69 = .ok (.invokevirtual 157, 3) := by decide +kernel
theorem dX8_ringHour_72 : decode cX8_ringHour 72 = .ok (.iconst 1, 1) := by decide +kernel
theorem dX8_ringHour_73 : decode cX8_ringHour 73 = .ok (.if_icmp .ne 6, 3) := by decide +kernel
theorem dX8_ringHour_76 : decode cX8_ringHour 76 = .ok (.iinc 2 1, 3) := by decide +kernel
theorem dX8_ringHour_79 : decode cX8_ringHour 79 = .ok (.iinc 3 1, 3) := by decide +kernel
theorem dX8_ringHour_82 : decode cX8_ringHour 82 = .ok (.goto (-37), 3) := by decide +kernel
theorem dX8_ringHour_85 : decode cX8_ringHour 85 = .ok (.iload_n 2, 1) := by decide +kernel
theorem dX8_ringHour_86 : decode cX8_ringHour 86 = .ok (.ireturn, 1) := by decide +kernel
set_option maxRecDepth 20000 in
theorem ggX8_carryOut_X3_numberAt : GoodIn wsX8_carryOut wsX3_numberAt := goodIn_r _ [8, 9, 10, 11, 12, 218, 219, 220, 221] (by decide +kernel) (by decide +kernel)
set_option maxRecDepth 20000 in
theorem gX8_carryOut_X3_numberAt : GoodIn wsX8_carryOut (wsV RX8 319 RX3 yX3_numberAt wsX3_numberAt) := goodIn_app (goodIn_of _ (by decide +kernel)) ggX8_carryOut_X3_numberAt
set_option maxRecDepth 20000 in
theorem ggX8_carryOut_X8_at : GoodIn wsX8_carryOut wsX8_at := goodIn_r _ [12] (by decide +kernel) (by decide +kernel)
set_option maxRecDepth 20000 in
theorem gX8_carryOut_X8_at : GoodIn wsX8_carryOut (va_wsS RX8 89 yX8_at wsX8_at) := goodIn_app (goodIn_of _ (by decide +kernel)) ggX8_carryOut_X8_at
set_option maxRecDepth 20000 in
theorem ggX8_carryOut_X8_bringRope : GoodIn wsX8_carryOut wsX8_bringRope := goodIn_r _ [17, 3, 18, 19, 20, 21, 11, 22, 23, 24, 25, 26, 27, 28, 29, 30, 31, 32, 33, 34, 35, 36, 37, 38, 209, 210, 211, 212, 213, 214, 215, 216, 217, 222, 223, 224, 225, 226, 227, 228, 229, 230, 231, 232, 233, 234, 235, 236, 237, 238, 239, 240] (by decide +kernel) (by decide +kernel)
set_option maxRecDepth 20000 in
theorem gX8_carryOut_X8_bringRope : GoodIn wsX8_carryOut (wsV RX8 58 RX8 yX8_bringRope wsX8_bringRope) := goodIn_app (goodIn_of _ (by decide +kernel)) ggX8_carryOut_X8_bringRope
set_option maxRecDepth 20000 in
theorem ggX8_carryOut_X8_giveRope : GoodIn wsX8_carryOut wsX8_giveRope := goodIn_r _ [42, 3, 18, 43, 44, 45, 46, 32, 47, 34, 20, 21, 11, 22, 13, 10, 12, 23, 24, 25, 26, 27, 28, 48, 37, 38, 209, 210, 211, 212, 213, 214, 215, 216, 217, 222, 223, 224, 225, 226, 227, 228, 229, 230, 231, 232, 233, 234, 235, 236, 237, 238, 239, 240] (by decide +kernel) (by decide +kernel)
set_option maxRecDepth 20000 in
theorem gX8_carryOut_X8_giveRope : GoodIn wsX8_carryOut (wsV RX8 65 RX8 yX8_giveRope wsX8_giveRope) := goodIn_app (goodIn_of _ (by decide +kernel)) ggX8_carryOut_X8_giveRope
set_option maxRecDepth 20000 in
theorem ggX8_carryOut_X8_switchSensor : GoodIn wsX8_carryOut wsX8_switchSensor := goodIn_r _ [52, 3, 18, 53, 44, 45, 46, 32, 47, 34, 13, 10, 11, 12, 23, 24, 25, 26, 27, 28, 48, 37, 38, 54, 55, 56, 209, 210, 211, 212, 213, 214, 215, 216, 217, 222, 223, 224, 225, 226, 227, 228, 229, 230, 231, 232, 233, 234, 235, 236, 237, 238, 239, 240] (by decide +kernel) (by decide +kernel)
set_option maxRecDepth 20000 in
theorem gX8_carryOut_X8_switchSensor : GoodIn wsX8_carryOut (wsV RX8 69 RX8 yX8_switchSensor wsX8_switchSensor) := goodIn_app (goodIn_of _ (by decide +kernel)) ggX8_carryOut_X8_switchSensor
set_option maxRecDepth 20000 in
theorem ggX8_carryOut_X8_letWait : GoodIn wsX8_carryOut wsX8_letWait := goodIn_r _ [60, 3, 18, 61, 62, 63, 64, 44, 45, 46, 32, 47, 34, 65, 66, 11, 67, 68, 69, 70, 23, 24, 25, 26, 27, 28, 71, 72, 73, 74, 75, 76, 77, 78, 79, 80, 81, 82, 83, 10, 12, 84, 85, 86, 87, 37, 38, 209, 210, 211, 212, 213, 214, 215, 216, 217, 222, 223, 224, 225, 226, 227, 228, 229, 230, 231, 232, 233, 241, 242, 243, 244, 234, 235, 236, 237, 238, 239, 240] (by decide +kernel) (by decide +kernel)
set_option maxRecDepth 20000 in
theorem gX8_carryOut_X8_letWait : GoodIn wsX8_carryOut (wsV RX8 117 RX8 yX8_letWait wsX8_letWait) := goodIn_app (goodIn_of _ (by decide +kernel)) ggX8_carryOut_X8_letWait
set_option maxRecDepth 20000 in
theorem ggX8_carryOut_X8_takeAway : GoodIn wsX8_carryOut wsX8_takeAway := goodIn_r _ [91, 3, 18, 62, 63, 92, 44, 45, 46, 32, 47, 34, 93, 94, 95, 74, 96, 97, 11, 98, 99, 100, 101, 102, 76, 77, 10, 12, 103, 104, 23, 24, 25, 26, 27, 28, 105, 106, 107, 108, 84, 85, 86, 87, 78, 79, 37, 38, 209, 210, 211, 212, 213, 214, 215, 216, 217, 222, 223, 224, 225, 226, 227, 228, 229, 230, 231, 232, 233, 241, 242, 243, 244, 234, 235, 236, 237, 238, 239, 240] (by decide +kernel) (by decide +kernel)
set_option maxRecDepth 20000 in
theorem gX8_carryOut_X8_takeAway : GoodIn wsX8_carryOut (wsV RX8 121 RX8 yX8_takeAway wsX8_takeAway) := goodIn_app (goodIn_of _ (by decide +kernel)) ggX8_carryOut_X8_takeAway
set_option maxRecDepth 20000 in
theorem ggX8_carryOut_X8_ringNext : GoodIn wsX8_carryOut wsX8_ringNext := goodIn_r _ [112, 3, 62, 63, 113, 114, 115, 116, 117, 118, 119, 120, 121, 122, 123, 124, 125, 126, 127, 128, 10, 11, 12, 129, 130, 131, 74, 132, 76, 133, 134, 135, 136, 84, 85, 86, 87, 77, 78, 79, 37, 38, 103, 104, 137, 138, 13, 48, 139, 140, 141, 32, 142, 36, 143, 144, 145, 146, 147, 148, 149, 150, 151, 152, 153, 154, 155, 156, 157, 158, 159, 160, 161, 162, 163, 164, 97, 98, 165, 166, 167, 168, 169, 170, 171, 172, 173, 174, 175, 176, 177, 178, 179, 180, 23, 24, 25, 26, 27, 28, 209, 210, 211, 212, 213, 214, 215, 216, 217, 222, 223, 224, 225, 226, 227, 228, 229, 230, 231, 232, 233, 241, 242, 243, 244, 234, 235, 236, 237, 238, 239, 240, 245, 246, 247, 248, 249, 250] (by decide +kernel) (by decide +kernel)
set_option maxRecDepth 20000 in
theorem gX8_carryOut_X8_ringNext : GoodIn wsX8_carryOut (wsV RX8 124 RX8 yX8_ringNext wsX8_ringNext) := goodIn_app (goodIn_of _ (by decide +kernel)) ggX8_carryOut_X8_ringNext
set_option maxRecDepth 20000 in
theorem ggX8_carryOut_X8_ringHour : GoodIn wsX8_carryOut wsX8_ringHour := goodIn_r _ [184, 3, 62, 63, 113, 185, 23, 24, 25, 11, 26, 27, 28, 13, 10, 12, 186, 187, 188, 74, 189, 76, 78, 114, 115, 116, 117, 118, 119, 120, 121, 122, 123, 124, 125, 126, 127, 128, 129, 130, 131, 132, 133, 134, 135, 136, 84, 85, 86, 87, 77, 79, 37, 38, 103, 104, 137, 138, 48, 139, 140, 141, 32, 142, 36, 143, 144, 145, 146, 147, 148, 149, 150, 151, 152, 153, 154, 155, 156, 157, 158, 159, 160, 161, 162, 163, 164, 97, 98, 165, 166, 167, 168, 169, 170, 171, 172, 173, 174, 175, 176, 177, 178, 179, 180, 209, 210, 211, 212, 213, 214, 215, 216, 217, 222, 223, 224, 225, 226, 227, 228, 229, 230, 231, 232, 233, 241, 242, 243, 244, 234, 235, 236, 237, 238, 239, 240, 245, 246, 247, 248, 249, 250] (by decide +kernel) (by decide +kernel)
set_option maxRecDepth 20000 in
theorem gX8_carryOut_X8_ringHour : GoodIn wsX8_carryOut (wsV RX8 128 RX8 yX8_ringHour wsX8_ringHour) := goodIn_app (goodIn_of _ (by decide +kernel)) ggX8_carryOut_X8_ringHour
set_option maxRecDepth 20000 in
theorem ggX8_carryOut_X8_oilRope : GoodIn wsX8_carryOut wsX8_oilRope := goodIn_r _ [193, 3, 18, 194, 44, 45, 46, 32, 47, 34, 13, 10, 11, 12, 23, 24, 25, 26, 27, 28, 48, 37, 38, 209, 210, 211, 212, 213, 214, 215, 216, 217, 222, 223, 224, 225, 226, 227, 228, 229, 230, 231, 232, 233, 234, 235, 236, 237, 238, 239, 240] (by decide +kernel) (by decide +kernel)
set_option maxRecDepth 20000 in
theorem gX8_carryOut_X8_oilRope : GoodIn wsX8_carryOut (wsV RX8 72 RX8 yX8_oilRope wsX8_oilRope) := goodIn_app (goodIn_of _ (by decide +kernel)) ggX8_carryOut_X8_oilRope
set_option maxRecDepth 20000 in
theorem ggX8_carryOut_X7_endDay : GoodIn wsX8_carryOut wsX7_endDay := goodIn_r _ [198, 119, 199, 120, 127, 125, 123, 157, 10, 11, 12, 144, 145, 146, 117, 147, 148, 149, 137, 138, 13, 48, 37, 38, 200, 201, 202, 203, 204, 205, 206, 32, 207, 34, 143, 208, 134, 135, 136, 103, 104, 222, 223, 224, 225, 226, 227, 228, 229, 230, 231, 232, 233, 241, 242, 243, 244, 234, 235, 236, 237, 238, 239, 240] (by decide +kernel) (by decide +kernel)
set_option maxRecDepth 20000 in
theorem gX8_carryOut_X7_endDay : GoodIn wsX8_carryOut (wsV RX8 131 RX7 yX7_endDay wsX7_endDay) := goodIn_app (goodIn_of _ (by decide +kernel)) ggX8_carryOut_X7_endDay
theorem dX8_carryOut_0 : decode cX8_carryOut 0 = .ok (.aload_n 0, 1) := by decide +kernel
theorem dX8_carryOut_1 : decode cX8_carryOut 1 = .ok (.getfield 36, 3) := by decide +kernel
theorem dX8_carryOut_4 : decode cX8_carryOut 4 = .ok (.iload_n 1, 1) := by decide +kernel
theorem dX8_carryOut_5 : decode cX8_carryOut 5 = .ok (.iconst 0, 1) := by decide +kernel
theorem dX8_carryOut_6 : decode cX8_carryOut 6 = .ok (.invokevirtual 319, 3) := by decide +kernel
theorem dX8_carryOut_9 : decode cX8_carryOut 9 = .ok (.istore_n 2, 1) := by decide +kernel
theorem dX8_carryOut_10 : decode cX8_carryOut 10 = .ok (.aload_n 0, 1) := by decide +kernel
theorem dX8_carryOut_11 : decode cX8_carryOut 11 = .ok (.getfield 36, 3) := by decide +kernel
theorem dX8_carryOut_14 : decode cX8_carryOut 14 = .ok (.iload_n 1, 1) := by decide +kernel
theorem dX8_carryOut_15 : decode cX8_carryOut 15 = .ok (.iconst 1, 1) := by decide +kernel
theorem dX8_carryOut_16 : decode cX8_carryOut 16 = .ok (.invokevirtual 319, 3) := by decide +kernel
theorem dX8_carryOut_19 : decode cX8_carryOut 19 = .ok (.istore_n 3, 1) := by decide +kernel
theorem dX8_carryOut_20 : decode cX8_carryOut 20 = .ok (.aload_n 0, 1) := by decide +kernel
theorem dX8_carryOut_21 : decode cX8_carryOut 21 = .ok (.getfield 36, 3) := by decide +kernel
theorem dX8_carryOut_24 : decode cX8_carryOut 24 = .ok (.getfield 322, 3) := by decide +kernel
theorem dX8_carryOut_27 : decode cX8_carryOut 27 = .ok (.iload_n 1, 1) := by decide +kernel
theorem dX8_carryOut_28 : decode cX8_carryOut 28 = .ok (.invokestatic 89, 3) := by decide +kernel
theorem dX8_carryOut_31 : decode cX8_carryOut 31 = .ok (.tableswitch 152 99 118 #[129, 152, 152, 152, 152, 140, 152, 152, 152, 152, 152, 135, 145, 113, 152, 93, 106, 152, 152, 99], 93) := by decide +kernel
theorem dX8_carryOut_124 : decode cX8_carryOut 124 = .ok (.aload_n 0, 1) := by decide +kernel
theorem dX8_carryOut_125 : decode cX8_carryOut 125 = .ok (.iload_n 2, 1) := by decide +kernel
theorem dX8_carryOut_126 : decode cX8_carryOut 126 = .ok (.invokevirtual 58, 3) := by decide +kernel
theorem dX8_carryOut_129 : decode cX8_carryOut 129 = .ok (.ireturn, 1) := by decide +kernel
theorem dX8_carryOut_130 : decode cX8_carryOut 130 = .ok (.aload_n 0, 1) := by decide +kernel
theorem dX8_carryOut_131 : decode cX8_carryOut 131 = .ok (.iload_n 2, 1) := by decide +kernel
theorem dX8_carryOut_132 : decode cX8_carryOut 132 = .ok (.iload_n 3, 1) := by decide +kernel
theorem dX8_carryOut_133 : decode cX8_carryOut 133 = .ok (.invokevirtual 65, 3) := by decide +kernel
theorem dX8_carryOut_136 : decode cX8_carryOut 136 = .ok (.ireturn, 1) := by decide +kernel
theorem dX8_carryOut_137 : decode cX8_carryOut 137 = .ok (.aload_n 0, 1) := by decide +kernel
theorem dX8_carryOut_138 : decode cX8_carryOut 138 = .ok (.iload_n 2, 1) := by decide +kernel
theorem dX8_carryOut_139 : decode cX8_carryOut 139 = .ok (.iload_n 3, 1) := by decide +kernel
theorem dX8_carryOut_140 : decode cX8_carryOut 140 = .ok (.invokevirtual 69, 3) := by decide +kernel
theorem dX8_carryOut_143 : decode cX8_carryOut 143 = .ok (.ireturn, 1) := by decide +kernel
theorem dX8_carryOut_144 : decode cX8_carryOut 144 = .ok (.aload_n 0, 1) := by decide +kernel
theorem dX8_carryOut_145 : decode cX8_carryOut 145 = .ok (.iload_n 2, 1) := by decide +kernel
theorem dX8_carryOut_146 : decode cX8_carryOut 146 = .ok (.iload_n 3, 1) := by decide +kernel
theorem dX8_carryOut_147 : decode cX8_carryOut 147 = .ok (.aload_n 0, 1) := by decide +kernel
theorem dX8_carryOut_148 : decode cX8_carryOut 148 = .ok (.getfield 36, 3) := by decide +kernel
theorem dX8_carryOut_151 : decode cX8_carryOut 151 = .ok (.iload_n 1, 1) := by decide +kernel
theorem dX8_carryOut_152 : decode cX8_carryOut 152 = .ok (.iconst 2, 1) := by decide +kernel
theorem dX8_carryOut_153 : decode cX8_carryOut 153 = .ok (.invokevirtual 319, 3) := by decide +kernel
theorem dX8_carryOut_156 : decode cX8_carryOut 156 = .ok (.invokevirtual 117, 3) := by decide +kernel
theorem dX8_carryOut_159 : decode cX8_carryOut 159 = .ok (.ireturn, 1) := by decide +kernel
theorem dX8_carryOut_160 : decode cX8_carryOut 160 = .ok (.aload_n 0, 1) := by decide +kernel
theorem dX8_carryOut_161 : decode cX8_carryOut 161 = .ok (.iload_n 2, 1) := by decide +kernel
theorem dX8_carryOut_162 : decode cX8_carryOut 162 = .ok (.invokevirtual 121, 3) := by decide +kernel
theorem dX8_carryOut_165 : decode cX8_carryOut 165 = .ok (.ireturn, 1) := by decide +kernel
theorem dX8_carryOut_166 : decode cX8_carryOut 166 = .ok (.aload_n 0, 1) := by decide +kernel
theorem dX8_carryOut_167 : decode cX8_carryOut 167 = .ok (.invokevirtual 124, 3) := by decide +kernel
theorem dX8_carryOut_170 : decode cX8_carryOut 170 = .ok (.ireturn, 1) := by decide +kernel
theorem dX8_carryOut_171 : decode cX8_carryOut 171 = .ok (.aload_n 0, 1) := by decide +kernel
theorem dX8_carryOut_172 : decode cX8_carryOut 172 = .ok (.invokevirtual 128, 3) := by decide +kernel
theorem dX8_carryOut_175 : decode cX8_carryOut 175 = .ok (.ireturn, 1) := by decide +kernel
theorem dX8_carryOut_176 : decode cX8_carryOut 176 = .ok (.aload_n 0, 1) := by decide +kernel
theorem dX8_carryOut_177 : decode cX8_carryOut 177 = .ok (.iload_n 2, 1) := by decide +kernel
theorem dX8_carryOut_178 : decode cX8_carryOut 178 = .ok (.iload_n 3, 1) := by decide +kernel
theorem dX8_carryOut_179 : decode cX8_carryOut 179 = .ok (.invokevirtual 72, 3) := by decide +kernel
theorem dX8_carryOut_182 : decode cX8_carryOut 182 = .ok (.ireturn, 1) := by decide +kernel
theorem dX8_carryOut_183 : decode cX8_carryOut 183 = .ok (.aload_n 0, 1) := by decide +kernel
theorem dX8_carryOut_184 : decode cX8_carryOut 184 = .ok (.getfield 12, 3) := by decide +kernel
theorem dX8_carryOut_187 : decode cX8_carryOut 187 = .ok (.invokevirtual 131, 3) := by decide +kernel
theorem dX8_carryOut_190 : decode cX8_carryOut 190 = .ok (.ireturn, 1) := by decide +kernel
set_option maxRecDepth 20000 in
theorem ggX8_hoursGuessed_X8_guess : GoodIn wsX8_hoursGuessed wsX8_guess := goodIn_r _ [5, 6, 7, 8, 9, 10, 4, 11, 12, 13, 14, 15, 16, 17, 18, 19, 20, 21, 22, 23, 24, 25, 26, 27, 28, 29, 30, 31, 32, 33, 34, 35, 36, 37, 38, 39, 40, 41, 42, 43, 44, 45, 46, 47, 48, 49, 50, 51, 52, 53, 54, 55, 56, 57, 58, 59, 60, 61, 62] (by decide +kernel) (by decide +kernel)
set_option maxRecDepth 20000 in
theorem gX8_hoursGuessed_X8_guess : GoodIn wsX8_hoursGuessed (wsV RX8 325 RX8 yX8_guess wsX8_guess) := goodIn_app (goodIn_of _ (by decide +kernel)) ggX8_hoursGuessed_X8_guess
theorem dX8_hoursGuessed_0 : decode cX8_hoursGuessed 0 = .ok (.iconst 0, 1) := by decide +kernel
theorem dX8_hoursGuessed_1 : decode cX8_hoursGuessed 1 = .ok (.istore_n 2, 1) := by decide +kernel
theorem dX8_hoursGuessed_2 : decode cX8_hoursGuessed 2 = .ok (.iconst 0, 1) := by decide +kernel
theorem dX8_hoursGuessed_3 : decode cX8_hoursGuessed 3 = .ok (.istore_n 3, 1) := by decide +kernel
theorem dX8_hoursGuessed_4 : decode cX8_hoursGuessed 4 = .ok (.iload_n 3, 1) := by decide +kernel
theorem dX8_hoursGuessed_5 : decode cX8_hoursGuessed 5 = .ok (.bipush 24, 2) := by decide +kernel
theorem dX8_hoursGuessed_7 : decode cX8_hoursGuessed 7 = .ok (.if_icmp .ge 21, 3) := by decide +kernel
theorem dX8_hoursGuessed_10 : decode cX8_hoursGuessed 10 = .ok (.aload_n 0, 1) := by decide +kernel
theorem dX8_hoursGuessed_11 : decode cX8_hoursGuessed 11 = .ok (.iload_n 3, 1) := by decide +kernel
theorem dX8_hoursGuessed_12 : decode cX8_hoursGuessed 12 = .ok (.invokevirtual 325, 3) := by decide +kernel
theorem dX8_hoursGuessed_15 : decode cX8_hoursGuessed 15 = .ok (.iload_n 1, 1) := by decide +kernel
theorem dX8_hoursGuessed_16 : decode cX8_hoursGuessed 16 = .ok (.if_icmp .ne 6, 3) := by decide +kernel
theorem dX8_hoursGuessed_19 : decode cX8_hoursGuessed 19 = .ok (.iinc 2 1, 3) := by decide +kernel
theorem dX8_hoursGuessed_22 : decode cX8_hoursGuessed 22 = .ok (.iinc 3 1, 3) := by decide +kernel
theorem dX8_hoursGuessed_25 : decode cX8_hoursGuessed 25 = .ok (.goto (-21), 3) := by decide +kernel
theorem dX8_hoursGuessed_28 : decode cX8_hoursGuessed 28 = .ok (.iload_n 2, 1) := by decide +kernel
theorem dX8_hoursGuessed_29 : decode cX8_hoursGuessed 29 = .ok (.ireturn, 1) := by decide +kernel
theorem dX8_arePullsAccountedFor_0 : decode cX8_arePullsAccountedFor 0 = .ok (.aload_n 0, 1) := by decide +kernel
theorem dX8_arePullsAccountedFor_1 : decode cX8_arePullsAccountedFor 1 = .ok (.getfield 12, 3) := by decide +kernel
theorem dX8_arePullsAccountedFor_4 : decode cX8_arePullsAccountedFor 4 = .ok (.getfield 256, 3) := by decide +kernel
theorem dX8_arePullsAccountedFor_7 : decode cX8_arePullsAccountedFor 7 = .ok (.aload_n 0, 1) := by decide +kernel
theorem dX8_arePullsAccountedFor_8 : decode cX8_arePullsAccountedFor 8 = .ok (.getfield 12, 3) := by decide +kernel
theorem dX8_arePullsAccountedFor_11 : decode cX8_arePullsAccountedFor 11 = .ok (.getfield 108, 3) := by decide +kernel
theorem dX8_arePullsAccountedFor_14 : decode cX8_arePullsAccountedFor 14 = .ok (.getfield 154, 3) := by decide +kernel
theorem dX8_arePullsAccountedFor_17 : decode cX8_arePullsAccountedFor 17 = .ok (.aload_n 0, 1) := by decide +kernel
theorem dX8_arePullsAccountedFor_18 : decode cX8_arePullsAccountedFor 18 = .ok (.getfield 12, 3) := by decide +kernel
theorem dX8_arePullsAccountedFor_21 : decode cX8_arePullsAccountedFor 21 = .ok (.getfield 259, 3) := by decide +kernel
theorem dX8_arePullsAccountedFor_24 : decode cX8_arePullsAccountedFor 24 = .ok (.iadd, 1) := by decide +kernel
theorem dX8_arePullsAccountedFor_25 : decode cX8_arePullsAccountedFor 25 = .ok (.aload_n 0, 1) := by decide +kernel
theorem dX8_arePullsAccountedFor_26 : decode cX8_arePullsAccountedFor 26 = .ok (.getfield 12, 3) := by decide +kernel
theorem dX8_arePullsAccountedFor_29 : decode cX8_arePullsAccountedFor 29 = .ok (.getfield 261, 3) := by decide +kernel
theorem dX8_arePullsAccountedFor_32 : decode cX8_arePullsAccountedFor 32 = .ok (.iadd, 1) := by decide +kernel
theorem dX8_arePullsAccountedFor_33 : decode cX8_arePullsAccountedFor 33 = .ok (.aload_n 0, 1) := by decide +kernel
theorem dX8_arePullsAccountedFor_34 : decode cX8_arePullsAccountedFor 34 = .ok (.getfield 12, 3) := by decide +kernel
theorem dX8_arePullsAccountedFor_37 : decode cX8_arePullsAccountedFor 37 = .ok (.getfield 263, 3) := by decide +kernel
theorem dX8_arePullsAccountedFor_40 : decode cX8_arePullsAccountedFor 40 = .ok (.iadd, 1) := by decide +kernel
theorem dX8_arePullsAccountedFor_41 : decode cX8_arePullsAccountedFor 41 = .ok (.aload_n 0, 1) := by decide +kernel
theorem dX8_arePullsAccountedFor_42 : decode cX8_arePullsAccountedFor 42 = .ok (.getfield 12, 3) := by decide +kernel
theorem dX8_arePullsAccountedFor_45 : decode cX8_arePullsAccountedFor 45 = .ok (.getfield 265, 3) := by decide +kernel
theorem dX8_arePullsAccountedFor_48 : decode cX8_arePullsAccountedFor 48 = .ok (.iadd, 1) := by decide +kernel
theorem dX8_arePullsAccountedFor_49 : decode cX8_arePullsAccountedFor 49 = .ok (.if_icmp .ne 7, 3) := by decide +kernel
theorem dX8_arePullsAccountedFor_52 : decode cX8_arePullsAccountedFor 52 = .ok (.iconst 1, 1) := by decide +kernel
theorem dX8_arePullsAccountedFor_53 : decode cX8_arePullsAccountedFor 53 = .ok (.goto 4, 3) := by decide +kernel
theorem dX8_arePullsAccountedFor_56 : decode cX8_arePullsAccountedFor 56 = .ok (.iconst 0, 1) := by decide +kernel
theorem dX8_arePullsAccountedFor_57 : decode cX8_arePullsAccountedFor 57 = .ok (.ireturn, 1) := by decide +kernel
set_option maxRecDepth 20000 in
theorem ggX8_areRopesAccountedFor_X8_sum : GoodIn wsX8_areRopesAccountedFor wsX8_sum := goodIn_r _ [14] (by decide +kernel) (by decide +kernel)
set_option maxRecDepth 20000 in
theorem gX8_areRopesAccountedFor_X8_sum : GoodIn wsX8_areRopesAccountedFor (va_wsS RX8 268 yX8_sum wsX8_sum) := goodIn_app (goodIn_of _ (by decide +kernel)) ggX8_areRopesAccountedFor_X8_sum
set_option maxRecDepth 20000 in
theorem ggX8_areRopesAccountedFor_X5_setOfAll : GoodIn wsX8_areRopesAccountedFor wsX5_setOfAll := goodIn_r _ [19, 20, 21, 13, 22, 55, 56, 57, 58, 59, 60, 61] (by decide +kernel) (by decide +kernel)
set_option maxRecDepth 20000 in
theorem gX8_areRopesAccountedFor_X5_setOfAll : GoodIn wsX8_areRopesAccountedFor (wsV RX8 328 RX5 yX5_setOfAll wsX5_setOfAll) := goodIn_app (goodIn_of _ (by decide +kernel)) ggX8_areRopesAccountedFor_X5_setOfAll
set_option maxRecDepth 20000 in
theorem ggX8_areRopesAccountedFor_X4_numberIn : GoodIn wsX8_areRopesAccountedFor wsX4_numberIn := goodIn_r _ [27, 28, 29, 30, 13, 31, 32, 33, 62, 63, 64, 65] (by decide +kernel) (by decide +kernel)
set_option maxRecDepth 20000 in
theorem gX8_areRopesAccountedFor_X4_numberIn : GoodIn wsX8_areRopesAccountedFor (wsV RX8 209 RX4 yX4_numberIn wsX4_numberIn) := goodIn_app (goodIn_of _ (by decide +kernel)) ggX8_areRopesAccountedFor_X4_numberIn
theorem dX8_areRopesAccountedFor_0 : decode cX8_areRopesAccountedFor 0 = .ok (.aload_n 0, 1) := by decide +kernel
theorem dX8_areRopesAccountedFor_1 : decode cX8_areRopesAccountedFor 1 = .ok (.getfield 12, 3) := by decide +kernel
theorem dX8_areRopesAccountedFor_4 : decode cX8_areRopesAccountedFor 4 = .ok (.getfield 75, 3) := by decide +kernel
theorem dX8_areRopesAccountedFor_7 : decode cX8_areRopesAccountedFor 7 = .ok (.getfield 99, 3) := by decide +kernel
theorem dX8_areRopesAccountedFor_10 : decode cX8_areRopesAccountedFor 10 = .ok (.invokestatic 268, 3) := by decide +kernel
theorem dX8_areRopesAccountedFor_13 : decode cX8_areRopesAccountedFor 13 = .ok (.aload_n 0, 1) := by decide +kernel
theorem dX8_areRopesAccountedFor_14 : decode cX8_areRopesAccountedFor 14 = .ok (.getfield 12, 3) := by decide +kernel
theorem dX8_areRopesAccountedFor_17 : decode cX8_areRopesAccountedFor 17 = .ok (.getfield 259, 3) := by decide +kernel
theorem dX8_areRopesAccountedFor_20 : decode cX8_areRopesAccountedFor 20 = .ok (.if_icmp .ne 86, 3) := by decide +kernel
theorem dX8_areRopesAccountedFor_23 : decode cX8_areRopesAccountedFor 23 = .ok (.aload_n 0, 1) := by decide +kernel
theorem dX8_areRopesAccountedFor_24 : decode cX8_areRopesAccountedFor 24 = .ok (.getfield 12, 3) := by decide +kernel
theorem dX8_areRopesAccountedFor_27 : decode cX8_areRopesAccountedFor 27 = .ok (.getfield 75, 3) := by decide +kernel
theorem dX8_areRopesAccountedFor_30 : decode cX8_areRopesAccountedFor 30 = .ok (.getfield 102, 3) := by decide +kernel
theorem dX8_areRopesAccountedFor_33 : decode cX8_areRopesAccountedFor 33 = .ok (.invokestatic 268, 3) := by decide +kernel
theorem dX8_areRopesAccountedFor_36 : decode cX8_areRopesAccountedFor 36 = .ok (.aload_n 0, 1) := by decide +kernel
theorem dX8_areRopesAccountedFor_37 : decode cX8_areRopesAccountedFor 37 = .ok (.getfield 12, 3) := by decide +kernel
theorem dX8_areRopesAccountedFor_40 : decode cX8_areRopesAccountedFor 40 = .ok (.getfield 261, 3) := by decide +kernel
theorem dX8_areRopesAccountedFor_43 : decode cX8_areRopesAccountedFor 43 = .ok (.if_icmp .ne 63, 3) := by decide +kernel
theorem dX8_areRopesAccountedFor_46 : decode cX8_areRopesAccountedFor 46 = .ok (.aload_n 0, 1) := by decide +kernel
theorem dX8_areRopesAccountedFor_47 : decode cX8_areRopesAccountedFor 47 = .ok (.getfield 12, 3) := by decide +kernel
theorem dX8_areRopesAccountedFor_50 : decode cX8_areRopesAccountedFor 50 = .ok (.getfield 75, 3) := by decide +kernel
theorem dX8_areRopesAccountedFor_53 : decode cX8_areRopesAccountedFor 53 = .ok (.getfield 105, 3) := by decide +kernel
theorem dX8_areRopesAccountedFor_56 : decode cX8_areRopesAccountedFor 56 = .ok (.invokestatic 268, 3) := by decide +kernel
theorem dX8_areRopesAccountedFor_59 : decode cX8_areRopesAccountedFor 59 = .ok (.aload_n 0, 1) := by decide +kernel
theorem dX8_areRopesAccountedFor_60 : decode cX8_areRopesAccountedFor 60 = .ok (.getfield 12, 3) := by decide +kernel
theorem dX8_areRopesAccountedFor_63 : decode cX8_areRopesAccountedFor 63 = .ok (.getfield 263, 3) := by decide +kernel
theorem dX8_areRopesAccountedFor_66 : decode cX8_areRopesAccountedFor 66 = .ok (.if_icmp .ne 40, 3) := by decide +kernel
theorem dX8_areRopesAccountedFor_69 : decode cX8_areRopesAccountedFor 69 = .ok (.aload_n 0, 1) := by decide +kernel
theorem dX8_areRopesAccountedFor_70 : decode cX8_areRopesAccountedFor 70 = .ok (.getfield 12, 3) := by decide +kernel
theorem dX8_areRopesAccountedFor_73 : decode cX8_areRopesAccountedFor 73 = .ok (.getfield 108, 3) := by decide +kernel
theorem dX8_areRopesAccountedFor_76 : decode cX8_areRopesAccountedFor 76 = .ok (.aload_n 0, 1) := by decide +kernel
theorem dX8_areRopesAccountedFor_77 : decode cX8_areRopesAccountedFor 77 = .ok (.getfield 12, 3) := by decide +kernel
theorem dX8_areRopesAccountedFor_80 : decode cX8_areRopesAccountedFor 80 = .ok (.getfield 75, 3) := by decide +kernel
theorem dX8_areRopesAccountedFor_83 : decode cX8_areRopesAccountedFor 83 = .ok (.invokevirtual 328, 3) := by decide +kernel
theorem dX8_areRopesAccountedFor_86 : decode cX8_areRopesAccountedFor 86 = .ok (.invokevirtual 209, 3) := by decide +kernel
theorem dX8_areRopesAccountedFor_89 : decode cX8_areRopesAccountedFor 89 = .ok (.aload_n 0, 1) := by decide +kernel
theorem dX8_areRopesAccountedFor_90 : decode cX8_areRopesAccountedFor 90 = .ok (.getfield 12, 3) := by decide +kernel
theorem dX8_areRopesAccountedFor_93 : decode cX8_areRopesAccountedFor 93 = .ok (.getfield 108, 3) := by decide +kernel
theorem dX8_areRopesAccountedFor_96 : decode cX8_areRopesAccountedFor 96 = .ok (.getfield 154, 3) := by decide +kernel
theorem dX8_areRopesAccountedFor_99 : decode cX8_areRopesAccountedFor 99 = .ok (.if_icmp .ne 7, 3) := by decide +kernel
theorem dX8_areRopesAccountedFor_102 : decode cX8_areRopesAccountedFor 102 = .ok (.iconst 1, 1) := by decide +kernel
theorem dX8_areRopesAccountedFor_103 : decode cX8_areRopesAccountedFor 103 = .ok (.goto 4, 3) := by decide +kernel
theorem dX8_areRopesAccountedFor_106 : decode cX8_areRopesAccountedFor 106 = .ok (.iconst 0, 1) := by decide +kernel
theorem dX8_areRopesAccountedFor_107 : decode cX8_areRopesAccountedFor 107 = .ok (.ireturn, 1) := by decide +kernel
set_option maxRecDepth 20000 in
theorem ggX8_areGuessesTheSame_X8_guess : GoodIn wsX8_areGuessesTheSame wsX8_guess := goodIn_r _ [5, 6, 7, 8, 9, 10, 4, 11, 12, 13, 14, 15, 16, 17, 18, 19, 20, 21, 22, 23, 24, 25, 26, 27, 28, 29, 30, 31, 32, 33, 34, 57, 58, 59, 60, 61, 62, 63, 64, 65, 66, 67, 68, 69, 70, 71, 72, 73, 74, 75, 76, 77, 78, 79, 80, 81, 82, 83, 84] (by decide +kernel) (by decide +kernel)
set_option maxRecDepth 20000 in
theorem gX8_areGuessesTheSame_X8_guess : GoodIn wsX8_areGuessesTheSame (wsV RX8 325 RX8 yX8_guess wsX8_guess) := goodIn_app (goodIn_of _ (by decide +kernel)) ggX8_areGuessesTheSame_X8_guess
set_option maxRecDepth 20000 in
theorem ggX8_areGuessesTheSame_X8_guessAgain : GoodIn wsX8_areGuessesTheSame wsX8_guessAgain := goodIn_r _ [38, 6, 7, 8, 9, 10, 4, 11, 12, 13, 14, 39, 40, 41, 18, 42, 24, 25, 43, 44, 45, 46, 47, 48, 49, 50, 51, 52, 53, 54, 55, 56, 26, 27, 57, 58, 59, 60, 61, 62, 63, 64, 65, 66, 67, 68, 69, 70, 71, 72, 73, 74, 75, 76, 77, 78, 79, 80, 81, 82, 83, 84] (by decide +kernel) (by decide +kernel)
set_option maxRecDepth 20000 in
theorem gX8_areGuessesTheSame_X8_guessAgain : GoodIn wsX8_areGuessesTheSame (wsV RX8 331 RX8 yX8_guessAgain wsX8_guessAgain) := goodIn_app (goodIn_of _ (by decide +kernel)) ggX8_areGuessesTheSame_X8_guessAgain
theorem dX8_areGuessesTheSame_0 : decode cX8_areGuessesTheSame 0 = .ok (.iconst 0, 1) := by decide +kernel
theorem dX8_areGuessesTheSame_1 : decode cX8_areGuessesTheSame 1 = .ok (.istore_n 1, 1) := by decide +kernel
theorem dX8_areGuessesTheSame_2 : decode cX8_areGuessesTheSame 2 = .ok (.iload_n 1, 1) := by decide +kernel
theorem dX8_areGuessesTheSame_3 : decode cX8_areGuessesTheSame 3 = .ok (.bipush 24, 2) := by decide +kernel
theorem dX8_areGuessesTheSame_5 : decode cX8_areGuessesTheSame 5 = .ok (.if_icmp .ge 24, 3) := by decide +kernel
theorem dX8_areGuessesTheSame_8 : decode cX8_areGuessesTheSame 8 = .ok (.aload_n 0, 1) := by decide +kernel
theorem dX8_areGuessesTheSame_9 : decode cX8_areGuessesTheSame 9 = .ok (.iload_n 1, 1) := by decide +kernel
theorem dX8_areGuessesTheSame_10 : decode cX8_areGuessesTheSame 10 = .ok (.invokevirtual 325, 3) := by decide +kernel
theorem dX8_areGuessesTheSame_13 : decode cX8_areGuessesTheSame 13 = .ok (.aload_n 0, 1) := by decide +kernel
theorem dX8_areGuessesTheSame_14 : decode cX8_areGuessesTheSame 14 = .ok (.iload_n 1, 1) := by decide +kernel
theorem dX8_areGuessesTheSame_15 : decode cX8_areGuessesTheSame 15 = .ok (.invokevirtual 331, 3) := by decide +kernel
theorem dX8_areGuessesTheSame_18 : decode cX8_areGuessesTheSame 18 = .ok (.if_icmp .eq 5, 3) := by decide +kernel
theorem dX8_areGuessesTheSame_21 : decode cX8_areGuessesTheSame 21 = .ok (.iconst 0, 1) := by decide +kernel
theorem dX8_areGuessesTheSame_22 : decode cX8_areGuessesTheSame 22 = .ok (.ireturn, 1) := by decide +kernel
theorem dX8_areGuessesTheSame_23 : decode cX8_areGuessesTheSame 23 = .ok (.iinc 1 1, 3) := by decide +kernel
theorem dX8_areGuessesTheSame_26 : decode cX8_areGuessesTheSame 26 = .ok (.goto (-24), 3) := by decide +kernel
theorem dX8_areGuessesTheSame_29 : decode cX8_areGuessesTheSame 29 = .ok (.iconst 1, 1) := by decide +kernel
theorem dX8_areGuessesTheSame_30 : decode cX8_areGuessesTheSame 30 = .ok (.ireturn, 1) := by decide +kernel
set_option maxRecDepth 20000 in
theorem ggX8_tellRope_X2_writeNumber : GoodIn wsX8_tellRope wsX2_writeNumber := goodIn_r _ [11, 12, 13, 14, 10, 15, 16, 17, 18, 19, 20, 21, 22, 23, 24, 57, 58] (by decide +kernel) (by decide +kernel)
set_option maxRecDepth 20000 in
theorem gX8_tellRope_X2_writeNumber : GoodIn wsX8_tellRope (wsV RX8 334 RX2 yX2_writeNumber wsX2_writeNumber) := goodIn_app (goodIn_of _ (by decide +kernel)) ggX8_tellRope_X2_writeNumber
set_option maxRecDepth 20000 in
theorem ggX8_tellRope_X2_write : GoodIn wsX8_tellRope wsX2_write := goodIn_r _ [15, 16, 17, 18, 19, 20, 21, 22, 23, 24, 57, 58] (by decide +kernel) (by decide +kernel)
set_option maxRecDepth 20000 in
theorem gX8_tellRope_X2_write : GoodIn wsX8_tellRope (wsV RX8 337 RX2 yX2_write wsX2_write) := goodIn_app (goodIn_of _ (by decide +kernel)) ggX8_tellRope_X2_write
set_option maxRecDepth 20000 in
theorem ggX8_tellRope_X8_at : GoodIn wsX8_tellRope wsX8_at := goodIn_r _ [28] (by decide +kernel) (by decide +kernel)
set_option maxRecDepth 20000 in
theorem gX8_tellRope_X8_at : GoodIn wsX8_tellRope (va_wsS RX8 89 yX8_at wsX8_at) := goodIn_app (goodIn_of _ (by decide +kernel)) ggX8_tellRope_X8_at
theorem dX8_tellRope_0 : decode cX8_tellRope 0 = .ok (.aload_n 0, 1) := by decide +kernel
theorem dX8_tellRope_1 : decode cX8_tellRope 1 = .ok (.getfield 43, 3) := by decide +kernel
theorem dX8_tellRope_4 : decode cX8_tellRope 4 = .ok (.iload_n 1, 1) := by decide +kernel
theorem dX8_tellRope_5 : decode cX8_tellRope 5 = .ok (.invokevirtual 334, 3) := by decide +kernel
theorem dX8_tellRope_8 : decode cX8_tellRope 8 = .ok (.aload_n 0, 1) := by decide +kernel
theorem dX8_tellRope_9 : decode cX8_tellRope 9 = .ok (.getfield 43, 3) := by decide +kernel
theorem dX8_tellRope_12 : decode cX8_tellRope 12 = .ok (.bipush 58, 2) := by decide +kernel
theorem dX8_tellRope_14 : decode cX8_tellRope 14 = .ok (.invokevirtual 337, 3) := by decide +kernel
theorem dX8_tellRope_17 : decode cX8_tellRope 17 = .ok (.aload_n 0, 1) := by decide +kernel
theorem dX8_tellRope_18 : decode cX8_tellRope 18 = .ok (.getfield 43, 3) := by decide +kernel
theorem dX8_tellRope_21 : decode cX8_tellRope 21 = .ok (.aload_n 0, 1) := by decide +kernel
theorem dX8_tellRope_22 : decode cX8_tellRope 22 = .ok (.getfield 12, 3) := by decide +kernel
theorem dX8_tellRope_25 : decode cX8_tellRope 25 = .ok (.getfield 75, 3) := by decide +kernel
theorem dX8_tellRope_28 : decode cX8_tellRope 28 = .ok (.getfield 85, 3) := by decide +kernel
theorem dX8_tellRope_31 : decode cX8_tellRope 31 = .ok (.iload_n 1, 1) := by decide +kernel
theorem dX8_tellRope_32 : decode cX8_tellRope 32 = .ok (.invokestatic 89, 3) := by decide +kernel
theorem dX8_tellRope_35 : decode cX8_tellRope 35 = .ok (.invokevirtual 334, 3) := by decide +kernel
theorem dX8_tellRope_38 : decode cX8_tellRope 38 = .ok (.aload_n 0, 1) := by decide +kernel
theorem dX8_tellRope_39 : decode cX8_tellRope 39 = .ok (.getfield 12, 3) := by decide +kernel
theorem dX8_tellRope_42 : decode cX8_tellRope 42 = .ok (.getfield 75, 3) := by decide +kernel
theorem dX8_tellRope_45 : decode cX8_tellRope 45 = .ok (.getfield 93, 3) := by decide +kernel
theorem dX8_tellRope_48 : decode cX8_tellRope 48 = .ok (.iload_n 1, 1) := by decide +kernel
theorem dX8_tellRope_49 : decode cX8_tellRope 49 = .ok (.invokestatic 89, 3) := by decide +kernel
theorem dX8_tellRope_52 : decode cX8_tellRope 52 = .ok (.ifCond .ne 12, 3) := by decide +kernel
theorem dX8_tellRope_55 : decode cX8_tellRope 55 = .ok (.aload_n 0, 1) := by decide +kernel
theorem dX8_tellRope_56 : decode cX8_tellRope 56 = .ok (.getfield 43, 3) := by decide +kernel
theorem dX8_tellRope_59 : decode cX8_tellRope 59 = .ok (.bipush 35, 2) := by decide +kernel
theorem dX8_tellRope_61 : decode cX8_tellRope 61 = .ok (.invokevirtual 337, 3) := by decide +kernel
theorem dX8_tellRope_64 : decode cX8_tellRope 64 = .ok (.aload_n 0, 1) := by decide +kernel
theorem dX8_tellRope_65 : decode cX8_tellRope 65 = .ok (.getfield 12, 3) := by decide +kernel
theorem dX8_tellRope_68 : decode cX8_tellRope 68 = .ok (.getfield 75, 3) := by decide +kernel
theorem dX8_tellRope_71 : decode cX8_tellRope 71 = .ok (.getfield 96, 3) := by decide +kernel
theorem dX8_tellRope_74 : decode cX8_tellRope 74 = .ok (.iload_n 1, 1) := by decide +kernel
theorem dX8_tellRope_75 : decode cX8_tellRope 75 = .ok (.invokestatic 89, 3) := by decide +kernel
theorem dX8_tellRope_78 : decode cX8_tellRope 78 = .ok (.istore_n 2, 1) := by decide +kernel
theorem dX8_tellRope_79 : decode cX8_tellRope 79 = .ok (.iconst 0, 1) := by decide +kernel
theorem dX8_tellRope_80 : decode cX8_tellRope 80 = .ok (.istore_n 3, 1) := by decide +kernel
theorem dX8_tellRope_81 : decode cX8_tellRope 81 = .ok (.iload_n 3, 1) := by decide +kernel
theorem dX8_tellRope_82 : decode cX8_tellRope 82 = .ok (.iload_n 2, 1) := by decide +kernel
theorem dX8_tellRope_83 : decode cX8_tellRope 83 = .ok (.if_icmp .ge 18, 3) := by decide +kernel
theorem dX8_tellRope_86 : decode cX8_tellRope 86 = .ok (.aload_n 0, 1) := by decide +kernel
theorem dX8_tellRope_87 : decode cX8_tellRope 87 = .ok (.getfield 43, 3) := by decide +kernel
theorem dX8_tellRope_90 : decode cX8_tellRope 90 = .ok (.bipush 126, 2) := by decide +kernel
theorem dX8_tellRope_92 : decode cX8_tellRope 92 = .ok (.invokevirtual 337, 3) := by decide +kernel
theorem dX8_tellRope_95 : decode cX8_tellRope 95 = .ok (.iinc 3 1, 3) := by decide +kernel
theorem dX8_tellRope_98 : decode cX8_tellRope 98 = .ok (.goto (-17), 3) := by decide +kernel
theorem dX8_tellRope_101 : decode cX8_tellRope 101 = .ok (.return_, 1) := by decide +kernel
set_option maxRecDepth 20000 in
theorem ggX8_tellPulls_X8_at : GoodIn wsX8_tellPulls wsX8_at := goodIn_r _ [11] (by decide +kernel) (by decide +kernel)
set_option maxRecDepth 20000 in
theorem gX8_tellPulls_X8_at : GoodIn wsX8_tellPulls (va_wsS RX8 89 yX8_at wsX8_at) := goodIn_app (goodIn_of _ (by decide +kernel)) ggX8_tellPulls_X8_at
set_option maxRecDepth 20000 in
theorem ggX8_tellPulls_X2_write : GoodIn wsX8_tellPulls wsX2_write := goodIn_r _ [16, 17, 18, 19, 20, 21, 22, 23, 10, 24, 55, 56] (by decide +kernel) (by decide +kernel)
set_option maxRecDepth 20000 in
theorem gX8_tellPulls_X2_write : GoodIn wsX8_tellPulls (wsV RX8 337 RX2 yX2_write wsX2_write) := goodIn_app (goodIn_of _ (by decide +kernel)) ggX8_tellPulls_X2_write
set_option maxRecDepth 20000 in
theorem ggX8_tellPulls_X2_writeNumber : GoodIn wsX8_tellPulls wsX2_writeNumber := goodIn_r _ [28, 29, 13, 14, 15, 16, 17, 18, 19, 20, 21, 22, 23, 10, 24, 55, 56] (by decide +kernel) (by decide +kernel)
set_option maxRecDepth 20000 in
theorem gX8_tellPulls_X2_writeNumber : GoodIn wsX8_tellPulls (wsV RX8 334 RX2 yX2_writeNumber wsX2_writeNumber) := goodIn_app (goodIn_of _ (by decide +kernel)) ggX8_tellPulls_X2_writeNumber
theorem dX8_tellPulls_0 : decode cX8_tellPulls 0 = .ok (.iconst 0, 1) := by decide +kernel
theorem dX8_tellPulls_1 : decode cX8_tellPulls 1 = .ok (.istore_n 2, 1) := by decide +kernel
theorem dX8_tellPulls_2 : decode cX8_tellPulls 2 = .ok (.iload_n 2, 1) := by decide +kernel
theorem dX8_tellPulls_3 : decode cX8_tellPulls 3 = .ok (.aload_n 0, 1) := by decide +kernel
theorem dX8_tellPulls_4 : decode cX8_tellPulls 4 = .ok (.getfield 12, 3) := by decide +kernel
theorem dX8_tellPulls_7 : decode cX8_tellPulls 7 = .ok (.getfield 108, 3) := by decide +kernel
theorem dX8_tellPulls_10 : decode cX8_tellPulls 10 = .ok (.getfield 154, 3) := by decide +kernel
theorem dX8_tellPulls_13 : decode cX8_tellPulls 13 = .ok (.if_icmp .ge 87, 3) := by decide +kernel
theorem dX8_tellPulls_16 : decode cX8_tellPulls 16 = .ok (.aload_n 0, 1) := by decide +kernel
theorem dX8_tellPulls_17 : decode cX8_tellPulls 17 = .ok (.getfield 12, 3) := by decide +kernel
theorem dX8_tellPulls_20 : decode cX8_tellPulls 20 = .ok (.getfield 108, 3) := by decide +kernel
theorem dX8_tellPulls_23 : decode cX8_tellPulls 23 = .ok (.getfield 135, 3) := by decide +kernel
theorem dX8_tellPulls_26 : decode cX8_tellPulls 26 = .ok (.iload_n 2, 1) := by decide +kernel
theorem dX8_tellPulls_27 : decode cX8_tellPulls 27 = .ok (.invokestatic 89, 3) := by decide +kernel
theorem dX8_tellPulls_30 : decode cX8_tellPulls 30 = .ok (.iload_n 1, 1) := by decide +kernel
theorem dX8_tellPulls_31 : decode cX8_tellPulls 31 = .ok (.if_icmp .ne 63, 3) := by decide +kernel
theorem dX8_tellPulls_34 : decode cX8_tellPulls 34 = .ok (.aload_n 0, 1) := by decide +kernel
theorem dX8_tellPulls_35 : decode cX8_tellPulls 35 = .ok (.getfield 43, 3) := by decide +kernel
theorem dX8_tellPulls_38 : decode cX8_tellPulls 38 = .ok (.bipush 64, 2) := by decide +kernel
theorem dX8_tellPulls_40 : decode cX8_tellPulls 40 = .ok (.invokevirtual 337, 3) := by decide +kernel
theorem dX8_tellPulls_43 : decode cX8_tellPulls 43 = .ok (.aload_n 0, 1) := by decide +kernel
theorem dX8_tellPulls_44 : decode cX8_tellPulls 44 = .ok (.getfield 43, 3) := by decide +kernel
theorem dX8_tellPulls_47 : decode cX8_tellPulls 47 = .ok (.aload_n 0, 1) := by decide +kernel
theorem dX8_tellPulls_48 : decode cX8_tellPulls 48 = .ok (.getfield 12, 3) := by decide +kernel
theorem dX8_tellPulls_51 : decode cX8_tellPulls 51 = .ok (.getfield 108, 3) := by decide +kernel
theorem dX8_tellPulls_54 : decode cX8_tellPulls 54 = .ok (.getfield 138, 3) := by decide +kernel
theorem dX8_tellPulls_57 : decode cX8_tellPulls 57 = .ok (.iload_n 2, 1) := by decide +kernel
theorem dX8_tellPulls_58 : decode cX8_tellPulls 58 = .ok (.invokestatic 89, 3) := by decide +kernel
theorem dX8_tellPulls_61 : decode cX8_tellPulls 61 = .ok (.invokevirtual 334, 3) := by decide +kernel
theorem dX8_tellPulls_64 : decode cX8_tellPulls 64 = .ok (.aload_n 0, 1) := by decide +kernel
theorem dX8_tellPulls_65 : decode cX8_tellPulls 65 = .ok (.getfield 43, 3) := by decide +kernel
theorem dX8_tellPulls_68 : decode cX8_tellPulls 68 = .ok (.bipush 42, 2) := by decide +kernel
theorem dX8_tellPulls_70 : decode cX8_tellPulls 70 = .ok (.invokevirtual 337, 3) := by decide +kernel
theorem dX8_tellPulls_73 : decode cX8_tellPulls 73 = .ok (.aload_n 0, 1) := by decide +kernel
theorem dX8_tellPulls_74 : decode cX8_tellPulls 74 = .ok (.getfield 43, 3) := by decide +kernel
theorem dX8_tellPulls_77 : decode cX8_tellPulls 77 = .ok (.aload_n 0, 1) := by decide +kernel
theorem dX8_tellPulls_78 : decode cX8_tellPulls 78 = .ok (.getfield 12, 3) := by decide +kernel
theorem dX8_tellPulls_81 : decode cX8_tellPulls 81 = .ok (.getfield 108, 3) := by decide +kernel
theorem dX8_tellPulls_84 : decode cX8_tellPulls 84 = .ok (.getfield 141, 3) := by decide +kernel
theorem dX8_tellPulls_87 : decode cX8_tellPulls 87 = .ok (.iload_n 2, 1) := by decide +kernel
theorem dX8_tellPulls_88 : decode cX8_tellPulls 88 = .ok (.invokestatic 89, 3) := by decide +kernel
theorem dX8_tellPulls_91 : decode cX8_tellPulls 91 = .ok (.invokevirtual 334, 3) := by decide +kernel
theorem dX8_tellPulls_94 : decode cX8_tellPulls 94 = .ok (.iinc 2 1, 3) := by decide +kernel
theorem dX8_tellPulls_97 : decode cX8_tellPulls 97 = .ok (.goto (-95), 3) := by decide +kernel
theorem dX8_tellPulls_100 : decode cX8_tellPulls 100 = .ok (.return_, 1) := by decide +kernel
set_option maxRecDepth 20000 in
theorem ggX8_tellHour_X2_write : GoodIn wsX8_tellHour wsX2_write := goodIn_r _ [7, 8, 9, 10, 11, 12, 13, 14, 15, 16, 64, 65] (by decide +kernel) (by decide +kernel)
set_option maxRecDepth 20000 in
theorem gX8_tellHour_X2_write : GoodIn wsX8_tellHour (wsV RX8 337 RX2 yX2_write wsX2_write) := goodIn_app (goodIn_of _ (by decide +kernel)) ggX8_tellHour_X2_write
set_option maxRecDepth 20000 in
theorem ggX8_tellHour_X2_writeNumber : GoodIn wsX8_tellHour wsX2_writeNumber := goodIn_r _ [20, 21, 4, 5, 6, 7, 8, 9, 10, 11, 12, 13, 14, 15, 16, 64, 65] (by decide +kernel) (by decide +kernel)
set_option maxRecDepth 20000 in
theorem gX8_tellHour_X2_writeNumber : GoodIn wsX8_tellHour (wsV RX8 334 RX2 yX2_writeNumber wsX2_writeNumber) := goodIn_app (goodIn_of _ (by decide +kernel)) ggX8_tellHour_X2_writeNumber
set_option maxRecDepth 20000 in
theorem ggX8_tellHour_X8_guess : GoodIn wsX8_tellHour wsX8_guess := goodIn_r _ [25, 26, 27, 28, 29, 30, 15, 31, 32, 33, 34, 35, 36, 37, 38, 39, 40, 41, 42, 43, 44, 45, 46, 47, 48, 49, 50, 51, 52, 53, 54, 55, 56, 57, 58, 59, 60, 61, 62, 63, 66, 67, 68, 69, 70, 71, 72, 73, 74, 75, 76, 77, 78, 79, 80, 81, 82, 83, 84] (by decide +kernel) (by decide +kernel)
set_option maxRecDepth 20000 in
theorem gX8_tellHour_X8_guess : GoodIn wsX8_tellHour (wsV RX8 325 RX8 yX8_guess wsX8_guess) := goodIn_app (goodIn_of _ (by decide +kernel)) ggX8_tellHour_X8_guess
theorem dX8_tellHour_0 : decode cX8_tellHour 0 = .ok (.aload_n 0, 1) := by decide +kernel
theorem dX8_tellHour_1 : decode cX8_tellHour 1 = .ok (.getfield 43, 3) := by decide +kernel
theorem dX8_tellHour_4 : decode cX8_tellHour 4 = .ok (.getfield 238, 3) := by decide +kernel
theorem dX8_tellHour_7 : decode cX8_tellHour 7 = .ok (.ifCond .le 12, 3) := by decide +kernel
theorem dX8_tellHour_10 : decode cX8_tellHour 10 = .ok (.aload_n 0, 1) := by decide +kernel
theorem dX8_tellHour_11 : decode cX8_tellHour 11 = .ok (.getfield 43, 3) := by decide +kernel
theorem dX8_tellHour_14 : decode cX8_tellHour 14 = .ok (.bipush 32, 2) := by decide +kernel
theorem dX8_tellHour_16 : decode cX8_tellHour 16 = .ok (.invokevirtual 337, 3) := by decide +kernel
theorem dX8_tellHour_19 : decode cX8_tellHour 19 = .ok (.aload_n 0, 1) := by decide +kernel
theorem dX8_tellHour_20 : decode cX8_tellHour 20 = .ok (.getfield 43, 3) := by decide +kernel
theorem dX8_tellHour_23 : decode cX8_tellHour 23 = .ok (.iload_n 1, 1) := by decide +kernel
theorem dX8_tellHour_24 : decode cX8_tellHour 24 = .ok (.invokevirtual 334, 3) := by decide +kernel
theorem dX8_tellHour_27 : decode cX8_tellHour 27 = .ok (.aload_n 0, 1) := by decide +kernel
theorem dX8_tellHour_28 : decode cX8_tellHour 28 = .ok (.getfield 43, 3) := by decide +kernel
theorem dX8_tellHour_31 : decode cX8_tellHour 31 = .ok (.bipush 61, 2) := by decide +kernel
theorem dX8_tellHour_33 : decode cX8_tellHour 33 = .ok (.invokevirtual 337, 3) := by decide +kernel
theorem dX8_tellHour_36 : decode cX8_tellHour 36 = .ok (.aload_n 0, 1) := by decide +kernel
theorem dX8_tellHour_37 : decode cX8_tellHour 37 = .ok (.getfield 43, 3) := by decide +kernel
theorem dX8_tellHour_40 : decode cX8_tellHour 40 = .ok (.aload_n 0, 1) := by decide +kernel
theorem dX8_tellHour_41 : decode cX8_tellHour 41 = .ok (.iload_n 1, 1) := by decide +kernel
theorem dX8_tellHour_42 : decode cX8_tellHour 42 = .ok (.invokevirtual 325, 3) := by decide +kernel
theorem dX8_tellHour_45 : decode cX8_tellHour 45 = .ok (.invokevirtual 334, 3) := by decide +kernel
theorem dX8_tellHour_48 : decode cX8_tellHour 48 = .ok (.return_, 1) := by decide +kernel
theorem dX8_isParish_0 : decode cX8_isParish 0 = .ok (.iload_n 0, 1) := by decide +kernel
theorem dX8_isParish_1 : decode cX8_isParish 1 = .ok (.ifCond .lt 12, 3) := by decide +kernel
theorem dX8_isParish_4 : decode cX8_isParish 4 = .ok (.iload_n 0, 1) := by decide +kernel
theorem dX8_isParish_5 : decode cX8_isParish 5 = .ok (.iconst 4, 1) := by decide +kernel
theorem dX8_isParish_6 : decode cX8_isParish 6 = .ok (.if_icmp .ge 7, 3) := by decide +kernel
theorem dX8_isParish_9 : decode cX8_isParish 9 = .ok (.iconst 1, 1) := by decide +kernel
theorem dX8_isParish_10 : decode cX8_isParish 10 = .ok (.goto 4, 3) := by decide +kernel
theorem dX8_isParish_13 : decode cX8_isParish 13 = .ok (.iconst 0, 1) := by decide +kernel
theorem dX8_isParish_14 : decode cX8_isParish 14 = .ok (.ireturn, 1) := by decide +kernel
theorem dX8_isHour_0 : decode cX8_isHour 0 = .ok (.iload_n 0, 1) := by decide +kernel
theorem dX8_isHour_1 : decode cX8_isHour 1 = .ok (.ifCond .lt 13, 3) := by decide +kernel
theorem dX8_isHour_4 : decode cX8_isHour 4 = .ok (.iload_n 0, 1) := by decide +kernel
theorem dX8_isHour_5 : decode cX8_isHour 5 = .ok (.bipush 24, 2) := by decide +kernel
theorem dX8_isHour_7 : decode cX8_isHour 7 = .ok (.if_icmp .ge 7, 3) := by decide +kernel
theorem dX8_isHour_10 : decode cX8_isHour 10 = .ok (.iconst 1, 1) := by decide +kernel
theorem dX8_isHour_11 : decode cX8_isHour 11 = .ok (.goto 4, 3) := by decide +kernel
theorem dX8_isHour_14 : decode cX8_isHour 14 = .ok (.iconst 0, 1) := by decide +kernel
theorem dX8_isHour_15 : decode cX8_isHour 15 = .ok (.ireturn, 1) := by decide +kernel
theorem dX8_isStrength_0 : decode cX8_isStrength 0 = .ok (.iload_n 0, 1) := by decide +kernel
theorem dX8_isStrength_1 : decode cX8_isStrength 1 = .ok (.iconst 1, 1) := by decide +kernel
theorem dX8_isStrength_2 : decode cX8_isStrength 2 = .ok (.if_icmp .lt 13, 3) := by decide +kernel
theorem dX8_isStrength_5 : decode cX8_isStrength 5 = .ok (.iload_n 0, 1) := by decide +kernel
theorem dX8_isStrength_6 : decode cX8_isStrength 6 = .ok (.bipush 9, 2) := by decide +kernel
theorem dX8_isStrength_8 : decode cX8_isStrength 8 = .ok (.if_icmp .gt 7, 3) := by decide +kernel
theorem dX8_isStrength_11 : decode cX8_isStrength 11 = .ok (.iconst 1, 1) := by decide +kernel
theorem dX8_isStrength_12 : decode cX8_isStrength 12 = .ok (.goto 4, 3) := by decide +kernel
theorem dX8_isStrength_15 : decode cX8_isStrength 15 = .ok (.iconst 0, 1) := by decide +kernel
theorem dX8_isStrength_16 : decode cX8_isStrength 16 = .ok (.ireturn, 1) := by decide +kernel
theorem dX8_isDigit_0 : decode cX8_isDigit 0 = .ok (.iload_n 0, 1) := by decide +kernel
theorem dX8_isDigit_1 : decode cX8_isDigit 1 = .ok (.bipush 48, 2) := by decide +kernel
theorem dX8_isDigit_3 : decode cX8_isDigit 3 = .ok (.if_icmp .lt 13, 3) := by decide +kernel
theorem dX8_isDigit_6 : decode cX8_isDigit 6 = .ok (.iload_n 0, 1) := by decide +kernel
theorem dX8_isDigit_7 : decode cX8_isDigit 7 = .ok (.bipush 57, 2) := by decide +kernel
theorem dX8_isDigit_9 : decode cX8_isDigit 9 = .ok (.if_icmp .gt 7, 3) := by decide +kernel
theorem dX8_isDigit_12 : decode cX8_isDigit 12 = .ok (.iconst 1, 1) := by decide +kernel
theorem dX8_isDigit_13 : decode cX8_isDigit 13 = .ok (.goto 4, 3) := by decide +kernel
theorem dX8_isDigit_16 : decode cX8_isDigit 16 = .ok (.iconst 0, 1) := by decide +kernel
theorem dX8_isDigit_17 : decode cX8_isDigit 17 = .ok (.ireturn, 1) := by decide +kernel
theorem dX8_bit_0 : decode cX8_bit 0 = .ok (.iconst 1, 1) := by decide +kernel
theorem dX8_bit_1 : decode cX8_bit 1 = .ok (.iload_n 0, 1) := by decide +kernel
theorem dX8_bit_2 : decode cX8_bit 2 = .ok (.ishl, 1) := by decide +kernel
theorem dX8_bit_3 : decode cX8_bit 3 = .ok (.ireturn, 1) := by decide +kernel
theorem dX8_isIn_0 : decode cX8_isIn 0 = .ok (.iload_n 0, 1) := by decide +kernel
theorem dX8_isIn_1 : decode cX8_isIn 1 = .ok (.iload_n 1, 1) := by decide +kernel
theorem dX8_isIn_2 : decode cX8_isIn 2 = .ok (.ishr, 1) := by decide +kernel
theorem dX8_isIn_3 : decode cX8_isIn 3 = .ok (.iconst 1, 1) := by decide +kernel
theorem dX8_isIn_4 : decode cX8_isIn 4 = .ok (.iand, 1) := by decide +kernel
theorem dX8_isIn_5 : decode cX8_isIn 5 = .ok (.ifCond .eq 7, 3) := by decide +kernel
theorem dX8_isIn_8 : decode cX8_isIn 8 = .ok (.iconst 1, 1) := by decide +kernel
theorem dX8_isIn_9 : decode cX8_isIn 9 = .ok (.goto 4, 3) := by decide +kernel
theorem dX8_isIn_12 : decode cX8_isIn 12 = .ok (.iconst 0, 1) := by decide +kernel
theorem dX8_isIn_13 : decode cX8_isIn 13 = .ok (.ireturn, 1) := by decide +kernel
theorem dX8_at_0 : decode cX8_at 0 = .ok (.iload_n 1, 1) := by decide +kernel
theorem dX8_at_1 : decode cX8_at 1 = .ok (.ifCond .lt 15, 3) := by decide +kernel
theorem dX8_at_4 : decode cX8_at 4 = .ok (.iload_n 1, 1) := by decide +kernel
theorem dX8_at_5 : decode cX8_at 5 = .ok (.aload_n 0, 1) := by decide +kernel
theorem dX8_at_6 : decode cX8_at 6 = .ok (.arraylength, 1) := by decide +kernel
theorem dX8_at_7 : decode cX8_at 7 = .ok (.if_icmp .ge 9, 3) := by decide +kernel
theorem dX8_at_10 : decode cX8_at 10 = .ok (.aload_n 0, 1) := by decide +kernel
theorem dX8_at_11 : decode cX8_at 11 = .ok (.iload_n 1, 1) := by decide +kernel
theorem dX8_at_12 : decode cX8_at 12 = .ok (.iaload, 1) := by decide +kernel
theorem dX8_at_13 : decode cX8_at 13 = .ok (.goto 4, 3) := by decide +kernel
theorem dX8_at_16 : decode cX8_at 16 = .ok (.iconst 0, 1) := by decide +kernel
theorem dX8_at_17 : decode cX8_at 17 = .ok (.ireturn, 1) := by decide +kernel
theorem dX8_put_0 : decode cX8_put 0 = .ok (.iload_n 1, 1) := by decide +kernel
theorem dX8_put_1 : decode cX8_put 1 = .ok (.ifCond .lt 13, 3) := by decide +kernel
theorem dX8_put_4 : decode cX8_put 4 = .ok (.iload_n 1, 1) := by decide +kernel
theorem dX8_put_5 : decode cX8_put 5 = .ok (.aload_n 0, 1) := by decide +kernel
theorem dX8_put_6 : decode cX8_put 6 = .ok (.arraylength, 1) := by decide +kernel
theorem dX8_put_7 : decode cX8_put 7 = .ok (.if_icmp .ge 7, 3) := by decide +kernel
theorem dX8_put_10 : decode cX8_put 10 = .ok (.aload_n 0, 1) := by decide +kernel
theorem dX8_put_11 : decode cX8_put 11 = .ok (.iload_n 1, 1) := by decide +kernel
theorem dX8_put_12 : decode cX8_put 12 = .ok (.iload_n 2, 1) := by decide +kernel
theorem dX8_put_13 : decode cX8_put 13 = .ok (.iastore, 1) := by decide +kernel
theorem dX8_put_14 : decode cX8_put 14 = .ok (.return_, 1) := by decide +kernel
set_option maxRecDepth 20000 in
theorem ggX8_add_X8_at : GoodIn wsX8_add wsX8_at := goodIn_r _ [4] (by decide +kernel) (by decide +kernel)
set_option maxRecDepth 20000 in
theorem gX8_add_X8_at : GoodIn wsX8_add (va_wsS RX8 89 yX8_at wsX8_at) := goodIn_app (goodIn_of _ (by decide +kernel)) ggX8_add_X8_at
set_option maxRecDepth 20000 in
theorem ggX8_add_X8_put : GoodIn wsX8_add wsX8_put := goodIn_r _ [7] (by decide +kernel) (by decide +kernel)
set_option maxRecDepth 20000 in
theorem gX8_add_X8_put : GoodIn wsX8_add (va_wsS RX8 303 yX8_put wsX8_put) := goodIn_app (goodIn_of _ (by decide +kernel)) ggX8_add_X8_put
theorem dX8_add_0 : decode cX8_add 0 = .ok (.aload_n 0, 1) := by decide +kernel
theorem dX8_add_1 : decode cX8_add 1 = .ok (.iload_n 1, 1) := by decide +kernel
theorem dX8_add_2 : decode cX8_add 2 = .ok (.aload_n 0, 1) := by decide +kernel
theorem dX8_add_3 : decode cX8_add 3 = .ok (.iload_n 1, 1) := by decide +kernel
theorem dX8_add_4 : decode cX8_add 4 = .ok (.invokestatic 89, 3) := by decide +kernel
theorem dX8_add_7 : decode cX8_add 7 = .ok (.iload_n 2, 1) := by decide +kernel
theorem dX8_add_8 : decode cX8_add 8 = .ok (.iadd, 1) := by decide +kernel
theorem dX8_add_9 : decode cX8_add 9 = .ok (.invokestatic 303, 3) := by decide +kernel
theorem dX8_add_12 : decode cX8_add 12 = .ok (.return_, 1) := by decide +kernel
theorem dX8_sum_0 : decode cX8_sum 0 = .ok (.iconst 0, 1) := by decide +kernel
theorem dX8_sum_1 : decode cX8_sum 1 = .ok (.istore_n 1, 1) := by decide +kernel
theorem dX8_sum_2 : decode cX8_sum 2 = .ok (.aload_n 0, 1) := by decide +kernel
theorem dX8_sum_3 : decode cX8_sum 3 = .ok (.astore_n 2, 1) := by decide +kernel
theorem dX8_sum_4 : decode cX8_sum 4 = .ok (.aload_n 2, 1) := by decide +kernel
theorem dX8_sum_5 : decode cX8_sum 5 = .ok (.arraylength, 1) := by decide +kernel
theorem dX8_sum_6 : decode cX8_sum 6 = .ok (.istore_n 3, 1) := by decide +kernel
theorem dX8_sum_7 : decode cX8_sum 7 = .ok (.iconst 0, 1) := by decide +kernel
theorem dX8_sum_8 : decode cX8_sum 8 = .ok (.istore 4, 2) := by decide +kernel
theorem dX8_sum_10 : decode cX8_sum 10 = .ok (.iload 4, 2) := by decide +kernel
theorem dX8_sum_12 : decode cX8_sum 12 = .ok (.iload_n 3, 1) := by decide +kernel
theorem dX8_sum_13 : decode cX8_sum 13 = .ok (.if_icmp .ge 20, 3) := by decide +kernel
theorem dX8_sum_16 : decode cX8_sum 16 = .ok (.aload_n 2, 1) := by decide +kernel
theorem dX8_sum_17 : decode cX8_sum 17 = .ok (.iload 4, 2) := by decide +kernel
theorem dX8_sum_19 : decode cX8_sum 19 = .ok (.iaload, 1) := by decide +kernel
theorem dX8_sum_20 : decode cX8_sum 20 = .ok (.istore 5, 2) := by decide +kernel
theorem dX8_sum_22 : decode cX8_sum 22 = .ok (.iload_n 1, 1) := by decide +kernel
theorem dX8_sum_23 : decode cX8_sum 23 = .ok (.iload 5, 2) := by decide +kernel
theorem dX8_sum_25 : decode cX8_sum 25 = .ok (.iadd, 1) := by decide +kernel
theorem dX8_sum_26 : decode cX8_sum 26 = .ok (.istore_n 1, 1) := by decide +kernel
theorem dX8_sum_27 : decode cX8_sum 27 = .ok (.iinc 4 1, 3) := by decide +kernel
theorem dX8_sum_30 : decode cX8_sum 30 = .ok (.goto (-20), 3) := by decide +kernel
theorem dX8_sum_33 : decode cX8_sum 33 = .ok (.iload_n 1, 1) := by decide +kernel
theorem dX8_sum_34 : decode cX8_sum 34 = .ok (.ireturn, 1) := by decide +kernel
theorem dX8_copy_0 : decode cX8_copy 0 = .ok (.aload_n 0, 1) := by decide +kernel
theorem dX8_copy_1 : decode cX8_copy 1 = .ok (.iconst 0, 1) := by decide +kernel
theorem dX8_copy_2 : decode cX8_copy 2 = .ok (.aload_n 1, 1) := by decide +kernel
theorem dX8_copy_3 : decode cX8_copy 3 = .ok (.iconst 0, 1) := by decide +kernel
theorem dX8_copy_4 : decode cX8_copy 4 = .ok (.aload_n 0, 1) := by decide +kernel
theorem dX8_copy_5 : decode cX8_copy 5 = .ok (.arraylength, 1) := by decide +kernel
theorem dX8_copy_6 : decode cX8_copy 6 = .ok (.aload_n 1, 1) := by decide +kernel
theorem dX8_copy_7 : decode cX8_copy 7 = .ok (.arraylength, 1) := by decide +kernel
theorem dX8_copy_8 : decode cX8_copy 8 = .ok (.invokestatic 340, 3) := by decide +kernel
theorem dX8_copy_11 : decode cX8_copy 11 = .ok (.invokestatic 345, 3) := by decide +kernel
theorem dX8_copy_14 : decode cX8_copy 14 = .ok (.return_, 1) := by decide +kernel
theorem dX9_init_0 : decode cX9_init 0 = .ok (.aload_n 0, 1) := by decide +kernel
theorem dX9_init_1 : decode cX9_init 1 = .ok (.invokespecial 1, 3) := by decide +kernel
theorem dX9_init_4 : decode cX9_init 4 = .ok (.aload_n 0, 1) := by decide +kernel
theorem dX9_init_5 : decode cX9_init 5 = .ok (.sipush 235, 3) := by decide +kernel
theorem dX9_init_8 : decode cX9_init 8 = .ok (.newarray .int, 2) := by decide +kernel
theorem dX9_init_10 : decode cX9_init 10 = .ok (.putfield 7, 3) := by decide +kernel
theorem dX9_init_13 : decode cX9_init 13 = .ok (.aload_n 0, 1) := by decide +kernel
theorem dX9_init_14 : decode cX9_init 14 = .ok (.sipush 235, 3) := by decide +kernel
theorem dX9_init_17 : decode cX9_init 17 = .ok (.newarray .int, 2) := by decide +kernel
theorem dX9_init_19 : decode cX9_init 19 = .ok (.putfield 13, 3) := by decide +kernel
theorem dX9_init_22 : decode cX9_init 22 = .ok (.aload_n 0, 1) := by decide +kernel
theorem dX9_init_23 : decode cX9_init 23 = .ok (.sipush 235, 3) := by decide +kernel
theorem dX9_init_26 : decode cX9_init 26 = .ok (.newarray .int, 2) := by decide +kernel
theorem dX9_init_28 : decode cX9_init 28 = .ok (.putfield 16, 3) := by decide +kernel
theorem dX9_init_31 : decode cX9_init 31 = .ok (.aload_n 0, 1) := by decide +kernel
theorem dX9_init_32 : decode cX9_init 32 = .ok (.sipush 235, 3) := by decide +kernel
theorem dX9_init_35 : decode cX9_init 35 = .ok (.newarray .int, 2) := by decide +kernel
theorem dX9_init_37 : decode cX9_init 37 = .ok (.putfield 19, 3) := by decide +kernel
theorem dX9_init_40 : decode cX9_init 40 = .ok (.aload_n 0, 1) := by decide +kernel
theorem dX9_init_41 : decode cX9_init 41 = .ok (.sipush 1880, 3) := by decide +kernel
theorem dX9_init_44 : decode cX9_init 44 = .ok (.newarray .int, 2) := by decide +kernel
theorem dX9_init_46 : decode cX9_init 46 = .ok (.putfield 22, 3) := by decide +kernel
theorem dX9_init_49 : decode cX9_init 49 = .ok (.aload_n 0, 1) := by decide +kernel
theorem dX9_init_50 : decode cX9_init 50 = .ok (.bipush 60, 2) := by decide +kernel
theorem dX9_init_52 : decode cX9_init 52 = .ok (.newarray .int, 2) := by decide +kernel
theorem dX9_init_54 : decode cX9_init 54 = .ok (.putfield 25, 3) := by decide +kernel
theorem dX9_init_57 : decode cX9_init 57 = .ok (.aload_n 0, 1) := by decide +kernel
theorem dX9_init_58 : decode cX9_init 58 = .ok (.sipush 130, 3) := by decide +kernel
theorem dX9_init_61 : decode cX9_init 61 = .ok (.newarray .int, 2) := by decide +kernel
theorem dX9_init_63 : decode cX9_init 63 = .ok (.putfield 28, 3) := by decide +kernel
theorem dX9_init_66 : decode cX9_init 66 = .ok (.return_, 1) := by decide +kernel
theorem dX9_fail_0 : decode cX9_fail 0 = .ok (.aload_n 0, 1) := by decide +kernel
theorem dX9_fail_1 : decode cX9_fail 1 = .ok (.iload_n 1, 1) := by decide +kernel
theorem dX9_fail_2 : decode cX9_fail 2 = .ok (.putfield 31, 3) := by decide +kernel
theorem dX9_fail_5 : decode cX9_fail 5 = .ok (.iload_n 1, 1) := by decide +kernel
theorem dX9_fail_6 : decode cX9_fail 6 = .ok (.ireturn, 1) := by decide +kernel
set_option maxRecDepth 20000 in
theorem ggX9_refuses_X9_fail : GoodIn wsX9_refuses wsX9_fail := goodIn_r _ [7, 8, 9, 10, 11, 12, 13, 14, 15, 16, 17, 18, 19, 20, 21, 22, 23, 24, 25, 26] (by decide +kernel) (by decide +kernel)
set_option maxRecDepth 20000 in
theorem gX9_refuses_X9_fail : GoodIn wsX9_refuses (wsV RX9 41 RX9 yX9_fail wsX9_fail) := goodIn_app (goodIn_of _ (by decide +kernel)) ggX9_refuses_X9_fail
theorem dX9_refuses_0 : decode cX9_refuses 0 = .ok (.aload_n 0, 1) := by decide +kernel
theorem dX9_refuses_1 : decode cX9_refuses 1 = .ok (.iload_n 1, 1) := by decide +kernel
theorem dX9_refuses_2 : decode cX9_refuses 2 = .ok (.putfield 35, 3) := by decide +kernel
theorem dX9_refuses_5 : decode cX9_refuses 5 = .ok (.aload_n 0, 1) := by decide +kernel
theorem dX9_refuses_6 : decode cX9_refuses 6 = .ok (.iload_n 2, 1) := by decide +kernel
theorem dX9_refuses_7 : decode cX9_refuses 7 = .ok (.putfield 38, 3) := by decide +kernel
theorem dX9_refuses_10 : decode cX9_refuses 10 = .ok (.aload_n 0, 1) := by decide +kernel
theorem dX9_refuses_11 : decode cX9_refuses 11 = .ok (.sipush (-1014), 3) := by decide +kernel
theorem dX9_refuses_14 : decode cX9_refuses 14 = .ok (.invokevirtual 41, 3) := by decide +kernel
theorem dX9_refuses_17 : decode cX9_refuses 17 = .ok (.ireturn, 1) := by decide +kernel
theorem dX9_isIn_0 : decode cX9_isIn 0 = .ok (.iload_n 0, 1) := by decide +kernel
theorem dX9_isIn_1 : decode cX9_isIn 1 = .ok (.iload_n 1, 1) := by decide +kernel
theorem dX9_isIn_2 : decode cX9_isIn 2 = .ok (.if_icmp .lt 12, 3) := by decide +kernel
theorem dX9_isIn_5 : decode cX9_isIn 5 = .ok (.iload_n 0, 1) := by decide +kernel
theorem dX9_isIn_6 : decode cX9_isIn 6 = .ok (.iload_n 2, 1) := by decide +kernel
theorem dX9_isIn_7 : decode cX9_isIn 7 = .ok (.if_icmp .gt 7, 3) := by decide +kernel
