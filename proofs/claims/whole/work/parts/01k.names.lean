set_option maxRecDepth 20000 in
theorem gX9_ranked_X9_ropesOf : GoodIn wsX9_ranked (wsV RX9 139 RX9 yX9_ropesOf wsX9_ropesOf) := goodIn_app (goodIn_of _ (by decide +kernel)) ggX9_ranked_X9_ropesOf
theorem dX9_ranked_0 : decode cX9_ranked 0 = .ok (.iconst 0, 1) := by decide +kernel
theorem dX9_ranked_1 : decode cX9_ranked 1 = .ok (.istore_n 2, 1) := by decide +kernel
theorem dX9_ranked_2 : decode cX9_ranked 2 = .ok (.iload_n 2, 1) := by decide +kernel
theorem dX9_ranked_3 : decode cX9_ranked 3 = .ok (.iconst 4, 1) := by decide +kernel
theorem dX9_ranked_4 : decode cX9_ranked 4 = .ok (.if_icmp .ge 105, 3) := by decide +kernel
theorem dX9_ranked_7 : decode cX9_ranked 7 = .ok (.iconst 0, 1) := by decide +kernel
theorem dX9_ranked_8 : decode cX9_ranked 8 = .ok (.istore_n 3, 1) := by decide +kernel
theorem dX9_ranked_9 : decode cX9_ranked 9 = .ok (.iconst 0, 1) := by decide +kernel
theorem dX9_ranked_10 : decode cX9_ranked 10 = .ok (.istore 4, 2) := by decide +kernel
theorem dX9_ranked_12 : decode cX9_ranked 12 = .ok (.iload 4, 2) := by decide +kernel
theorem dX9_ranked_14 : decode cX9_ranked 14 = .ok (.iconst 4, 1) := by decide +kernel
theorem dX9_ranked_15 : decode cX9_ranked 15 = .ok (.if_icmp .ge 81, 3) := by decide +kernel
theorem dX9_ranked_18 : decode cX9_ranked 18 = .ok (.aload_n 0, 1) := by decide +kernel
theorem dX9_ranked_19 : decode cX9_ranked 19 = .ok (.iload 4, 2) := by decide +kernel
theorem dX9_ranked_21 : decode cX9_ranked 21 = .ok (.iconst 3, 1) := by decide +kernel
theorem dX9_ranked_22 : decode cX9_ranked 22 = .ok (.invokevirtual 148, 3) := by decide +kernel
theorem dX9_ranked_25 : decode cX9_ranked 25 = .ok (.aload_n 0, 1) := by decide +kernel
theorem dX9_ranked_26 : decode cX9_ranked 26 = .ok (.iload_n 2, 1) := by decide +kernel
theorem dX9_ranked_27 : decode cX9_ranked 27 = .ok (.iconst 3, 1) := by decide +kernel
theorem dX9_ranked_28 : decode cX9_ranked 28 = .ok (.invokevirtual 148, 3) := by decide +kernel
theorem dX9_ranked_31 : decode cX9_ranked 31 = .ok (.isub, 1) := by decide +kernel
theorem dX9_ranked_32 : decode cX9_ranked 32 = .ok (.istore 5, 2) := by decide +kernel
theorem dX9_ranked_34 : decode cX9_ranked 34 = .ok (.iload 5, 2) := by decide +kernel
theorem dX9_ranked_36 : decode cX9_ranked 36 = .ok (.ifCond .eq 8, 3) := by decide +kernel
theorem dX9_ranked_39 : decode cX9_ranked 39 = .ok (.iload 5, 2) := by decide +kernel
theorem dX9_ranked_41 : decode cX9_ranked 41 = .ok (.goto 17, 3) := by decide +kernel
theorem dX9_ranked_44 : decode cX9_ranked 44 = .ok (.aload_n 0, 1) := by decide +kernel
theorem dX9_ranked_45 : decode cX9_ranked 45 = .ok (.iload 4, 2) := by decide +kernel
theorem dX9_ranked_47 : decode cX9_ranked 47 = .ok (.iconst (-1), 1) := by decide +kernel
theorem dX9_ranked_48 : decode cX9_ranked 48 = .ok (.invokevirtual 139, 3) := by decide +kernel
theorem dX9_ranked_51 : decode cX9_ranked 51 = .ok (.aload_n 0, 1) := by decide +kernel
theorem dX9_ranked_52 : decode cX9_ranked 52 = .ok (.iload_n 2, 1) := by decide +kernel
theorem dX9_ranked_53 : decode cX9_ranked 53 = .ok (.iconst (-1), 1) := by decide +kernel
theorem dX9_ranked_54 : decode cX9_ranked 54 = .ok (.invokevirtual 139, 3) := by decide +kernel
theorem dX9_ranked_57 : decode cX9_ranked 57 = .ok (.isub, 1) := by decide +kernel
theorem dX9_ranked_58 : decode cX9_ranked 58 = .ok (.istore 5, 2) := by decide +kernel
theorem dX9_ranked_60 : decode cX9_ranked 60 = .ok (.iload_n 3, 1) := by decide +kernel
theorem dX9_ranked_61 : decode cX9_ranked 61 = .ok (.iload 4, 2) := by decide +kernel
theorem dX9_ranked_63 : decode cX9_ranked 63 = .ok (.iload_n 2, 1) := by decide +kernel
theorem dX9_ranked_64 : decode cX9_ranked 64 = .ok (.if_icmp .eq 23, 3) := by decide +kernel
theorem dX9_ranked_67 : decode cX9_ranked 67 = .ok (.iload 5, 2) := by decide +kernel
theorem dX9_ranked_69 : decode cX9_ranked 69 = .ok (.ifCond .gt 14, 3) := by decide +kernel
theorem dX9_ranked_72 : decode cX9_ranked 72 = .ok (.iload 5, 2) := by decide +kernel
theorem dX9_ranked_74 : decode cX9_ranked 74 = .ok (.ifCond .ne 13, 3) := by decide +kernel
theorem dX9_ranked_77 : decode cX9_ranked 77 = .ok (.iload 4, 2) := by decide +kernel
theorem dX9_ranked_79 : decode cX9_ranked 79 = .ok (.iload_n 2, 1) := by decide +kernel
theorem dX9_ranked_80 : decode cX9_ranked 80 = .ok (.if_icmp .ge 7, 3) := by decide +kernel
theorem dX9_ranked_83 : decode cX9_ranked 83 = .ok (.iconst 1, 1) := by decide +kernel
theorem dX9_ranked_84 : decode cX9_ranked 84 = .ok (.goto 4, 3) := by decide +kernel
theorem dX9_ranked_87 : decode cX9_ranked 87 = .ok (.iconst 0, 1) := by decide +kernel
theorem dX9_ranked_88 : decode cX9_ranked 88 = .ok (.iadd, 1) := by decide +kernel
theorem dX9_ranked_89 : decode cX9_ranked 89 = .ok (.istore_n 3, 1) := by decide +kernel
theorem dX9_ranked_90 : decode cX9_ranked 90 = .ok (.iinc 4 1, 3) := by decide +kernel
theorem dX9_ranked_93 : decode cX9_ranked 93 = .ok (.goto (-81), 3) := by decide +kernel
theorem dX9_ranked_96 : decode cX9_ranked 96 = .ok (.iload_n 3, 1) := by decide +kernel
theorem dX9_ranked_97 : decode cX9_ranked 97 = .ok (.iload_n 1, 1) := by decide +kernel
theorem dX9_ranked_98 : decode cX9_ranked 98 = .ok (.if_icmp .ne 5, 3) := by decide +kernel
theorem dX9_ranked_101 : decode cX9_ranked 101 = .ok (.iload_n 2, 1) := by decide +kernel
theorem dX9_ranked_102 : decode cX9_ranked 102 = .ok (.ireturn, 1) := by decide +kernel
theorem dX9_ranked_103 : decode cX9_ranked 103 = .ok (.iinc 2 1, 3) := by decide +kernel
theorem dX9_ranked_106 : decode cX9_ranked 106 = .ok (.goto (-104), 3) := by decide +kernel
theorem dX9_ranked_109 : decode cX9_ranked 109 = .ok (.sipush (-1011), 3) := by decide +kernel
theorem dX9_ranked_112 : decode cX9_ranked 112 = .ok (.ireturn, 1) := by decide +kernel
theorem dX9_writes_0 : decode cX9_writes 0 = .ok (.aload_n 0, 1) := by decide +kernel
theorem dX9_writes_1 : decode cX9_writes 1 = .ok (.getfield 28, 3) := by decide +kernel
theorem dX9_writes_4 : decode cX9_writes 4 = .ok (.aload_n 0, 1) := by decide +kernel
theorem dX9_writes_5 : decode cX9_writes 5 = .ok (.getfield 157, 3) := by decide +kernel
theorem dX9_writes_8 : decode cX9_writes 8 = .ok (.iload_n 1, 1) := by decide +kernel
theorem dX9_writes_9 : decode cX9_writes 9 = .ok (.iastore, 1) := by decide +kernel
theorem dX9_writes_10 : decode cX9_writes 10 = .ok (.aload_n 0, 1) := by decide +kernel
theorem dX9_writes_11 : decode cX9_writes 11 = .ok (.dup, 1) := by decide +kernel
theorem dX9_writes_12 : decode cX9_writes 12 = .ok (.getfield 157, 3) := by decide +kernel
theorem dX9_writes_15 : decode cX9_writes 15 = .ok (.iconst 1, 1) := by decide +kernel
theorem dX9_writes_16 : decode cX9_writes 16 = .ok (.iadd, 1) := by decide +kernel
theorem dX9_writes_17 : decode cX9_writes 17 = .ok (.putfield 157, 3) := by decide +kernel
theorem dX9_writes_20 : decode cX9_writes 20 = .ok (.return_, 1) := by decide +kernel
set_option maxRecDepth 20000 in
theorem ggX9_writesNumber_X9_writes : GoodIn wsX9_writesNumber wsX9_writes := goodIn_r _ [5, 6, 7, 8, 9, 10, 11, 12, 13, 14, 15, 16, 17, 18, 19, 20, 21, 22, 23, 24, 25] (by decide +kernel) (by decide +kernel)
set_option maxRecDepth 20000 in
theorem gX9_writesNumber_X9_writes : GoodIn wsX9_writesNumber (wsV RX9 160 RX9 yX9_writes wsX9_writes) := goodIn_app (goodIn_of _ (by decide +kernel)) ggX9_writesNumber_X9_writes
theorem dX9_writesNumber_0 : decode cX9_writesNumber 0 = .ok (.iload_n 1, 1) := by decide +kernel
theorem dX9_writesNumber_1 : decode cX9_writesNumber 1 = .ok (.bipush 10, 2) := by decide +kernel
theorem dX9_writesNumber_3 : decode cX9_writesNumber 3 = .ok (.if_icmp .lt 14, 3) := by decide +kernel
theorem dX9_writesNumber_6 : decode cX9_writesNumber 6 = .ok (.aload_n 0, 1) := by decide +kernel
theorem dX9_writesNumber_7 : decode cX9_writesNumber 7 = .ok (.bipush 48, 2) := by decide +kernel
theorem dX9_writesNumber_9 : decode cX9_writesNumber 9 = .ok (.iload_n 1, 1) := by decide +kernel
theorem dX9_writesNumber_10 : decode cX9_writesNumber 10 = .ok (.bipush 10, 2) := by decide +kernel
theorem dX9_writesNumber_12 : decode cX9_writesNumber 12 = .ok (.idiv, 1) := by decide +kernel
theorem dX9_writesNumber_13 : decode cX9_writesNumber 13 = .ok (.iadd, 1) := by decide +kernel
theorem dX9_writesNumber_14 : decode cX9_writesNumber 14 = .ok (.invokevirtual 160, 3) := by decide +kernel
theorem dX9_writesNumber_17 : decode cX9_writesNumber 17 = .ok (.aload_n 0, 1) := by decide +kernel
theorem dX9_writesNumber_18 : decode cX9_writesNumber 18 = .ok (.bipush 48, 2) := by decide +kernel
theorem dX9_writesNumber_20 : decode cX9_writesNumber 20 = .ok (.iload_n 1, 1) := by decide +kernel
theorem dX9_writesNumber_21 : decode cX9_writesNumber 21 = .ok (.bipush 10, 2) := by decide +kernel
theorem dX9_writesNumber_23 : decode cX9_writesNumber 23 = .ok (.irem, 1) := by decide +kernel
theorem dX9_writesNumber_24 : decode cX9_writesNumber 24 = .ok (.iadd, 1) := by decide +kernel
theorem dX9_writesNumber_25 : decode cX9_writesNumber 25 = .ok (.invokevirtual 160, 3) := by decide +kernel
theorem dX9_writesNumber_28 : decode cX9_writesNumber 28 = .ok (.return_, 1) := by decide +kernel
set_option maxRecDepth 20000 in
theorem ggX9_append_X9_isIn : GoodIn wsX9_append wsX9_isIn := goodIn_r _ [6] (by decide +kernel) (by decide +kernel)
set_option maxRecDepth 20000 in
theorem gX9_append_X9_isIn : GoodIn wsX9_append (va_wsS RX9 52 yX9_isIn wsX9_isIn) := goodIn_app (goodIn_of _ (by decide +kernel)) ggX9_append_X9_isIn
theorem dX9_append_0 : decode cX9_append 0 = .ok (.iload_n 1, 1) := by decide +kernel
theorem dX9_append_1 : decode cX9_append 1 = .ok (.bipush 32, 2) := by decide +kernel
theorem dX9_append_3 : decode cX9_append 3 = .ok (.bipush 126, 2) := by decide +kernel
theorem dX9_append_5 : decode cX9_append 5 = .ok (.invokestatic 52, 3) := by decide +kernel
theorem dX9_append_8 : decode cX9_append 8 = .ok (.ifCond .ne 7, 3) := by decide +kernel
theorem dX9_append_11 : decode cX9_append 11 = .ok (.sipush (-1012), 3) := by decide +kernel
theorem dX9_append_14 : decode cX9_append 14 = .ok (.ireturn, 1) := by decide +kernel
theorem dX9_append_15 : decode cX9_append 15 = .ok (.aload_n 0, 1) := by decide +kernel
theorem dX9_append_16 : decode cX9_append 16 = .ok (.getfield 163, 3) := by decide +kernel
theorem dX9_append_19 : decode cX9_append 19 = .ok (.bipush 60, 2) := by decide +kernel
theorem dX9_append_21 : decode cX9_append 21 = .ok (.if_icmp .ne 7, 3) := by decide +kernel
theorem dX9_append_24 : decode cX9_append 24 = .ok (.sipush (-1013), 3) := by decide +kernel
theorem dX9_append_27 : decode cX9_append 27 = .ok (.ireturn, 1) := by decide +kernel
theorem dX9_append_28 : decode cX9_append 28 = .ok (.aload_n 0, 1) := by decide +kernel
theorem dX9_append_29 : decode cX9_append 29 = .ok (.getfield 25, 3) := by decide +kernel
theorem dX9_append_32 : decode cX9_append 32 = .ok (.aload_n 0, 1) := by decide +kernel
theorem dX9_append_33 : decode cX9_append 33 = .ok (.getfield 163, 3) := by decide +kernel
theorem dX9_append_36 : decode cX9_append 36 = .ok (.iload_n 1, 1) := by decide +kernel
theorem dX9_append_37 : decode cX9_append 37 = .ok (.iastore, 1) := by decide +kernel
theorem dX9_append_38 : decode cX9_append 38 = .ok (.aload_n 0, 1) := by decide +kernel
theorem dX9_append_39 : decode cX9_append 39 = .ok (.dup, 1) := by decide +kernel
theorem dX9_append_40 : decode cX9_append 40 = .ok (.getfield 163, 3) := by decide +kernel
theorem dX9_append_43 : decode cX9_append 43 = .ok (.iconst 1, 1) := by decide +kernel
theorem dX9_append_44 : decode cX9_append 44 = .ok (.iadd, 1) := by decide +kernel
theorem dX9_append_45 : decode cX9_append 45 = .ok (.putfield 163, 3) := by decide +kernel
theorem dX9_append_48 : decode cX9_append 48 = .ok (.aload_n 0, 1) := by decide +kernel
theorem dX9_append_49 : decode cX9_append 49 = .ok (.getfield 163, 3) := by decide +kernel
theorem dX9_append_52 : decode cX9_append 52 = .ok (.ireturn, 1) := by decide +kernel
theorem dX9_sign_0 : decode cX9_sign 0 = .ok (.aload_n 0, 1) := by decide +kernel
theorem dX9_sign_1 : decode cX9_sign 1 = .ok (.getfield 166, 3) := by decide +kernel
theorem dX9_sign_4 : decode cX9_sign 4 = .ok (.aload_n 0, 1) := by decide +kernel
theorem dX9_sign_5 : decode cX9_sign 5 = .ok (.getfield 169, 3) := by decide +kernel
theorem dX9_sign_8 : decode cX9_sign 8 = .ok (.if_icmp .ge 15, 3) := by decide +kernel
theorem dX9_sign_11 : decode cX9_sign 11 = .ok (.aload_n 0, 1) := by decide +kernel
theorem dX9_sign_12 : decode cX9_sign 12 = .ok (.getfield 25, 3) := by decide +kernel
theorem dX9_sign_15 : decode cX9_sign 15 = .ok (.aload_n 0, 1) := by decide +kernel
theorem dX9_sign_16 : decode cX9_sign 16 = .ok (.getfield 166, 3) := by decide +kernel
theorem dX9_sign_19 : decode cX9_sign 19 = .ok (.iaload, 1) := by decide +kernel
theorem dX9_sign_20 : decode cX9_sign 20 = .ok (.goto 4, 3) := by decide +kernel
theorem dX9_sign_23 : decode cX9_sign 23 = .ok (.iconst (-1), 1) := by decide +kernel
theorem dX9_sign_24 : decode cX9_sign 24 = .ok (.ireturn, 1) := by decide +kernel
set_option maxRecDepth 20000 in
theorem ggX9_mark_X9_sign : GoodIn wsX9_mark wsX9_sign := goodIn_r _ [7, 2, 8, 9, 10, 11, 12, 13, 14, 15, 16, 17, 18, 19, 20, 21, 22, 23, 24, 25, 26, 27] (by decide +kernel) (by decide +kernel)
set_option maxRecDepth 20000 in
theorem gX9_mark_X9_sign : GoodIn wsX9_mark (wsV RX9 176 RX9 yX9_sign wsX9_sign) := goodIn_app (goodIn_of _ (by decide +kernel)) ggX9_mark_X9_sign
theorem dX9_mark_0 : decode cX9_mark 0 = .ok (.aload_n 0, 1) := by decide +kernel
theorem dX9_mark_1 : decode cX9_mark 1 = .ok (.getfield 172, 3) := by decide +kernel
theorem dX9_mark_4 : decode cX9_mark 4 = .ok (.ifCond .eq 4, 3) := by decide +kernel
theorem dX9_mark_7 : decode cX9_mark 7 = .ok (.return_, 1) := by decide +kernel
theorem dX9_mark_8 : decode cX9_mark 8 = .ok (.aload_n 0, 1) := by decide +kernel
theorem dX9_mark_9 : decode cX9_mark 9 = .ok (.aload_n 0, 1) := by decide +kernel
theorem dX9_mark_10 : decode cX9_mark 10 = .ok (.invokevirtual 176, 3) := by decide +kernel
theorem dX9_mark_13 : decode cX9_mark 13 = .ok (.iload_n 1, 1) := by decide +kernel
theorem dX9_mark_14 : decode cX9_mark 14 = .ok (.if_icmp .eq 7, 3) := by decide +kernel
theorem dX9_mark_17 : decode cX9_mark 17 = .ok (.iconst 1, 1) := by decide +kernel
theorem dX9_mark_18 : decode cX9_mark 18 = .ok (.goto 4, 3) := by decide +kernel
theorem dX9_mark_21 : decode cX9_mark 21 = .ok (.iconst 0, 1) := by decide +kernel
theorem dX9_mark_22 : decode cX9_mark 22 = .ok (.putfield 172, 3) := by decide +kernel
theorem dX9_mark_25 : decode cX9_mark 25 = .ok (.aload_n 0, 1) := by decide +kernel
theorem dX9_mark_26 : decode cX9_mark 26 = .ok (.dup, 1) := by decide +kernel
theorem dX9_mark_27 : decode cX9_mark 27 = .ok (.getfield 166, 3) := by decide +kernel
theorem dX9_mark_30 : decode cX9_mark 30 = .ok (.aload_n 0, 1) := by decide +kernel
theorem dX9_mark_31 : decode cX9_mark 31 = .ok (.getfield 172, 3) := by decide +kernel
theorem dX9_mark_34 : decode cX9_mark 34 = .ok (.ifCond .eq 7, 3) := by decide +kernel
theorem dX9_mark_37 : decode cX9_mark 37 = .ok (.iconst 0, 1) := by decide +kernel
theorem dX9_mark_38 : decode cX9_mark 38 = .ok (.goto 4, 3) := by decide +kernel
theorem dX9_mark_41 : decode cX9_mark 41 = .ok (.iconst 1, 1) := by decide +kernel
theorem dX9_mark_42 : decode cX9_mark 42 = .ok (.iadd, 1) := by decide +kernel
theorem dX9_mark_43 : decode cX9_mark 43 = .ok (.putfield 166, 3) := by decide +kernel
theorem dX9_mark_46 : decode cX9_mark 46 = .ok (.return_, 1) := by decide +kernel
set_option maxRecDepth 20000 in
theorem ggX9_digits_X9_sign : GoodIn wsX9_digits wsX9_sign := goodIn_r _ [7, 2, 8, 9, 13, 14, 15, 16, 17, 18, 19, 20, 21, 22, 23, 24, 25, 26, 27, 28, 29, 30] (by decide +kernel) (by decide +kernel)
set_option maxRecDepth 20000 in
theorem gX9_digits_X9_sign : GoodIn wsX9_digits (wsV RX9 176 RX9 yX9_sign wsX9_sign) := goodIn_app (goodIn_of _ (by decide +kernel)) ggX9_digits_X9_sign
set_option maxRecDepth 20000 in
theorem ggX9_digits_X9_isIn : GoodIn wsX9_digits wsX9_isIn := goodIn_r _ [12] (by decide +kernel) (by decide +kernel)
set_option maxRecDepth 20000 in
theorem gX9_digits_X9_isIn : GoodIn wsX9_digits (va_wsS RX9 52 yX9_isIn wsX9_isIn) := goodIn_app (goodIn_of _ (by decide +kernel)) ggX9_digits_X9_isIn
theorem dX9_digits_0 : decode cX9_digits 0 = .ok (.iconst 0, 1) := by decide +kernel
theorem dX9_digits_1 : decode cX9_digits 1 = .ok (.istore_n 2, 1) := by decide +kernel
theorem dX9_digits_2 : decode cX9_digits 2 = .ok (.iconst 0, 1) := by decide +kernel
theorem dX9_digits_3 : decode cX9_digits 3 = .ok (.istore_n 3, 1) := by decide +kernel
theorem dX9_digits_4 : decode cX9_digits 4 = .ok (.aload_n 0, 1) := by decide +kernel
theorem dX9_digits_5 : decode cX9_digits 5 = .ok (.getfield 172, 3) := by decide +kernel
theorem dX9_digits_8 : decode cX9_digits 8 = .ok (.ifCond .ne 51, 3) := by decide +kernel
theorem dX9_digits_11 : decode cX9_digits 11 = .ok (.iload_n 3, 1) := by decide +kernel
theorem dX9_digits_12 : decode cX9_digits 12 = .ok (.iload_n 1, 1) := by decide +kernel
theorem dX9_digits_13 : decode cX9_digits 13 = .ok (.if_icmp .ge 46, 3) := by decide +kernel
theorem dX9_digits_16 : decode cX9_digits 16 = .ok (.aload_n 0, 1) := by decide +kernel
theorem dX9_digits_17 : decode cX9_digits 17 = .ok (.invokevirtual 176, 3) := by decide +kernel
theorem dX9_digits_20 : decode cX9_digits 20 = .ok (.bipush 48, 2) := by decide +kernel
theorem dX9_digits_22 : decode cX9_digits 22 = .ok (.bipush 57, 2) := by decide +kernel
theorem dX9_digits_24 : decode cX9_digits 24 = .ok (.invokestatic 52, 3) := by decide +kernel
theorem dX9_digits_27 : decode cX9_digits 27 = .ok (.ifCond .eq 32, 3) := by decide +kernel
theorem dX9_digits_30 : decode cX9_digits 30 = .ok (.bipush 10, 2) := by decide +kernel
theorem dX9_digits_32 : decode cX9_digits 32 = .ok (.iload_n 2, 1) := by decide +kernel
theorem dX9_digits_33 : decode cX9_digits 33 = .ok (.imul, 1) := by decide +kernel
theorem dX9_digits_34 : decode cX9_digits 34 = .ok (.aload_n 0, 1) := by decide +kernel
theorem dX9_digits_35 : decode cX9_digits 35 = .ok (.invokevirtual 176, 3) := by decide +kernel
theorem dX9_digits_38 : decode cX9_digits 38 = .ok (.iadd, 1) := by decide +kernel
theorem dX9_digits_39 : decode cX9_digits 39 = .ok (.bipush 48, 2) := by decide +kernel
theorem dX9_digits_41 : decode cX9_digits 41 = .ok (.isub, 1) := by decide +kernel
theorem dX9_digits_42 : decode cX9_digits 42 = .ok (.istore_n 2, 1) := by decide +kernel
theorem dX9_digits_43 : decode cX9_digits 43 = .ok (.aload_n 0, 1) := by decide +kernel
theorem dX9_digits_44 : decode cX9_digits 44 = .ok (.dup, 1) := by decide +kernel
theorem dX9_digits_45 : decode cX9_digits 45 = .ok (.getfield 166, 3) := by decide +kernel
theorem dX9_digits_48 : decode cX9_digits 48 = .ok (.iconst 1, 1) := by decide +kernel
theorem dX9_digits_49 : decode cX9_digits 49 = .ok (.iadd, 1) := by decide +kernel
theorem dX9_digits_50 : decode cX9_digits 50 = .ok (.putfield 166, 3) := by decide +kernel
theorem dX9_digits_53 : decode cX9_digits 53 = .ok (.iinc 3 1, 3) := by decide +kernel
theorem dX9_digits_56 : decode cX9_digits 56 = .ok (.goto (-52), 3) := by decide +kernel
theorem dX9_digits_59 : decode cX9_digits 59 = .ok (.aload_n 0, 1) := by decide +kernel
theorem dX9_digits_60 : decode cX9_digits 60 = .ok (.dup, 1) := by decide +kernel
theorem dX9_digits_61 : decode cX9_digits 61 = .ok (.getfield 172, 3) := by decide +kernel
theorem dX9_digits_64 : decode cX9_digits 64 = .ok (.iload_n 3, 1) := by decide +kernel
theorem dX9_digits_65 : decode cX9_digits 65 = .ok (.ifCond .ne 7, 3) := by decide +kernel
theorem dX9_digits_68 : decode cX9_digits 68 = .ok (.iconst 1, 1) := by decide +kernel
theorem dX9_digits_69 : decode cX9_digits 69 = .ok (.goto 4, 3) := by decide +kernel
theorem dX9_digits_72 : decode cX9_digits 72 = .ok (.iconst 0, 1) := by decide +kernel
theorem dX9_digits_73 : decode cX9_digits 73 = .ok (.ior, 1) := by decide +kernel
theorem dX9_digits_74 : decode cX9_digits 74 = .ok (.putfield 172, 3) := by decide +kernel
theorem dX9_digits_77 : decode cX9_digits 77 = .ok (.iload_n 2, 1) := by decide +kernel
theorem dX9_digits_78 : decode cX9_digits 78 = .ok (.ireturn, 1) := by decide +kernel
set_option maxRecDepth 20000 in
theorem ggX9_behind_X9_mark : GoodIn wsX9_behind wsX9_mark := goodIn_r _ [6, 1, 7, 8, 9, 10, 5, 11, 12, 13, 21, 22, 23, 24, 25, 26, 27, 28, 29, 30, 31, 32, 33, 34, 35, 36, 37, 38] (by decide +kernel) (by decide +kernel)
set_option maxRecDepth 20000 in
theorem gX9_behind_X9_mark : GoodIn wsX9_behind (wsV RX9 179 RX9 yX9_mark wsX9_mark) := goodIn_app (goodIn_of _ (by decide +kernel)) ggX9_behind_X9_mark
set_option maxRecDepth 20000 in
theorem ggX9_behind_X9_digits : GoodIn wsX9_behind wsX9_digits := goodIn_r _ [17, 1, 7, 8, 9, 10, 5, 11, 12, 13, 18, 19, 20, 21, 22, 23, 24, 25, 26, 27, 28, 29, 30, 31, 32, 33, 34, 35, 36, 37, 38] (by decide +kernel) (by decide +kernel)
set_option maxRecDepth 20000 in
theorem gX9_behind_X9_digits : GoodIn wsX9_behind (wsV RX9 182 RX9 yX9_digits wsX9_digits) := goodIn_app (goodIn_of _ (by decide +kernel)) ggX9_behind_X9_digits
theorem dX9_behind_0 : decode cX9_behind 0 = .ok (.aload_n 0, 1) := by decide +kernel
theorem dX9_behind_1 : decode cX9_behind 1 = .ok (.iload_n 1, 1) := by decide +kernel
theorem dX9_behind_2 : decode cX9_behind 2 = .ok (.invokevirtual 179, 3) := by decide +kernel
theorem dX9_behind_5 : decode cX9_behind 5 = .ok (.aload_n 0, 1) := by decide +kernel
theorem dX9_behind_6 : decode cX9_behind 6 = .ok (.getfield 172, 3) := by decide +kernel
theorem dX9_behind_9 : decode cX9_behind 9 = .ok (.ifCond .eq 7, 3) := by decide +kernel
theorem dX9_behind_12 : decode cX9_behind 12 = .ok (.iconst 0, 1) := by decide +kernel
theorem dX9_behind_13 : decode cX9_behind 13 = .ok (.goto 8, 3) := by decide +kernel
theorem dX9_behind_16 : decode cX9_behind 16 = .ok (.aload_n 0, 1) := by decide +kernel
theorem dX9_behind_17 : decode cX9_behind 17 = .ok (.iload_n 2, 1) := by decide +kernel
theorem dX9_behind_18 : decode cX9_behind 18 = .ok (.invokevirtual 182, 3) := by decide +kernel
theorem dX9_behind_21 : decode cX9_behind 21 = .ok (.ireturn, 1) := by decide +kernel
set_option maxRecDepth 20000 in
theorem ggX9_plus_X9_sign : GoodIn wsX9_plus wsX9_sign := goodIn_r _ [6, 7, 8, 9, 14, 15, 16, 17, 18, 19, 20, 21, 22, 23, 24, 25, 26, 27, 28, 29, 30, 31] (by decide +kernel) (by decide +kernel)
set_option maxRecDepth 20000 in
theorem gX9_plus_X9_sign : GoodIn wsX9_plus (wsV RX9 176 RX9 yX9_sign wsX9_sign) := goodIn_app (goodIn_of _ (by decide +kernel)) ggX9_plus_X9_sign
set_option maxRecDepth 20000 in
theorem ggX9_plus_X9_mark : GoodIn wsX9_plus wsX9_mark := goodIn_r _ [13, 1, 7, 2, 3, 4, 5, 6, 8, 9, 14, 15, 16, 17, 18, 19, 20, 21, 22, 23, 24, 25, 26, 27, 28, 29, 30, 31] (by decide +kernel) (by decide +kernel)
set_option maxRecDepth 20000 in
theorem gX9_plus_X9_mark : GoodIn wsX9_plus (wsV RX9 179 RX9 yX9_mark wsX9_mark) := goodIn_app (goodIn_of _ (by decide +kernel)) ggX9_plus_X9_mark
theorem dX9_plus_0 : decode cX9_plus 0 = .ok (.aload_n 0, 1) := by decide +kernel
theorem dX9_plus_1 : decode cX9_plus 1 = .ok (.getfield 172, 3) := by decide +kernel
theorem dX9_plus_4 : decode cX9_plus 4 = .ok (.ifCond .eq 5, 3) := by decide +kernel
theorem dX9_plus_7 : decode cX9_plus 7 = .ok (.iconst 0, 1) := by decide +kernel
theorem dX9_plus_8 : decode cX9_plus 8 = .ok (.ireturn, 1) := by decide +kernel
theorem dX9_plus_9 : decode cX9_plus 9 = .ok (.aload_n 0, 1) := by decide +kernel
theorem dX9_plus_10 : decode cX9_plus 10 = .ok (.invokevirtual 176, 3) := by decide +kernel
theorem dX9_plus_13 : decode cX9_plus 13 = .ok (.bipush 43, 2) := by decide +kernel
theorem dX9_plus_15 : decode cX9_plus 15 = .ok (.if_icmp .ne 7, 3) := by decide +kernel
theorem dX9_plus_18 : decode cX9_plus 18 = .ok (.iconst 1, 1) := by decide +kernel
theorem dX9_plus_19 : decode cX9_plus 19 = .ok (.goto 4, 3) := by decide +kernel
theorem dX9_plus_22 : decode cX9_plus 22 = .ok (.iconst 0, 1) := by decide +kernel
theorem dX9_plus_23 : decode cX9_plus 23 = .ok (.istore_n 1, 1) := by decide +kernel
theorem dX9_plus_24 : decode cX9_plus 24 = .ok (.aload_n 0, 1) := by decide +kernel
theorem dX9_plus_25 : decode cX9_plus 25 = .ok (.iload_n 1, 1) := by decide +kernel
theorem dX9_plus_26 : decode cX9_plus 26 = .ok (.ifCond .eq 8, 3) := by decide +kernel
theorem dX9_plus_29 : decode cX9_plus 29 = .ok (.bipush 43, 2) := by decide +kernel
theorem dX9_plus_31 : decode cX9_plus 31 = .ok (.goto 5, 3) := by decide +kernel
theorem dX9_plus_34 : decode cX9_plus 34 = .ok (.bipush 45, 2) := by decide +kernel
theorem dX9_plus_36 : decode cX9_plus 36 = .ok (.invokevirtual 179, 3) := by decide +kernel
theorem dX9_plus_39 : decode cX9_plus 39 = .ok (.iload_n 1, 1) := by decide +kernel
theorem dX9_plus_40 : decode cX9_plus 40 = .ok (.ifCond .eq 7, 3) := by decide +kernel
theorem dX9_plus_43 : decode cX9_plus 43 = .ok (.iconst 1, 1) := by decide +kernel
theorem dX9_plus_44 : decode cX9_plus 44 = .ok (.goto 4, 3) := by decide +kernel
theorem dX9_plus_47 : decode cX9_plus 47 = .ok (.iconst 0, 1) := by decide +kernel
theorem dX9_plus_48 : decode cX9_plus 48 = .ok (.ireturn, 1) := by decide +kernel
set_option maxRecDepth 20000 in
theorem ggX9_does_X9_comes : GoodIn wsX9_does wsX9_comes := goodIn_r _ [5, 6, 7, 8, 4, 9, 10, 11, 12, 13, 14, 15, 16, 17, 18, 19, 20, 21, 22, 23, 24, 25, 26, 95, 96, 97, 98, 99, 100, 101, 102, 103, 104, 105, 106, 107, 108, 109, 110, 111, 112] (by decide +kernel) (by decide +kernel)
set_option maxRecDepth 20000 in
theorem gX9_does_X9_comes : GoodIn wsX9_does (wsV RX9 70 RX9 yX9_comes wsX9_comes) := goodIn_app (goodIn_of _ (by decide +kernel)) ggX9_does_X9_comes
set_option maxRecDepth 20000 in
theorem ggX9_does_X9_moves : GoodIn wsX9_does wsX9_moves := goodIn_r _ [30, 31, 32, 33, 4, 34, 6, 10, 11, 12, 13, 14, 15, 16, 17, 7, 8, 9, 24, 25, 26, 35, 36, 37, 38, 18, 19, 20, 21, 22, 23, 95, 96, 97, 98, 99, 100, 101, 102, 103, 104, 105, 106, 107, 108, 109, 110, 111, 112] (by decide +kernel) (by decide +kernel)
set_option maxRecDepth 20000 in
theorem gX9_does_X9_moves : GoodIn wsX9_does (wsV RX9 82 RX9 yX9_moves wsX9_moves) := goodIn_app (goodIn_of _ (by decide +kernel)) ggX9_does_X9_moves
set_option maxRecDepth 20000 in
theorem ggX9_does_X9_switches : GoodIn wsX9_does wsX9_switches := goodIn_r _ [42, 6, 31, 32, 33, 4, 34, 10, 11, 12, 13, 14, 15, 16, 17, 24, 25, 26, 35, 36, 37, 38, 18, 19, 20, 21, 22, 23, 95, 96, 97, 98, 99, 100, 101, 102, 103, 104, 105, 106, 107, 108, 109, 110, 111, 112] (by decide +kernel) (by decide +kernel)
set_option maxRecDepth 20000 in
theorem gX9_does_X9_switches : GoodIn wsX9_does (wsV RX9 85 RX9 yX9_switches wsX9_switches) := goodIn_app (goodIn_of _ (by decide +kernel)) ggX9_does_X9_switches
set_option maxRecDepth 20000 in
theorem ggX9_does_X9_waits : GoodIn wsX9_does wsX9_waits := goodIn_r _ [46, 6, 31, 32, 33, 4, 34, 10, 11, 12, 13, 14, 15, 16, 17, 18, 19, 20, 21, 22, 23, 47, 48, 49, 50, 51, 52, 53, 54, 95, 96, 97, 98, 99, 100, 101, 102, 103, 104, 105, 106, 107, 108, 109, 110, 111, 112] (by decide +kernel) (by decide +kernel)
set_option maxRecDepth 20000 in
theorem gX9_does_X9_waits : GoodIn wsX9_does (wsV RX9 101 RX9 yX9_waits wsX9_waits) := goodIn_app (goodIn_of _ (by decide +kernel)) ggX9_does_X9_waits
set_option maxRecDepth 20000 in
theorem ggX9_does_X9_cancels : GoodIn wsX9_does wsX9_cancels := goodIn_r _ [58, 6, 31, 32, 33, 4, 34, 10, 11, 12, 13, 14, 15, 16, 17, 59, 60, 61, 62, 51, 52, 53, 54, 18, 19, 20, 21, 22, 23, 63, 64, 65, 66, 95, 96, 97, 98, 99, 100, 101, 102, 103, 104, 105, 106, 107, 108, 109, 110, 111, 112] (by decide +kernel) (by decide +kernel)
set_option maxRecDepth 20000 in
theorem gX9_does_X9_cancels : GoodIn wsX9_does (wsV RX9 109 RX9 yX9_cancels wsX9_cancels) := goodIn_app (goodIn_of _ (by decide +kernel)) ggX9_does_X9_cancels
set_option maxRecDepth 20000 in
theorem ggX9_does_X9_rings : GoodIn wsX9_does wsX9_rings := goodIn_r _ [70, 6, 18, 19, 20, 4, 21, 22, 23, 13, 14, 15, 16, 17, 71, 72, 73, 74, 51, 52, 53, 54, 63, 64, 65, 66, 24, 25, 26, 75, 76, 77, 78, 79, 80, 81, 82, 95, 96, 97, 98, 99, 100, 101, 102, 103, 104, 105, 106, 107, 108, 109, 110, 111, 112] (by decide +kernel) (by decide +kernel)
set_option maxRecDepth 20000 in
theorem gX9_does_X9_rings : GoodIn wsX9_does (wsV RX9 124 RX9 yX9_rings wsX9_rings) := goodIn_app (goodIn_of _ (by decide +kernel)) ggX9_does_X9_rings
set_option maxRecDepth 20000 in
theorem ggX9_does_X9_hours : GoodIn wsX9_does wsX9_hours := goodIn_r _ [86, 6, 18, 19, 20, 4, 21, 22, 23, 13, 14, 15, 16, 17, 51, 52, 53, 54, 71, 72, 73, 74, 63, 64, 65, 66, 24, 25, 26, 75, 76, 77, 78, 79, 80, 81, 82, 95, 96, 97, 98, 99, 100, 101, 102, 103, 104, 105, 106, 107, 108, 109, 110, 111, 112] (by decide +kernel) (by decide +kernel)
set_option maxRecDepth 20000 in
theorem gX9_does_X9_hours : GoodIn wsX9_does (wsV RX9 127 RX9 yX9_hours wsX9_hours) := goodIn_app (goodIn_of _ (by decide +kernel)) ggX9_does_X9_hours
set_option maxRecDepth 20000 in
theorem ggX9_does_X9_oils : GoodIn wsX9_does wsX9_oils := goodIn_r _ [90, 6, 31, 32, 33, 4, 34, 10, 11, 12, 13, 14, 15, 16, 17, 24, 25, 26, 18, 19, 20, 21, 22, 23, 95, 96, 97, 98, 99, 100, 101, 102, 103, 104, 105, 106, 107, 108, 109, 110, 111, 112] (by decide +kernel) (by decide +kernel)
set_option maxRecDepth 20000 in
theorem gX9_does_X9_oils : GoodIn wsX9_does (wsV RX9 88 RX9 yX9_oils wsX9_oils) := goodIn_app (goodIn_of _ (by decide +kernel)) ggX9_does_X9_oils
set_option maxRecDepth 20000 in
theorem ggX9_does_X9_endsDay : GoodIn wsX9_does wsX9_endsDay := goodIn_r _ [94, 6, 51, 52, 53, 4, 54, 24, 25, 26, 95, 96, 97, 98, 99, 100, 101, 102, 103, 104, 105, 106, 107, 108, 109, 110, 111, 112] (by decide +kernel) (by decide +kernel)
set_option maxRecDepth 20000 in
theorem gX9_does_X9_endsDay : GoodIn wsX9_does (wsV RX9 130 RX9 yX9_endsDay wsX9_endsDay) := goodIn_app (goodIn_of _ (by decide +kernel)) ggX9_does_X9_endsDay
theorem dX9_does_0 : decode cX9_does 0 = .ok (.iload_n 1, 1) := by decide +kernel
theorem dX9_does_1 : decode cX9_does 1 = .ok (.tableswitch 147 99 118 #[124, 147, 147, 147, 147, 135, 147, 147, 147, 147, 147, 130, 140, 115, 147, 95, 108, 147, 147, 101], 95) := by decide +kernel
theorem dX9_does_96 : decode cX9_does 96 = .ok (.aload_n 0, 1) := by decide +kernel
theorem dX9_does_97 : decode cX9_does 97 = .ok (.iload_n 2, 1) := by decide +kernel
theorem dX9_does_98 : decode cX9_does 98 = .ok (.invokevirtual 70, 3) := by decide +kernel
theorem dX9_does_101 : decode cX9_does 101 = .ok (.ireturn, 1) := by decide +kernel
theorem dX9_does_102 : decode cX9_does 102 = .ok (.aload_n 0, 1) := by decide +kernel
theorem dX9_does_103 : decode cX9_does 103 = .ok (.iload_n 2, 1) := by decide +kernel
theorem dX9_does_104 : decode cX9_does 104 = .ok (.iload_n 3, 1) := by decide +kernel
theorem dX9_does_105 : decode cX9_does 105 = .ok (.invokevirtual 82, 3) := by decide +kernel
theorem dX9_does_108 : decode cX9_does 108 = .ok (.ireturn, 1) := by decide +kernel
theorem dX9_does_109 : decode cX9_does 109 = .ok (.aload_n 0, 1) := by decide +kernel
theorem dX9_does_110 : decode cX9_does 110 = .ok (.iload_n 2, 1) := by decide +kernel
theorem dX9_does_111 : decode cX9_does 111 = .ok (.iload_n 3, 1) := by decide +kernel
theorem dX9_does_112 : decode cX9_does 112 = .ok (.invokevirtual 85, 3) := by decide +kernel
theorem dX9_does_115 : decode cX9_does 115 = .ok (.ireturn, 1) := by decide +kernel
theorem dX9_does_116 : decode cX9_does 116 = .ok (.aload_n 0, 1) := by decide +kernel
theorem dX9_does_117 : decode cX9_does 117 = .ok (.iload_n 2, 1) := by decide +kernel
theorem dX9_does_118 : decode cX9_does 118 = .ok (.iload_n 3, 1) := by decide +kernel
theorem dX9_does_119 : decode cX9_does 119 = .ok (.iload 4, 2) := by decide +kernel
theorem dX9_does_121 : decode cX9_does 121 = .ok (.invokevirtual 101, 3) := by decide +kernel
theorem dX9_does_124 : decode cX9_does 124 = .ok (.ireturn, 1) := by decide +kernel
theorem dX9_does_125 : decode cX9_does 125 = .ok (.aload_n 0, 1) := by decide +kernel
theorem dX9_does_126 : decode cX9_does 126 = .ok (.iload_n 2, 1) := by decide +kernel
theorem dX9_does_127 : decode cX9_does 127 = .ok (.invokevirtual 109, 3) := by decide +kernel
theorem dX9_does_130 : decode cX9_does 130 = .ok (.ireturn, 1) := by decide +kernel
theorem dX9_does_131 : decode cX9_does 131 = .ok (.aload_n 0, 1) := by decide +kernel
theorem dX9_does_132 : decode cX9_does 132 = .ok (.invokevirtual 124, 3) := by decide +kernel
theorem dX9_does_135 : decode cX9_does 135 = .ok (.ireturn, 1) := by decide +kernel
theorem dX9_does_136 : decode cX9_does 136 = .ok (.aload_n 0, 1) := by decide +kernel
theorem dX9_does_137 : decode cX9_does 137 = .ok (.invokevirtual 127, 3) := by decide +kernel
theorem dX9_does_140 : decode cX9_does 140 = .ok (.ireturn, 1) := by decide +kernel
theorem dX9_does_141 : decode cX9_does 141 = .ok (.aload_n 0, 1) := by decide +kernel
theorem dX9_does_142 : decode cX9_does 142 = .ok (.iload_n 2, 1) := by decide +kernel
theorem dX9_does_143 : decode cX9_does 143 = .ok (.iload_n 3, 1) := by decide +kernel
theorem dX9_does_144 : decode cX9_does 144 = .ok (.invokevirtual 88, 3) := by decide +kernel
theorem dX9_does_147 : decode cX9_does 147 = .ok (.ireturn, 1) := by decide +kernel
theorem dX9_does_148 : decode cX9_does 148 = .ok (.aload_n 0, 1) := by decide +kernel
theorem dX9_does_149 : decode cX9_does 149 = .ok (.invokevirtual 130, 3) := by decide +kernel
theorem dX9_does_152 : decode cX9_does 152 = .ok (.ireturn, 1) := by decide +kernel
theorem dX9_isKnown_0 : decode cX9_isKnown 0 = .ok (.iload_n 0, 1) := by decide +kernel
theorem dX9_isKnown_1 : decode cX9_isKnown 1 = .ok (.bipush 114, 2) := by decide +kernel
theorem dX9_isKnown_3 : decode cX9_isKnown 3 = .ok (.if_icmp .eq 51, 3) := by decide +kernel
theorem dX9_isKnown_6 : decode cX9_isKnown 6 = .ok (.iload_n 0, 1) := by decide +kernel
theorem dX9_isKnown_7 : decode cX9_isKnown 7 = .ok (.bipush 118, 2) := by decide +kernel
theorem dX9_isKnown_9 : decode cX9_isKnown 9 = .ok (.if_icmp .eq 45, 3) := by decide +kernel
theorem dX9_isKnown_12 : decode cX9_isKnown 12 = .ok (.iload_n 0, 1) := by decide +kernel
theorem dX9_isKnown_13 : decode cX9_isKnown 13 = .ok (.bipush 115, 2) := by decide +kernel
theorem dX9_isKnown_15 : decode cX9_isKnown 15 = .ok (.if_icmp .eq 39, 3) := by decide +kernel
theorem dX9_isKnown_18 : decode cX9_isKnown 18 = .ok (.iload_n 0, 1) := by decide +kernel
theorem dX9_isKnown_19 : decode cX9_isKnown 19 = .ok (.bipush 112, 2) := by decide +kernel
theorem dX9_isKnown_21 : decode cX9_isKnown 21 = .ok (.if_icmp .eq 33, 3) := by decide +kernel
theorem dX9_isKnown_24 : decode cX9_isKnown 24 = .ok (.iload_n 0, 1) := by decide +kernel
theorem dX9_isKnown_25 : decode cX9_isKnown 25 = .ok (.bipush 99, 2) := by decide +kernel
theorem dX9_isKnown_27 : decode cX9_isKnown 27 = .ok (.if_icmp .eq 27, 3) := by decide +kernel
theorem dX9_isKnown_30 : decode cX9_isKnown 30 = .ok (.iload_n 0, 1) := by decide +kernel
theorem dX9_isKnown_31 : decode cX9_isKnown 31 = .ok (.bipush 110, 2) := by decide +kernel
theorem dX9_isKnown_33 : decode cX9_isKnown 33 = .ok (.if_icmp .eq 21, 3) := by decide +kernel
theorem dX9_isKnown_36 : decode cX9_isKnown 36 = .ok (.iload_n 0, 1) := by decide +kernel
theorem dX9_isKnown_37 : decode cX9_isKnown 37 = .ok (.bipush 104, 2) := by decide +kernel
theorem dX9_isKnown_39 : decode cX9_isKnown 39 = .ok (.if_icmp .eq 15, 3) := by decide +kernel
theorem dX9_isKnown_42 : decode cX9_isKnown 42 = .ok (.iload_n 0, 1) := by decide +kernel
theorem dX9_isKnown_43 : decode cX9_isKnown 43 = .ok (.bipush 111, 2) := by decide +kernel
theorem dX9_isKnown_45 : decode cX9_isKnown 45 = .ok (.if_icmp .eq 9, 3) := by decide +kernel
theorem dX9_isKnown_48 : decode cX9_isKnown 48 = .ok (.iload_n 0, 1) := by decide +kernel
theorem dX9_isKnown_49 : decode cX9_isKnown 49 = .ok (.bipush 101, 2) := by decide +kernel
theorem dX9_isKnown_51 : decode cX9_isKnown 51 = .ok (.if_icmp .ne 7, 3) := by decide +kernel
theorem dX9_isKnown_54 : decode cX9_isKnown 54 = .ok (.iconst 1, 1) := by decide +kernel
theorem dX9_isKnown_55 : decode cX9_isKnown 55 = .ok (.goto 4, 3) := by decide +kernel
theorem dX9_isKnown_58 : decode cX9_isKnown 58 = .ok (.iconst 0, 1) := by decide +kernel
theorem dX9_isKnown_59 : decode cX9_isKnown 59 = .ok (.ireturn, 1) := by decide +kernel
set_option maxRecDepth 20000 in
theorem ggX9_order_X9_sign : GoodIn wsX9_order wsX9_sign := goodIn_r _ [8, 2, 9, 10, 127, 128, 129, 130, 131, 132, 133, 134, 135, 136, 137, 138, 139, 140, 141, 142, 143, 144] (by decide +kernel) (by decide +kernel)
set_option maxRecDepth 20000 in
theorem gX9_order_X9_sign : GoodIn wsX9_order (wsV RX9 176 RX9 yX9_sign wsX9_sign) := goodIn_app (goodIn_of _ (by decide +kernel)) ggX9_order_X9_sign
set_option maxRecDepth 20000 in
theorem ggX9_order_X9_isKnown : GoodIn wsX9_order wsX9_isKnown := goodIn_r _ [13] (by decide +kernel) (by decide +kernel)
set_option maxRecDepth 20000 in
theorem gX9_order_X9_isKnown : GoodIn wsX9_order (va_wsS RX9 185 yX9_isKnown wsX9_isKnown) := goodIn_app (goodIn_of _ (by decide +kernel)) ggX9_order_X9_isKnown
set_option maxRecDepth 20000 in
theorem ggX9_order_X9_digits : GoodIn wsX9_order wsX9_digits := goodIn_r _ [17, 1, 2, 4, 5, 6, 7, 8, 9, 10, 18, 19, 20, 127, 128, 129, 130, 131, 132, 133, 134, 135, 136, 137, 138, 139, 140, 141, 142, 143, 144] (by decide +kernel) (by decide +kernel)
set_option maxRecDepth 20000 in
theorem gX9_order_X9_digits : GoodIn wsX9_order (wsV RX9 182 RX9 yX9_digits wsX9_digits) := goodIn_app (goodIn_of _ (by decide +kernel)) ggX9_order_X9_digits
set_option maxRecDepth 20000 in
theorem ggX9_order_X9_behind : GoodIn wsX9_order wsX9_behind := goodIn_r _ [24, 1, 25, 26, 27, 7, 28, 2, 4, 5, 6, 8, 9, 10, 14, 15, 16, 17, 18, 19, 20, 127, 128, 129, 130, 131, 132, 133, 134, 135, 136, 137, 138, 139, 140, 141, 142, 143, 144] (by decide +kernel) (by decide +kernel)
set_option maxRecDepth 20000 in
theorem gX9_order_X9_behind : GoodIn wsX9_order (wsV RX9 188 RX9 yX9_behind wsX9_behind) := goodIn_app (goodIn_of _ (by decide +kernel)) ggX9_order_X9_behind
set_option maxRecDepth 20000 in
theorem ggX9_order_X9_plus : GoodIn wsX9_order wsX9_plus := goodIn_r _ [32, 1, 4, 5, 6, 7, 8, 2, 9, 10, 25, 26, 27, 28, 127, 128, 129, 130, 131, 132, 133, 134, 135, 136, 137, 138, 139, 140, 141, 142, 143, 144] (by decide +kernel) (by decide +kernel)
set_option maxRecDepth 20000 in
theorem gX9_order_X9_plus : GoodIn wsX9_order (wsV RX9 191 RX9 yX9_plus wsX9_plus) := goodIn_app (goodIn_of _ (by decide +kernel)) ggX9_order_X9_plus
set_option maxRecDepth 20000 in
theorem ggX9_order_X9_does : GoodIn wsX9_order wsX9_does := goodIn_r _ [36, 37, 38, 39, 7, 40, 41, 42, 43, 44, 18, 19, 20, 45, 46, 47, 48, 49, 50, 51, 52, 53, 54, 55, 56, 57, 58, 59, 60, 61, 62, 63, 64, 65, 66, 67, 68, 69, 70, 71, 72, 73, 74, 75, 76, 77, 78, 79, 80, 81, 82, 83, 84, 85, 86, 87, 88, 89, 90, 91, 92, 93, 94, 95, 96, 97, 98, 99, 100, 101, 102, 103, 104, 105, 106, 107, 108, 109, 110, 111, 112, 113, 114, 115, 116, 117, 118, 119, 120, 121, 122, 123, 124, 125, 126, 127, 128, 129, 130, 131, 132, 133, 134, 135, 136, 137, 138, 139, 140, 141, 142, 143, 144] (by decide +kernel) (by decide +kernel)
set_option maxRecDepth 20000 in
theorem gX9_order_X9_does : GoodIn wsX9_order (wsV RX9 197 RX9 yX9_does wsX9_does) := goodIn_app (goodIn_of _ (by decide +kernel)) ggX9_order_X9_does
theorem dX9_order_0 : decode cX9_order 0 = .ok (.aload_n 0, 1) := by decide +kernel
theorem dX9_order_1 : decode cX9_order 1 = .ok (.invokevirtual 176, 3) := by decide +kernel
theorem dX9_order_4 : decode cX9_order 4 = .ok (.istore_n 1, 1) := by decide +kernel
theorem dX9_order_5 : decode cX9_order 5 = .ok (.iconst 0, 1) := by decide +kernel
theorem dX9_order_6 : decode cX9_order 6 = .ok (.istore_n 2, 1) := by decide +kernel
theorem dX9_order_7 : decode cX9_order 7 = .ok (.iconst 0, 1) := by decide +kernel
theorem dX9_order_8 : decode cX9_order 8 = .ok (.istore_n 3, 1) := by decide +kernel
theorem dX9_order_9 : decode cX9_order 9 = .ok (.iconst 0, 1) := by decide +kernel
theorem dX9_order_10 : decode cX9_order 10 = .ok (.istore 4, 2) := by decide +kernel
theorem dX9_order_12 : decode cX9_order 12 = .ok (.aload_n 0, 1) := by decide +kernel
theorem dX9_order_13 : decode cX9_order 13 = .ok (.iload_n 1, 1) := by decide +kernel
theorem dX9_order_14 : decode cX9_order 14 = .ok (.invokestatic 185, 3) := by decide +kernel
theorem dX9_order_17 : decode cX9_order 17 = .ok (.ifCond .ne 7, 3) := by decide +kernel
theorem dX9_order_20 : decode cX9_order 20 = .ok (.iconst 1, 1) := by decide +kernel
theorem dX9_order_21 : decode cX9_order 21 = .ok (.goto 4, 3) := by decide +kernel
theorem dX9_order_24 : decode cX9_order 24 = .ok (.iconst 0, 1) := by decide +kernel
theorem dX9_order_25 : decode cX9_order 25 = .ok (.putfield 172, 3) := by decide +kernel
theorem dX9_order_28 : decode cX9_order 28 = .ok (.aload_n 0, 1) := by decide +kernel
theorem dX9_order_29 : decode cX9_order 29 = .ok (.getfield 172, 3) := by decide +kernel
theorem dX9_order_32 : decode cX9_order 32 = .ok (.ifCond .eq 4, 3) := by decide +kernel
theorem dX9_order_35 : decode cX9_order 35 = .ok (.return_, 1) := by decide +kernel
theorem dX9_order_36 : decode cX9_order 36 = .ok (.aload_n 0, 1) := by decide +kernel
theorem dX9_order_37 : decode cX9_order 37 = .ok (.dup, 1) := by decide +kernel
theorem dX9_order_38 : decode cX9_order 38 = .ok (.getfield 166, 3) := by decide +kernel
theorem dX9_order_41 : decode cX9_order 41 = .ok (.iconst 1, 1) := by decide +kernel
theorem dX9_order_42 : decode cX9_order 42 = .ok (.iadd, 1) := by decide +kernel
theorem dX9_order_43 : decode cX9_order 43 = .ok (.putfield 166, 3) := by decide +kernel
theorem dX9_order_46 : decode cX9_order 46 = .ok (.iload_n 1, 1) := by decide +kernel
theorem dX9_order_47 : decode cX9_order 47 = .ok (.bipush 110, 2) := by decide +kernel
theorem dX9_order_49 : decode cX9_order 49 = .ok (.if_icmp .eq 15, 3) := by decide +kernel
theorem dX9_order_52 : decode cX9_order 52 = .ok (.iload_n 1, 1) := by decide +kernel
theorem dX9_order_53 : decode cX9_order 53 = .ok (.bipush 104, 2) := by decide +kernel
theorem dX9_order_55 : decode cX9_order 55 = .ok (.if_icmp .eq 9, 3) := by decide +kernel
theorem dX9_order_58 : decode cX9_order 58 = .ok (.iload_n 1, 1) := by decide +kernel
theorem dX9_order_59 : decode cX9_order 59 = .ok (.bipush 101, 2) := by decide +kernel
theorem dX9_order_61 : decode cX9_order 61 = .ok (.if_icmp .ne 7, 3) := by decide +kernel
theorem dX9_order_64 : decode cX9_order 64 = .ok (.iconst 1, 1) := by decide +kernel
theorem dX9_order_65 : decode cX9_order 65 = .ok (.goto 4, 3) := by decide +kernel
theorem dX9_order_68 : decode cX9_order 68 = .ok (.iconst 0, 1) := by decide +kernel
theorem dX9_order_69 : decode cX9_order 69 = .ok (.istore 5, 2) := by decide +kernel
theorem dX9_order_71 : decode cX9_order 71 = .ok (.iload 5, 2) := by decide +kernel
theorem dX9_order_73 : decode cX9_order 73 = .ok (.ifCond .ne 19, 3) := by decide +kernel
theorem dX9_order_76 : decode cX9_order 76 = .ok (.aload_n 0, 1) := by decide +kernel
theorem dX9_order_77 : decode cX9_order 77 = .ok (.iload_n 1, 1) := by decide +kernel
theorem dX9_order_78 : decode cX9_order 78 = .ok (.bipush 114, 2) := by decide +kernel
theorem dX9_order_80 : decode cX9_order 80 = .ok (.if_icmp .ne 7, 3) := by decide +kernel
theorem dX9_order_83 : decode cX9_order 83 = .ok (.iconst 1, 1) := by decide +kernel
theorem dX9_order_84 : decode cX9_order 84 = .ok (.goto 4, 3) := by decide +kernel
theorem dX9_order_87 : decode cX9_order 87 = .ok (.iconst 2, 1) := by decide +kernel
theorem dX9_order_88 : decode cX9_order 88 = .ok (.invokevirtual 182, 3) := by decide +kernel
theorem dX9_order_91 : decode cX9_order 91 = .ok (.istore_n 2, 1) := by decide +kernel
theorem dX9_order_92 : decode cX9_order 92 = .ok (.iload_n 1, 1) := by decide +kernel
theorem dX9_order_93 : decode cX9_order 93 = .ok (.bipush 118, 2) := by decide +kernel
theorem dX9_order_95 : decode cX9_order 95 = .ok (.if_icmp .ne 11, 3) := by decide +kernel
theorem dX9_order_98 : decode cX9_order 98 = .ok (.aload_n 0, 1) := by decide +kernel
theorem dX9_order_99 : decode cX9_order 99 = .ok (.bipush 58, 2) := by decide +kernel
theorem dX9_order_101 : decode cX9_order 101 = .ok (.iconst 1, 1) := by decide +kernel
theorem dX9_order_102 : decode cX9_order 102 = .ok (.invokevirtual 188, 3) := by decide +kernel
theorem dX9_order_105 : decode cX9_order 105 = .ok (.istore_n 3, 1) := by decide +kernel
theorem dX9_order_106 : decode cX9_order 106 = .ok (.iload_n 1, 1) := by decide +kernel
theorem dX9_order_107 : decode cX9_order 107 = .ok (.bipush 115, 2) := by decide +kernel
theorem dX9_order_109 : decode cX9_order 109 = .ok (.if_icmp .ne 8, 3) := by decide +kernel
theorem dX9_order_112 : decode cX9_order 112 = .ok (.aload_n 0, 1) := by decide +kernel
theorem dX9_order_113 : decode cX9_order 113 = .ok (.invokevirtual 191, 3) := by decide +kernel
theorem dX9_order_116 : decode cX9_order 116 = .ok (.istore_n 3, 1) := by decide +kernel
theorem dX9_order_117 : decode cX9_order 117 = .ok (.iload_n 1, 1) := by decide +kernel
theorem dX9_order_118 : decode cX9_order 118 = .ok (.bipush 112, 2) := by decide +kernel
theorem dX9_order_120 : decode cX9_order 120 = .ok (.if_icmp .ne 11, 3) := by decide +kernel
theorem dX9_order_123 : decode cX9_order 123 = .ok (.aload_n 0, 1) := by decide +kernel
theorem dX9_order_124 : decode cX9_order 124 = .ok (.bipush 64, 2) := by decide +kernel
theorem dX9_order_126 : decode cX9_order 126 = .ok (.iconst 2, 1) := by decide +kernel
theorem dX9_order_127 : decode cX9_order 127 = .ok (.invokevirtual 188, 3) := by decide +kernel
theorem dX9_order_130 : decode cX9_order 130 = .ok (.istore_n 3, 1) := by decide +kernel
theorem dX9_order_131 : decode cX9_order 131 = .ok (.iload_n 1, 1) := by decide +kernel
theorem dX9_order_132 : decode cX9_order 132 = .ok (.bipush 112, 2) := by decide +kernel
theorem dX9_order_134 : decode cX9_order 134 = .ok (.if_icmp .ne 12, 3) := by decide +kernel
theorem dX9_order_137 : decode cX9_order 137 = .ok (.aload_n 0, 1) := by decide +kernel
theorem dX9_order_138 : decode cX9_order 138 = .ok (.bipush 42, 2) := by decide +kernel
theorem dX9_order_140 : decode cX9_order 140 = .ok (.iconst 1, 1) := by decide +kernel
theorem dX9_order_141 : decode cX9_order 141 = .ok (.invokevirtual 188, 3) := by decide +kernel
theorem dX9_order_144 : decode cX9_order 144 = .ok (.istore 4, 2) := by decide +kernel
theorem dX9_order_146 : decode cX9_order 146 = .ok (.iload_n 1, 1) := by decide +kernel
theorem dX9_order_147 : decode cX9_order 147 = .ok (.bipush 111, 2) := by decide +kernel
theorem dX9_order_149 : decode cX9_order 149 = .ok (.if_icmp .ne 11, 3) := by decide +kernel
theorem dX9_order_152 : decode cX9_order 152 = .ok (.aload_n 0, 1) := by decide +kernel
theorem dX9_order_153 : decode cX9_order 153 = .ok (.bipush 45, 2) := by decide +kernel
theorem dX9_order_155 : decode cX9_order 155 = .ok (.iconst 1, 1) := by decide +kernel
theorem dX9_order_156 : decode cX9_order 156 = .ok (.invokevirtual 188, 3) := by decide +kernel
theorem dX9_order_159 : decode cX9_order 159 = .ok (.istore_n 3, 1) := by decide +kernel
theorem dX9_order_160 : decode cX9_order 160 = .ok (.aload_n 0, 1) := by decide +kernel
theorem dX9_order_161 : decode cX9_order 161 = .ok (.getfield 172, 3) := by decide +kernel
theorem dX9_order_164 : decode cX9_order 164 = .ok (.ifCond .ne 10, 3) := by decide +kernel
theorem dX9_order_167 : decode cX9_order 167 = .ok (.aload_n 0, 1) := by decide +kernel
theorem dX9_order_168 : decode cX9_order 168 = .ok (.getfield 194, 3) := by decide +kernel
theorem dX9_order_171 : decode cX9_order 171 = .ok (.ifCond .ne 4, 3) := by decide +kernel
theorem dX9_order_174 : decode cX9_order 174 = .ok (.return_, 1) := by decide +kernel
theorem dX9_order_175 : decode cX9_order 175 = .ok (.aload_n 0, 1) := by decide +kernel
theorem dX9_order_176 : decode cX9_order 176 = .ok (.iload_n 1, 1) := by decide +kernel
theorem dX9_order_177 : decode cX9_order 177 = .ok (.iload_n 2, 1) := by decide +kernel
theorem dX9_order_178 : decode cX9_order 178 = .ok (.iload_n 3, 1) := by decide +kernel
theorem dX9_order_179 : decode cX9_order 179 = .ok (.iload 4, 2) := by decide +kernel
theorem dX9_order_181 : decode cX9_order 181 = .ok (.invokevirtual 197, 3) := by decide +kernel
theorem dX9_order_184 : decode cX9_order 184 = .ok (.istore 6, 2) := by decide +kernel
theorem dX9_order_186 : decode cX9_order 186 = .ok (.return_, 1) := by decide +kernel
set_option maxRecDepth 20000 in
theorem ggX9_orders_X9_order : GoodIn wsX9_orders wsX9_order := goodIn_r _ [9, 2, 1, 10, 11, 12, 13, 8, 14, 4, 15, 16, 17, 18, 19, 20, 21, 22, 23, 24, 25, 26, 27, 28, 29, 30, 31, 32, 33, 34, 35, 36, 37, 38, 39, 40, 41, 42, 43, 44, 45, 46, 47, 48, 49, 50, 51, 52, 53, 3, 54, 55, 56, 57, 58, 59, 60, 61, 62, 63, 64, 65, 66, 67, 68, 69, 70, 71, 72, 73, 74, 75, 76, 77, 78, 79, 80, 81, 82, 83, 84, 85, 86, 87, 88, 89, 90, 91, 92, 93, 94, 95, 96, 97, 98, 99, 100, 101, 102, 103, 104, 105, 106, 107, 108, 109, 110, 111, 112, 113, 114, 115, 116, 117, 118, 119, 120, 121, 122, 123, 124, 125, 126, 127, 128, 129, 130, 131, 132, 133, 134, 135, 136, 137, 138, 139, 140, 141, 142, 143, 144, 145, 146, 147, 148] (by decide +kernel) (by decide +kernel)
set_option maxRecDepth 20000 in
theorem gX9_orders_X9_order : GoodIn wsX9_orders (wsV RX9 201 RX9 yX9_order wsX9_order) := goodIn_app (goodIn_of _ (by decide +kernel)) ggX9_orders_X9_order
set_option maxRecDepth 20000 in
theorem ggX9_orders_X9_mark : GoodIn wsX9_orders wsX9_mark := goodIn_r _ [33, 2, 1, 11, 12, 13, 8, 14, 4, 15, 131, 132, 133, 134, 135, 136, 137, 138, 139, 140, 141, 142, 143, 144, 145, 146, 147, 148] (by decide +kernel) (by decide +kernel)
set_option maxRecDepth 20000 in
theorem gX9_orders_X9_mark : GoodIn wsX9_orders (wsV RX9 179 RX9 yX9_mark wsX9_mark) := goodIn_app (goodIn_of _ (by decide +kernel)) ggX9_orders_X9_mark
theorem dX9_orders_0 : decode cX9_orders 0 = .ok (.aload_n 0, 1) := by decide +kernel
theorem dX9_orders_1 : decode cX9_orders 1 = .ok (.iconst 0, 1) := by decide +kernel
theorem dX9_orders_2 : decode cX9_orders 2 = .ok (.putfield 166, 3) := by decide +kernel
theorem dX9_orders_5 : decode cX9_orders 5 = .ok (.aload_n 0, 1) := by decide +kernel
theorem dX9_orders_6 : decode cX9_orders 6 = .ok (.iconst 0, 1) := by decide +kernel
theorem dX9_orders_7 : decode cX9_orders 7 = .ok (.putfield 172, 3) := by decide +kernel
theorem dX9_orders_10 : decode cX9_orders 10 = .ok (.iconst 1, 1) := by decide +kernel
theorem dX9_orders_11 : decode cX9_orders 11 = .ok (.istore_n 1, 1) := by decide +kernel
theorem dX9_orders_12 : decode cX9_orders 12 = .ok (.aload_n 0, 1) := by decide +kernel
theorem dX9_orders_13 : decode cX9_orders 13 = .ok (.invokevirtual 201, 3) := by decide +kernel
theorem dX9_orders_16 : decode cX9_orders 16 = .ok (.aload_n 0, 1) := by decide +kernel
theorem dX9_orders_17 : decode cX9_orders 17 = .ok (.getfield 172, 3) := by decide +kernel
theorem dX9_orders_20 : decode cX9_orders 20 = .ok (.ifCond .ne 44, 3) := by decide +kernel
theorem dX9_orders_23 : decode cX9_orders 23 = .ok (.aload_n 0, 1) := by decide +kernel
theorem dX9_orders_24 : decode cX9_orders 24 = .ok (.getfield 31, 3) := by decide +kernel
theorem dX9_orders_27 : decode cX9_orders 27 = .ok (.ifCond .ne 37, 3) := by decide +kernel
theorem dX9_orders_30 : decode cX9_orders 30 = .ok (.aload_n 0, 1) := by decide +kernel
theorem dX9_orders_31 : decode cX9_orders 31 = .ok (.getfield 166, 3) := by decide +kernel
theorem dX9_orders_34 : decode cX9_orders 34 = .ok (.aload_n 0, 1) := by decide +kernel
theorem dX9_orders_35 : decode cX9_orders 35 = .ok (.getfield 169, 3) := by decide +kernel
theorem dX9_orders_38 : decode cX9_orders 38 = .ok (.if_icmp .ge 26, 3) := by decide +kernel
theorem dX9_orders_41 : decode cX9_orders 41 = .ok (.aload_n 0, 1) := by decide +kernel
theorem dX9_orders_42 : decode cX9_orders 42 = .ok (.bipush 59, 2) := by decide +kernel
theorem dX9_orders_44 : decode cX9_orders 44 = .ok (.invokevirtual 179, 3) := by decide +kernel
theorem dX9_orders_47 : decode cX9_orders 47 = .ok (.aload_n 0, 1) := by decide +kernel
theorem dX9_orders_48 : decode cX9_orders 48 = .ok (.getfield 172, 3) := by decide +kernel
theorem dX9_orders_51 : decode cX9_orders 51 = .ok (.ifCond .ne 7, 3) := by decide +kernel
theorem dX9_orders_54 : decode cX9_orders 54 = .ok (.aload_n 0, 1) := by decide +kernel
theorem dX9_orders_55 : decode cX9_orders 55 = .ok (.invokevirtual 201, 3) := by decide +kernel
theorem dX9_orders_58 : decode cX9_orders 58 = .ok (.iinc 1 1, 3) := by decide +kernel
theorem dX9_orders_61 : decode cX9_orders 61 = .ok (.goto (-45), 3) := by decide +kernel
theorem dX9_orders_64 : decode cX9_orders 64 = .ok (.iload_n 1, 1) := by decide +kernel
theorem dX9_orders_65 : decode cX9_orders 65 = .ok (.ireturn, 1) := by decide +kernel
set_option maxRecDepth 20000 in
theorem ggX9_run_X9_begins : GoodIn wsX9_run wsX9_begins := goodIn_r _ [11, 6, 12, 13, 14, 15, 10, 16, 150, 151, 152, 153, 154, 155, 156, 157, 158, 159, 160, 161, 162, 163, 164, 165, 166, 167] (by decide +kernel) (by decide +kernel)
set_option maxRecDepth 20000 in
theorem gX9_run_X9_begins : GoodIn wsX9_run (wsV RX9 67 RX9 yX9_begins wsX9_begins) := goodIn_app (goodIn_of _ (by decide +kernel)) ggX9_run_X9_begins
set_option maxRecDepth 20000 in
theorem ggX9_run_X9_orders : GoodIn wsX9_run wsX9_orders := goodIn_r _ [20, 5, 4, 6, 2, 21, 22, 23, 10, 24, 3, 25, 26, 27, 28, 29, 30, 31, 32, 33, 34, 35, 36, 37, 38, 39, 40, 41, 42, 43, 44, 45, 46, 47, 48, 49, 50, 51, 52, 53, 54, 55, 56, 57, 58, 59, 13, 60, 61, 62, 63, 64, 65, 66, 67, 68, 69, 70, 71, 72, 73, 74, 75, 76, 77, 78, 79, 80, 81, 82, 83, 84, 85, 86, 87, 88, 89, 90, 91, 92, 93, 94, 95, 96, 97, 98, 99, 100, 101, 102, 103, 104, 105, 106, 107, 108, 109, 110, 111, 112, 113, 114, 115, 116, 117, 118, 119, 120, 121, 122, 123, 124, 125, 126, 127, 128, 129, 130, 131, 132, 133, 134, 135, 136, 137, 138, 139, 140, 141, 142, 143, 150, 151, 152, 153, 154, 155, 156, 157, 158, 159, 160, 161, 162, 163, 164, 165, 166, 167] (by decide +kernel) (by decide +kernel)
set_option maxRecDepth 20000 in
theorem gX9_run_X9_orders : GoodIn wsX9_run (wsV RX9 204 RX9 yX9_orders wsX9_orders) := goodIn_app (goodIn_of _ (by decide +kernel)) ggX9_run_X9_orders
set_option maxRecDepth 20000 in
theorem ggX9_run_X9_refuses : GoodIn wsX9_run wsX9_refuses := goodIn_r _ [70, 71, 72, 63, 64, 65, 10, 66, 6, 150, 151, 152, 153, 154, 155, 156, 157, 158, 159, 160, 161, 162, 163, 164, 165, 166, 167] (by decide +kernel) (by decide +kernel)
set_option maxRecDepth 20000 in
theorem gX9_run_X9_refuses : GoodIn wsX9_run (wsV RX9 60 RX9 yX9_refuses wsX9_refuses) := goodIn_app (goodIn_of _ (by decide +kernel)) ggX9_run_X9_refuses
set_option maxRecDepth 20000 in
theorem ggX9_run_X9_ends : GoodIn wsX9_run wsX9_ends := goodIn_r _ [147, 6, 13, 12, 148, 149, 14, 15, 10, 16, 150, 151, 152, 153, 154, 155, 156, 157, 158, 159, 160, 161, 162, 163, 164, 165, 166, 167] (by decide +kernel) (by decide +kernel)
set_option maxRecDepth 20000 in
theorem gX9_run_X9_ends : GoodIn wsX9_run (wsV RX9 73 RX9 yX9_ends wsX9_ends) := goodIn_app (goodIn_of _ (by decide +kernel)) ggX9_run_X9_ends
theorem dX9_run_0 : decode cX9_run 0 = .ok (.aload_n 0, 1) := by decide +kernel
theorem dX9_run_1 : decode cX9_run 1 = .ok (.invokevirtual 67, 3) := by decide +kernel
theorem dX9_run_4 : decode cX9_run 4 = .ok (.aload_n 0, 1) := by decide +kernel
theorem dX9_run_5 : decode cX9_run 5 = .ok (.aload_n 0, 1) := by decide +kernel
theorem dX9_run_6 : decode cX9_run 6 = .ok (.getfield 163, 3) := by decide +kernel
theorem dX9_run_9 : decode cX9_run 9 = .ok (.putfield 169, 3) := by decide +kernel
theorem dX9_run_12 : decode cX9_run 12 = .ok (.aload_n 0, 1) := by decide +kernel
theorem dX9_run_13 : decode cX9_run 13 = .ok (.iconst 0, 1) := by decide +kernel
theorem dX9_run_14 : decode cX9_run 14 = .ok (.putfield 163, 3) := by decide +kernel
theorem dX9_run_17 : decode cX9_run 17 = .ok (.aload_n 0, 1) := by decide +kernel
theorem dX9_run_18 : decode cX9_run 18 = .ok (.iconst 0, 1) := by decide +kernel
theorem dX9_run_19 : decode cX9_run 19 = .ok (.putfield 194, 3) := by decide +kernel
theorem dX9_run_22 : decode cX9_run 22 = .ok (.aload_n 0, 1) := by decide +kernel
theorem dX9_run_23 : decode cX9_run 23 = .ok (.invokevirtual 204, 3) := by decide +kernel
theorem dX9_run_26 : decode cX9_run 26 = .ok (.istore_n 1, 1) := by decide +kernel
theorem dX9_run_27 : decode cX9_run 27 = .ok (.aload_n 0, 1) := by decide +kernel
theorem dX9_run_28 : decode cX9_run 28 = .ok (.getfield 172, 3) := by decide +kernel
theorem dX9_run_31 : decode cX9_run 31 = .ok (.ifCond .eq 12, 3) := by decide +kernel
theorem dX9_run_34 : decode cX9_run 34 = .ok (.sipush (-2000), 3) := by decide +kernel
theorem dX9_run_37 : decode cX9_run 37 = .ok (.aload_n 0, 1) := by decide +kernel
theorem dX9_run_38 : decode cX9_run 38 = .ok (.getfield 166, 3) := by decide +kernel
theorem dX9_run_41 : decode cX9_run 41 = .ok (.isub, 1) := by decide +kernel
theorem dX9_run_42 : decode cX9_run 42 = .ok (.ireturn, 1) := by decide +kernel
theorem dX9_run_43 : decode cX9_run 43 = .ok (.aload_n 0, 1) := by decide +kernel
theorem dX9_run_44 : decode cX9_run 44 = .ok (.iconst 1, 1) := by decide +kernel
theorem dX9_run_45 : decode cX9_run 45 = .ok (.putfield 194, 3) := by decide +kernel
theorem dX9_run_48 : decode cX9_run 48 = .ok (.aload_n 0, 1) := by decide +kernel
theorem dX9_run_49 : decode cX9_run 49 = .ok (.invokevirtual 204, 3) := by decide +kernel
theorem dX9_run_52 : decode cX9_run 52 = .ok (.istore_n 1, 1) := by decide +kernel
theorem dX9_run_53 : decode cX9_run 53 = .ok (.aload_n 0, 1) := by decide +kernel
theorem dX9_run_54 : decode cX9_run 54 = .ok (.aload_n 0, 1) := by decide +kernel
theorem dX9_run_55 : decode cX9_run 55 = .ok (.getfield 31, 3) := by decide +kernel
theorem dX9_run_58 : decode cX9_run 58 = .ok (.ifCond .ne 7, 3) := by decide +kernel
theorem dX9_run_61 : decode cX9_run 61 = .ok (.iload_n 1, 1) := by decide +kernel
theorem dX9_run_62 : decode cX9_run 62 = .ok (.goto 12, 3) := by decide +kernel
theorem dX9_run_65 : decode cX9_run 65 = .ok (.aload_n 0, 1) := by decide +kernel
theorem dX9_run_66 : decode cX9_run 66 = .ok (.bipush 7, 2) := by decide +kernel
theorem dX9_run_68 : decode cX9_run 68 = .ok (.iload_n 1, 1) := by decide +kernel
theorem dX9_run_69 : decode cX9_run 69 = .ok (.iconst 1, 1) := by decide +kernel
theorem dX9_run_70 : decode cX9_run 70 = .ok (.isub, 1) := by decide +kernel
theorem dX9_run_71 : decode cX9_run 71 = .ok (.invokevirtual 60, 3) := by decide +kernel
theorem dX9_run_74 : decode cX9_run 74 = .ok (.invokevirtual 73, 3) := by decide +kernel
theorem dX9_run_77 : decode cX9_run 77 = .ok (.ireturn, 1) := by decide +kernel
set_option maxRecDepth 20000 in
theorem ggX9_tell_X9_isRope : GoodIn wsX9_tell wsX9_isRope := goodIn_r _ [7, 2, 8, 9, 6, 10, 27, 28, 29, 30, 31, 32, 33, 34, 35, 36, 37, 38, 39, 40, 41, 42, 43, 44] (by decide +kernel) (by decide +kernel)
set_option maxRecDepth 20000 in
theorem gX9_tell_X9_isRope : GoodIn wsX9_tell (wsV RX9 76 RX9 yX9_isRope wsX9_isRope) := goodIn_app (goodIn_of _ (by decide +kernel)) ggX9_tell_X9_isRope
set_option maxRecDepth 20000 in
theorem ggX9_tell_X9_writesNumber : GoodIn wsX9_tell wsX9_writesNumber := goodIn_r _ [14, 15, 16, 17, 6, 18, 19, 1, 27, 28, 29, 30, 31, 32, 33, 34, 35, 36, 37, 38, 39, 40, 41, 42, 43, 44] (by decide +kernel) (by decide +kernel)
set_option maxRecDepth 20000 in
theorem gX9_tell_X9_writesNumber : GoodIn wsX9_tell (wsV RX9 207 RX9 yX9_writesNumber wsX9_writesNumber) := goodIn_app (goodIn_of _ (by decide +kernel)) ggX9_tell_X9_writesNumber
set_option maxRecDepth 20000 in
theorem ggX9_tell_X9_writes : GoodIn wsX9_tell wsX9_writes := goodIn_r _ [18, 19, 1, 27, 28, 29, 30, 31, 32, 33, 34, 35, 36, 37, 38, 39, 40, 41, 42, 43, 44] (by decide +kernel) (by decide +kernel)
set_option maxRecDepth 20000 in
theorem gX9_tell_X9_writes : GoodIn wsX9_tell (wsV RX9 160 RX9 yX9_writes wsX9_writes) := goodIn_app (goodIn_of _ (by decide +kernel)) ggX9_tell_X9_writes
set_option maxRecDepth 20000 in
theorem ggX9_tell_X9_at : GoodIn wsX9_tell wsX9_at := goodIn_r _ [22] (by decide +kernel) (by decide +kernel)
set_option maxRecDepth 20000 in
theorem gX9_tell_X9_at : GoodIn wsX9_tell (va_wsS RX9 64 yX9_at wsX9_at) := goodIn_app (goodIn_of _ (by decide +kernel)) ggX9_tell_X9_at
set_option maxRecDepth 20000 in
theorem ggX9_tell_X9_pulled : GoodIn wsX9_tell wsX9_pulled := goodIn_r _ [26, 2, 27, 28, 29, 30, 31, 32, 33, 34, 35, 36, 37, 38, 39, 40, 41, 42, 43, 44] (by decide +kernel) (by decide +kernel)
set_option maxRecDepth 20000 in
theorem gX9_tell_X9_pulled : GoodIn wsX9_tell (wsV RX9 91 RX9 yX9_pulled wsX9_pulled) := goodIn_app (goodIn_of _ (by decide +kernel)) ggX9_tell_X9_pulled
theorem dX9_tell_0 : decode cX9_tell 0 = .ok (.aload_n 0, 1) := by decide +kernel
theorem dX9_tell_1 : decode cX9_tell 1 = .ok (.iload_n 1, 1) := by decide +kernel
theorem dX9_tell_2 : decode cX9_tell 2 = .ok (.invokevirtual 76, 3) := by decide +kernel
theorem dX9_tell_5 : decode cX9_tell 5 = .ok (.ifCond .ne 7, 3) := by decide +kernel
theorem dX9_tell_8 : decode cX9_tell 8 = .ok (.sipush (-1011), 3) := by decide +kernel
theorem dX9_tell_11 : decode cX9_tell 11 = .ok (.ireturn, 1) := by decide +kernel
theorem dX9_tell_12 : decode cX9_tell 12 = .ok (.aload_n 0, 1) := by decide +kernel
theorem dX9_tell_13 : decode cX9_tell 13 = .ok (.iconst 0, 1) := by decide +kernel
theorem dX9_tell_14 : decode cX9_tell 14 = .ok (.putfield 157, 3) := by decide +kernel
theorem dX9_tell_17 : decode cX9_tell 17 = .ok (.aload_n 0, 1) := by decide +kernel
theorem dX9_tell_18 : decode cX9_tell 18 = .ok (.iload_n 1, 1) := by decide +kernel
theorem dX9_tell_19 : decode cX9_tell 19 = .ok (.invokevirtual 207, 3) := by decide +kernel
theorem dX9_tell_22 : decode cX9_tell 22 = .ok (.aload_n 0, 1) := by decide +kernel
theorem dX9_tell_23 : decode cX9_tell 23 = .ok (.bipush 58, 2) := by decide +kernel
theorem dX9_tell_25 : decode cX9_tell 25 = .ok (.invokevirtual 160, 3) := by decide +kernel
theorem dX9_tell_28 : decode cX9_tell 28 = .ok (.aload_n 0, 1) := by decide +kernel
theorem dX9_tell_29 : decode cX9_tell 29 = .ok (.aload_n 0, 1) := by decide +kernel
theorem dX9_tell_30 : decode cX9_tell 30 = .ok (.getfield 7, 3) := by decide +kernel
theorem dX9_tell_33 : decode cX9_tell 33 = .ok (.iload_n 1, 1) := by decide +kernel
theorem dX9_tell_34 : decode cX9_tell 34 = .ok (.iconst 0, 1) := by decide +kernel
theorem dX9_tell_35 : decode cX9_tell 35 = .ok (.invokestatic 64, 3) := by decide +kernel
theorem dX9_tell_38 : decode cX9_tell 38 = .ok (.iaload, 1) := by decide +kernel
theorem dX9_tell_39 : decode cX9_tell 39 = .ok (.invokevirtual 207, 3) := by decide +kernel
theorem dX9_tell_42 : decode cX9_tell 42 = .ok (.aload_n 0, 1) := by decide +kernel
theorem dX9_tell_43 : decode cX9_tell 43 = .ok (.getfield 7, 3) := by decide +kernel
theorem dX9_tell_46 : decode cX9_tell 46 = .ok (.iload_n 1, 1) := by decide +kernel
theorem dX9_tell_47 : decode cX9_tell 47 = .ok (.iconst 1, 1) := by decide +kernel
theorem dX9_tell_48 : decode cX9_tell 48 = .ok (.invokestatic 64, 3) := by decide +kernel
theorem dX9_tell_51 : decode cX9_tell 51 = .ok (.iaload, 1) := by decide +kernel
theorem dX9_tell_52 : decode cX9_tell 52 = .ok (.ifCond .ne 9, 3) := by decide +kernel
theorem dX9_tell_55 : decode cX9_tell 55 = .ok (.aload_n 0, 1) := by decide +kernel
theorem dX9_tell_56 : decode cX9_tell 56 = .ok (.bipush 35, 2) := by decide +kernel
theorem dX9_tell_58 : decode cX9_tell 58 = .ok (.invokevirtual 160, 3) := by decide +kernel
theorem dX9_tell_61 : decode cX9_tell 61 = .ok (.iconst 0, 1) := by decide +kernel
theorem dX9_tell_62 : decode cX9_tell 62 = .ok (.istore_n 2, 1) := by decide +kernel
theorem dX9_tell_63 : decode cX9_tell 63 = .ok (.iload_n 2, 1) := by decide +kernel
theorem dX9_tell_64 : decode cX9_tell 64 = .ok (.aload_n 0, 1) := by decide +kernel
theorem dX9_tell_65 : decode cX9_tell 65 = .ok (.getfield 7, 3) := by decide +kernel
theorem dX9_tell_68 : decode cX9_tell 68 = .ok (.iload_n 1, 1) := by decide +kernel
theorem dX9_tell_69 : decode cX9_tell 69 = .ok (.iconst 2, 1) := by decide +kernel
theorem dX9_tell_70 : decode cX9_tell 70 = .ok (.invokestatic 64, 3) := by decide +kernel
theorem dX9_tell_73 : decode cX9_tell 73 = .ok (.iaload, 1) := by decide +kernel
theorem dX9_tell_74 : decode cX9_tell 74 = .ok (.if_icmp .ge 15, 3) := by decide +kernel
theorem dX9_tell_77 : decode cX9_tell 77 = .ok (.aload_n 0, 1) := by decide +kernel
theorem dX9_tell_78 : decode cX9_tell 78 = .ok (.bipush 126, 2) := by decide +kernel
theorem dX9_tell_80 : decode cX9_tell 80 = .ok (.invokevirtual 160, 3) := by decide +kernel
theorem dX9_tell_83 : decode cX9_tell 83 = .ok (.iinc 2 1, 3) := by decide +kernel
theorem dX9_tell_86 : decode cX9_tell 86 = .ok (.goto (-23), 3) := by decide +kernel
theorem dX9_tell_89 : decode cX9_tell 89 = .ok (.iconst 0, 1) := by decide +kernel
theorem dX9_tell_90 : decode cX9_tell 90 = .ok (.istore_n 2, 1) := by decide +kernel
theorem dX9_tell_91 : decode cX9_tell 91 = .ok (.iload_n 2, 1) := by decide +kernel
theorem dX9_tell_92 : decode cX9_tell 92 = .ok (.aload_n 0, 1) := by decide +kernel
theorem dX9_tell_93 : decode cX9_tell 93 = .ok (.getfield 7, 3) := by decide +kernel
theorem dX9_tell_96 : decode cX9_tell 96 = .ok (.iconst 1, 1) := by decide +kernel
theorem dX9_tell_97 : decode cX9_tell 97 = .ok (.iaload, 1) := by decide +kernel
theorem dX9_tell_98 : decode cX9_tell 98 = .ok (.if_icmp .ge 54, 3) := by decide +kernel
theorem dX9_tell_101 : decode cX9_tell 101 = .ok (.aload_n 0, 1) := by decide +kernel
theorem dX9_tell_102 : decode cX9_tell 102 = .ok (.iload_n 2, 1) := by decide +kernel
theorem dX9_tell_103 : decode cX9_tell 103 = .ok (.iconst 0, 1) := by decide +kernel
theorem dX9_tell_104 : decode cX9_tell 104 = .ok (.invokevirtual 91, 3) := by decide +kernel
theorem dX9_tell_107 : decode cX9_tell 107 = .ok (.iload_n 1, 1) := by decide +kernel
theorem dX9_tell_108 : decode cX9_tell 108 = .ok (.if_icmp .eq 6, 3) := by decide +kernel
theorem dX9_tell_111 : decode cX9_tell 111 = .ok (.goto 35, 3) := by decide +kernel
theorem dX9_tell_114 : decode cX9_tell 114 = .ok (.aload_n 0, 1) := by decide +kernel
theorem dX9_tell_115 : decode cX9_tell 115 = .ok (.bipush 64, 2) := by decide +kernel
theorem dX9_tell_117 : decode cX9_tell 117 = .ok (.invokevirtual 160, 3) := by decide +kernel
theorem dX9_tell_120 : decode cX9_tell 120 = .ok (.aload_n 0, 1) := by decide +kernel
theorem dX9_tell_121 : decode cX9_tell 121 = .ok (.aload_n 0, 1) := by decide +kernel
theorem dX9_tell_122 : decode cX9_tell 122 = .ok (.iload_n 2, 1) := by decide +kernel
theorem dX9_tell_123 : decode cX9_tell 123 = .ok (.iconst 1, 1) := by decide +kernel
theorem dX9_tell_124 : decode cX9_tell 124 = .ok (.invokevirtual 91, 3) := by decide +kernel
theorem dX9_tell_127 : decode cX9_tell 127 = .ok (.invokevirtual 207, 3) := by decide +kernel
theorem dX9_tell_130 : decode cX9_tell 130 = .ok (.aload_n 0, 1) := by decide +kernel
theorem dX9_tell_131 : decode cX9_tell 131 = .ok (.bipush 42, 2) := by decide +kernel
theorem dX9_tell_133 : decode cX9_tell 133 = .ok (.invokevirtual 160, 3) := by decide +kernel
theorem dX9_tell_136 : decode cX9_tell 136 = .ok (.aload_n 0, 1) := by decide +kernel
theorem dX9_tell_137 : decode cX9_tell 137 = .ok (.aload_n 0, 1) := by decide +kernel
theorem dX9_tell_138 : decode cX9_tell 138 = .ok (.iload_n 2, 1) := by decide +kernel
theorem dX9_tell_139 : decode cX9_tell 139 = .ok (.iconst 2, 1) := by decide +kernel
theorem dX9_tell_140 : decode cX9_tell 140 = .ok (.invokevirtual 91, 3) := by decide +kernel
theorem dX9_tell_143 : decode cX9_tell 143 = .ok (.invokevirtual 207, 3) := by decide +kernel
theorem dX9_tell_146 : decode cX9_tell 146 = .ok (.iinc 2 1, 3) := by decide +kernel
theorem dX9_tell_149 : decode cX9_tell 149 = .ok (.goto (-58), 3) := by decide +kernel
theorem dX9_tell_152 : decode cX9_tell 152 = .ok (.aload_n 0, 1) := by decide +kernel
theorem dX9_tell_153 : decode cX9_tell 153 = .ok (.getfield 157, 3) := by decide +kernel
theorem dX9_tell_156 : decode cX9_tell 156 = .ok (.ireturn, 1) := by decide +kernel
set_option maxRecDepth 20000 in
theorem ggX9_tellDay_X9_writes : GoodIn wsX9_tellDay wsX9_writes := goodIn_r _ [7, 8, 1, 24, 25, 26, 27, 28, 29, 30, 31, 32, 33, 34, 35, 36, 37, 38, 39, 40, 41] (by decide +kernel) (by decide +kernel)
set_option maxRecDepth 20000 in
theorem gX9_tellDay_X9_writes : GoodIn wsX9_tellDay (wsV RX9 160 RX9 yX9_writes wsX9_writes) := goodIn_app (goodIn_of _ (by decide +kernel)) ggX9_tellDay_X9_writes
set_option maxRecDepth 20000 in
theorem ggX9_tellDay_X9_writesNumber : GoodIn wsX9_tellDay wsX9_writesNumber := goodIn_r _ [12, 3, 4, 5, 6, 7, 8, 1, 24, 25, 26, 27, 28, 29, 30, 31, 32, 33, 34, 35, 36, 37, 38, 39, 40, 41] (by decide +kernel) (by decide +kernel)
set_option maxRecDepth 20000 in
theorem gX9_tellDay_X9_writesNumber : GoodIn wsX9_tellDay (wsV RX9 207 RX9 yX9_writesNumber wsX9_writesNumber) := goodIn_app (goodIn_of _ (by decide +kernel)) ggX9_tellDay_X9_writesNumber
set_option maxRecDepth 20000 in
theorem ggX9_tellDay_X9_guessed : GoodIn wsX9_tellDay wsX9_guessed := goodIn_r _ [16, 2, 17, 18, 19, 6, 20, 21, 22, 23, 24, 25, 26, 27, 28, 29, 30, 31, 32, 33, 34, 35, 36, 37, 38, 39, 40, 41] (by decide +kernel) (by decide +kernel)
set_option maxRecDepth 20000 in
theorem gX9_tellDay_X9_guessed : GoodIn wsX9_tellDay (wsV RX9 142 RX9 yX9_guessed wsX9_guessed) := goodIn_app (goodIn_of _ (by decide +kernel)) ggX9_tellDay_X9_guessed
theorem dX9_tellDay_0 : decode cX9_tellDay 0 = .ok (.aload_n 0, 1) := by decide +kernel
theorem dX9_tellDay_1 : decode cX9_tellDay 1 = .ok (.iconst 0, 1) := by decide +kernel
theorem dX9_tellDay_2 : decode cX9_tellDay 2 = .ok (.putfield 157, 3) := by decide +kernel
theorem dX9_tellDay_5 : decode cX9_tellDay 5 = .ok (.iconst 0, 1) := by decide +kernel
theorem dX9_tellDay_6 : decode cX9_tellDay 6 = .ok (.istore_n 1, 1) := by decide +kernel
theorem dX9_tellDay_7 : decode cX9_tellDay 7 = .ok (.iload_n 1, 1) := by decide +kernel
theorem dX9_tellDay_8 : decode cX9_tellDay 8 = .ok (.bipush 24, 2) := by decide +kernel
theorem dX9_tellDay_10 : decode cX9_tellDay 10 = .ok (.if_icmp .ge 58, 3) := by decide +kernel
theorem dX9_tellDay_13 : decode cX9_tellDay 13 = .ok (.aload_n 0, 1) := by decide +kernel
theorem dX9_tellDay_14 : decode cX9_tellDay 14 = .ok (.getfield 7, 3) := by decide +kernel
theorem dX9_tellDay_17 : decode cX9_tellDay 17 = .ok (.sipush 211, 3) := by decide +kernel
theorem dX9_tellDay_20 : decode cX9_tellDay 20 = .ok (.iload_n 1, 1) := by decide +kernel
theorem dX9_tellDay_21 : decode cX9_tellDay 21 = .ok (.iadd, 1) := by decide +kernel
theorem dX9_tellDay_22 : decode cX9_tellDay 22 = .ok (.iaload, 1) := by decide +kernel
theorem dX9_tellDay_23 : decode cX9_tellDay 23 = .ok (.ifCond .ne 6, 3) := by decide +kernel
theorem dX9_tellDay_26 : decode cX9_tellDay 26 = .ok (.goto 36, 3) := by decide +kernel
theorem dX9_tellDay_29 : decode cX9_tellDay 29 = .ok (.aload_n 0, 1) := by decide +kernel
theorem dX9_tellDay_30 : decode cX9_tellDay 30 = .ok (.getfield 157, 3) := by decide +kernel
theorem dX9_tellDay_33 : decode cX9_tellDay 33 = .ok (.ifCond .le 9, 3) := by decide +kernel
theorem dX9_tellDay_36 : decode cX9_tellDay 36 = .ok (.aload_n 0, 1) := by decide +kernel
theorem dX9_tellDay_37 : decode cX9_tellDay 37 = .ok (.bipush 32, 2) := by decide +kernel
theorem dX9_tellDay_39 : decode cX9_tellDay 39 = .ok (.invokevirtual 160, 3) := by decide +kernel
theorem dX9_tellDay_42 : decode cX9_tellDay 42 = .ok (.aload_n 0, 1) := by decide +kernel
theorem dX9_tellDay_43 : decode cX9_tellDay 43 = .ok (.iload_n 1, 1) := by decide +kernel
theorem dX9_tellDay_44 : decode cX9_tellDay 44 = .ok (.invokevirtual 207, 3) := by decide +kernel
theorem dX9_tellDay_47 : decode cX9_tellDay 47 = .ok (.aload_n 0, 1) := by decide +kernel
theorem dX9_tellDay_48 : decode cX9_tellDay 48 = .ok (.bipush 61, 2) := by decide +kernel
theorem dX9_tellDay_50 : decode cX9_tellDay 50 = .ok (.invokevirtual 160, 3) := by decide +kernel
theorem dX9_tellDay_53 : decode cX9_tellDay 53 = .ok (.aload_n 0, 1) := by decide +kernel
theorem dX9_tellDay_54 : decode cX9_tellDay 54 = .ok (.aload_n 0, 1) := by decide +kernel
theorem dX9_tellDay_55 : decode cX9_tellDay 55 = .ok (.iload_n 1, 1) := by decide +kernel
theorem dX9_tellDay_56 : decode cX9_tellDay 56 = .ok (.invokevirtual 142, 3) := by decide +kernel
theorem dX9_tellDay_59 : decode cX9_tellDay 59 = .ok (.invokevirtual 207, 3) := by decide +kernel
theorem dX9_tellDay_62 : decode cX9_tellDay 62 = .ok (.iinc 1 1, 3) := by decide +kernel
theorem dX9_tellDay_65 : decode cX9_tellDay 65 = .ok (.goto (-58), 3) := by decide +kernel
theorem dX9_tellDay_68 : decode cX9_tellDay 68 = .ok (.aload_n 0, 1) := by decide +kernel
theorem dX9_tellDay_69 : decode cX9_tellDay 69 = .ok (.getfield 157, 3) := by decide +kernel
theorem dX9_tellDay_72 : decode cX9_tellDay 72 = .ok (.ireturn, 1) := by decide +kernel
set_option maxRecDepth 20000 in
theorem ggX9_character_X9_isIn : GoodIn wsX9_character wsX9_isIn := goodIn_r _ [6] (by decide +kernel) (by decide +kernel)
set_option maxRecDepth 20000 in
theorem gX9_character_X9_isIn : GoodIn wsX9_character (va_wsS RX9 52 yX9_isIn wsX9_isIn) := goodIn_app (goodIn_of _ (by decide +kernel)) ggX9_character_X9_isIn
theorem dX9_character_0 : decode cX9_character 0 = .ok (.iload_n 1, 1) := by decide +kernel
theorem dX9_character_1 : decode cX9_character 1 = .ok (.iconst 0, 1) := by decide +kernel
theorem dX9_character_2 : decode cX9_character 2 = .ok (.aload_n 0, 1) := by decide +kernel
theorem dX9_character_3 : decode cX9_character 3 = .ok (.getfield 157, 3) := by decide +kernel
theorem dX9_character_6 : decode cX9_character 6 = .ok (.iconst 1, 1) := by decide +kernel
theorem dX9_character_7 : decode cX9_character 7 = .ok (.isub, 1) := by decide +kernel
theorem dX9_character_8 : decode cX9_character 8 = .ok (.invokestatic 52, 3) := by decide +kernel
theorem dX9_character_11 : decode cX9_character 11 = .ok (.ifCond .eq 12, 3) := by decide +kernel
theorem dX9_character_14 : decode cX9_character 14 = .ok (.aload_n 0, 1) := by decide +kernel
theorem dX9_character_15 : decode cX9_character 15 = .ok (.getfield 28, 3) := by decide +kernel
theorem dX9_character_18 : decode cX9_character 18 = .ok (.iload_n 1, 1) := by decide +kernel
theorem dX9_character_19 : decode cX9_character 19 = .ok (.iaload, 1) := by decide +kernel
theorem dX9_character_20 : decode cX9_character 20 = .ok (.goto 6, 3) := by decide +kernel
theorem dX9_character_23 : decode cX9_character 23 = .ok (.sipush (-1011), 3) := by decide +kernel
theorem dX9_character_26 : decode cX9_character 26 = .ok (.ireturn, 1) := by decide +kernel
theorem dX9_reason_0 : decode cX9_reason 0 = .ok (.aload_n 0, 1) := by decide +kernel
theorem dX9_reason_1 : decode cX9_reason 1 = .ok (.getfield 35, 3) := by decide +kernel
theorem dX9_reason_4 : decode cX9_reason 4 = .ok (.ifCond .ne 9, 3) := by decide +kernel
theorem dX9_reason_7 : decode cX9_reason 7 = .ok (.sipush (-1015), 3) := by decide +kernel
theorem dX9_reason_10 : decode cX9_reason 10 = .ok (.goto 18, 3) := by decide +kernel
theorem dX9_reason_13 : decode cX9_reason 13 = .ok (.iload_n 1, 1) := by decide +kernel
theorem dX9_reason_14 : decode cX9_reason 14 = .ok (.ifCond .eq 10, 3) := by decide +kernel
theorem dX9_reason_17 : decode cX9_reason 17 = .ok (.aload_n 0, 1) := by decide +kernel
theorem dX9_reason_18 : decode cX9_reason 18 = .ok (.getfield 38, 3) := by decide +kernel
theorem dX9_reason_21 : decode cX9_reason 21 = .ok (.goto 7, 3) := by decide +kernel
theorem dX9_reason_24 : decode cX9_reason 24 = .ok (.aload_n 0, 1) := by decide +kernel
theorem dX9_reason_25 : decode cX9_reason 25 = .ok (.getfield 35, 3) := by decide +kernel
theorem dX9_reason_28 : decode cX9_reason 28 = .ok (.ireturn, 1) := by decide +kernel
set_option maxRecDepth 20000 in
theorem ggX9_rust_X9_at : GoodIn wsX9_rust wsX9_at := goodIn_r _ [5] (by decide +kernel) (by decide +kernel)
set_option maxRecDepth 20000 in
theorem gX9_rust_X9_at : GoodIn wsX9_rust (va_wsS RX9 64 yX9_at wsX9_at) := goodIn_app (goodIn_of _ (by decide +kernel)) ggX9_rust_X9_at
theorem dX9_rust_0 : decode cX9_rust 0 = .ok (.iconst 0, 1) := by decide +kernel
theorem dX9_rust_1 : decode cX9_rust 1 = .ok (.istore_n 1, 1) := by decide +kernel
theorem dX9_rust_2 : decode cX9_rust 2 = .ok (.iconst 0, 1) := by decide +kernel
theorem dX9_rust_3 : decode cX9_rust 3 = .ok (.istore_n 2, 1) := by decide +kernel
theorem dX9_rust_4 : decode cX9_rust 4 = .ok (.iload_n 2, 1) := by decide +kernel
theorem dX9_rust_5 : decode cX9_rust 5 = .ok (.aload_n 0, 1) := by decide +kernel
theorem dX9_rust_6 : decode cX9_rust 6 = .ok (.getfield 7, 3) := by decide +kernel
theorem dX9_rust_9 : decode cX9_rust 9 = .ok (.iconst 0, 1) := by decide +kernel
theorem dX9_rust_10 : decode cX9_rust 10 = .ok (.iaload, 1) := by decide +kernel
theorem dX9_rust_11 : decode cX9_rust 11 = .ok (.if_icmp .ge 22, 3) := by decide +kernel
theorem dX9_rust_14 : decode cX9_rust 14 = .ok (.iload_n 1, 1) := by decide +kernel
theorem dX9_rust_15 : decode cX9_rust 15 = .ok (.aload_n 0, 1) := by decide +kernel
theorem dX9_rust_16 : decode cX9_rust 16 = .ok (.getfield 7, 3) := by decide +kernel
theorem dX9_rust_19 : decode cX9_rust 19 = .ok (.iload_n 2, 1) := by decide +kernel
theorem dX9_rust_20 : decode cX9_rust 20 = .ok (.iconst 2, 1) := by decide +kernel
theorem dX9_rust_21 : decode cX9_rust 21 = .ok (.invokestatic 64, 3) := by decide +kernel
theorem dX9_rust_24 : decode cX9_rust 24 = .ok (.iaload, 1) := by decide +kernel
theorem dX9_rust_25 : decode cX9_rust 25 = .ok (.iadd, 1) := by decide +kernel
theorem dX9_rust_26 : decode cX9_rust 26 = .ok (.istore_n 1, 1) := by decide +kernel
theorem dX9_rust_27 : decode cX9_rust 27 = .ok (.iinc 2 1, 3) := by decide +kernel
theorem dX9_rust_30 : decode cX9_rust 30 = .ok (.goto (-26), 3) := by decide +kernel
theorem dX9_rust_33 : decode cX9_rust 33 = .ok (.iload_n 1, 1) := by decide +kernel
theorem dX9_rust_34 : decode cX9_rust 34 = .ok (.ireturn, 1) := by decide +kernel
set_option maxRecDepth 20000 in
theorem ggX9_account_X9_isIn : GoodIn wsX9_account wsX9_isIn := goodIn_r _ [7] (by decide +kernel) (by decide +kernel)
set_option maxRecDepth 20000 in
theorem gX9_account_X9_isIn : GoodIn wsX9_account (va_wsS RX9 52 yX9_isIn wsX9_isIn) := goodIn_app (goodIn_of _ (by decide +kernel)) ggX9_account_X9_isIn
set_option maxRecDepth 20000 in
theorem ggX9_account_X9_rust : GoodIn wsX9_account wsX9_rust := goodIn_r _ [11, 1, 12, 13, 6, 14, 15, 16, 17, 18, 19, 20, 21, 22, 23, 24, 25, 26, 27, 28, 29, 30, 31, 32] (by decide +kernel) (by decide +kernel)
set_option maxRecDepth 20000 in
theorem gX9_account_X9_rust : GoodIn wsX9_account (wsV RX9 210 RX9 yX9_rust wsX9_rust) := goodIn_app (goodIn_of _ (by decide +kernel)) ggX9_account_X9_rust
theorem dX9_account_0 : decode cX9_account 0 = .ok (.iload_n 1, 1) := by decide +kernel
theorem dX9_account_1 : decode cX9_account 1 = .ok (.iconst 0, 1) := by decide +kernel
theorem dX9_account_2 : decode cX9_account 2 = .ok (.bipush 8, 2) := by decide +kernel
theorem dX9_account_4 : decode cX9_account 4 = .ok (.invokestatic 52, 3) := by decide +kernel
theorem dX9_account_7 : decode cX9_account 7 = .ok (.ifCond .eq 10, 3) := by decide +kernel
theorem dX9_account_10 : decode cX9_account 10 = .ok (.aload_n 0, 1) := by decide +kernel
theorem dX9_account_11 : decode cX9_account 11 = .ok (.getfield 7, 3) := by decide +kernel
theorem dX9_account_14 : decode cX9_account 14 = .ok (.iload_n 1, 1) := by decide +kernel
theorem dX9_account_15 : decode cX9_account 15 = .ok (.iaload, 1) := by decide +kernel
theorem dX9_account_16 : decode cX9_account 16 = .ok (.ireturn, 1) := by decide +kernel
theorem dX9_account_17 : decode cX9_account 17 = .ok (.iload_n 1, 1) := by decide +kernel
theorem dX9_account_18 : decode cX9_account 18 = .ok (.tableswitch 53 9 12 #[30, 35, 43, 48], 30) := by decide +kernel
theorem dX9_account_48 : decode cX9_account 48 = .ok (.aload_n 0, 1) := by decide +kernel
theorem dX9_account_49 : decode cX9_account 49 = .ok (.invokevirtual 210, 3) := by decide +kernel
theorem dX9_account_52 : decode cX9_account 52 = .ok (.ireturn, 1) := by decide +kernel
theorem dX9_account_53 : decode cX9_account 53 = .ok (.aload_n 0, 1) := by decide +kernel
theorem dX9_account_54 : decode cX9_account 54 = .ok (.getfield 7, 3) := by decide +kernel
theorem dX9_account_57 : decode cX9_account 57 = .ok (.bipush 9, 2) := by decide +kernel
theorem dX9_account_59 : decode cX9_account 59 = .ok (.iaload, 1) := by decide +kernel
theorem dX9_account_60 : decode cX9_account 60 = .ok (.ireturn, 1) := by decide +kernel
theorem dX9_account_61 : decode cX9_account 61 = .ok (.aload_n 0, 1) := by decide +kernel
theorem dX9_account_62 : decode cX9_account 62 = .ok (.getfield 163, 3) := by decide +kernel
theorem dX9_account_65 : decode cX9_account 65 = .ok (.ireturn, 1) := by decide +kernel
theorem dX9_account_66 : decode cX9_account 66 = .ok (.aload_n 0, 1) := by decide +kernel
theorem dX9_account_67 : decode cX9_account 67 = .ok (.getfield 49, 3) := by decide +kernel
theorem dX9_account_70 : decode cX9_account 70 = .ok (.ireturn, 1) := by decide +kernel
theorem dX9_account_71 : decode cX9_account 71 = .ok (.sipush (-1012), 3) := by decide +kernel
theorem dX9_account_74 : decode cX9_account 74 = .ok (.ireturn, 1) := by decide +kernel
theorem dX9_isBalanced_0 : decode cX9_isBalanced 0 = .ok (.aload_n 0, 1) := by decide +kernel
theorem dX9_isBalanced_1 : decode cX9_isBalanced 1 = .ok (.getfield 7, 3) := by decide +kernel
theorem dX9_isBalanced_4 : decode cX9_isBalanced 4 = .ok (.iconst 4, 1) := by decide +kernel
theorem dX9_isBalanced_5 : decode cX9_isBalanced 5 = .ok (.iaload, 1) := by decide +kernel
theorem dX9_isBalanced_6 : decode cX9_isBalanced 6 = .ok (.aload_n 0, 1) := by decide +kernel
theorem dX9_isBalanced_7 : decode cX9_isBalanced 7 = .ok (.getfield 7, 3) := by decide +kernel
theorem dX9_isBalanced_10 : decode cX9_isBalanced 10 = .ok (.iconst 1, 1) := by decide +kernel
theorem dX9_isBalanced_11 : decode cX9_isBalanced 11 = .ok (.iaload, 1) := by decide +kernel
theorem dX9_isBalanced_12 : decode cX9_isBalanced 12 = .ok (.aload_n 0, 1) := by decide +kernel
theorem dX9_isBalanced_13 : decode cX9_isBalanced 13 = .ok (.getfield 7, 3) := by decide +kernel
theorem dX9_isBalanced_16 : decode cX9_isBalanced 16 = .ok (.iconst 5, 1) := by decide +kernel
theorem dX9_isBalanced_17 : decode cX9_isBalanced 17 = .ok (.iaload, 1) := by decide +kernel
theorem dX9_isBalanced_18 : decode cX9_isBalanced 18 = .ok (.iadd, 1) := by decide +kernel
theorem dX9_isBalanced_19 : decode cX9_isBalanced 19 = .ok (.aload_n 0, 1) := by decide +kernel
theorem dX9_isBalanced_20 : decode cX9_isBalanced 20 = .ok (.getfield 7, 3) := by decide +kernel
theorem dX9_isBalanced_23 : decode cX9_isBalanced 23 = .ok (.bipush 6, 2) := by decide +kernel
theorem dX9_isBalanced_25 : decode cX9_isBalanced 25 = .ok (.iaload, 1) := by decide +kernel
theorem dX9_isBalanced_26 : decode cX9_isBalanced 26 = .ok (.iadd, 1) := by decide +kernel
theorem dX9_isBalanced_27 : decode cX9_isBalanced 27 = .ok (.aload_n 0, 1) := by decide +kernel
theorem dX9_isBalanced_28 : decode cX9_isBalanced 28 = .ok (.getfield 7, 3) := by decide +kernel
theorem dX9_isBalanced_31 : decode cX9_isBalanced 31 = .ok (.bipush 7, 2) := by decide +kernel
theorem dX9_isBalanced_33 : decode cX9_isBalanced 33 = .ok (.iaload, 1) := by decide +kernel
theorem dX9_isBalanced_34 : decode cX9_isBalanced 34 = .ok (.iadd, 1) := by decide +kernel
theorem dX9_isBalanced_35 : decode cX9_isBalanced 35 = .ok (.aload_n 0, 1) := by decide +kernel
theorem dX9_isBalanced_36 : decode cX9_isBalanced 36 = .ok (.getfield 7, 3) := by decide +kernel
theorem dX9_isBalanced_39 : decode cX9_isBalanced 39 = .ok (.bipush 8, 2) := by decide +kernel
theorem dX9_isBalanced_41 : decode cX9_isBalanced 41 = .ok (.iaload, 1) := by decide +kernel
theorem dX9_isBalanced_42 : decode cX9_isBalanced 42 = .ok (.iadd, 1) := by decide +kernel
theorem dX9_isBalanced_43 : decode cX9_isBalanced 43 = .ok (.if_icmp .ne 7, 3) := by decide +kernel
theorem dX9_isBalanced_46 : decode cX9_isBalanced 46 = .ok (.iconst 1, 1) := by decide +kernel
theorem dX9_isBalanced_47 : decode cX9_isBalanced 47 = .ok (.goto 4, 3) := by decide +kernel
theorem dX9_isBalanced_50 : decode cX9_isBalanced 50 = .ok (.iconst 0, 1) := by decide +kernel
theorem dX9_isBalanced_51 : decode cX9_isBalanced 51 = .ok (.ireturn, 1) := by decide +kernel
set_option maxRecDepth 20000 in
theorem ggX9_meanRust_X9_rust : GoodIn wsX9_meanRust wsX9_rust := goodIn_r _ [6, 1, 7, 8, 5, 9, 10, 11, 12, 13, 14, 15, 16, 17, 18, 19, 20, 21, 22, 23, 24, 25, 26, 27] (by decide +kernel) (by decide +kernel)
set_option maxRecDepth 20000 in
theorem gX9_meanRust_X9_rust : GoodIn wsX9_meanRust (wsV RX9 210 RX9 yX9_rust wsX9_rust) := goodIn_app (goodIn_of _ (by decide +kernel)) ggX9_meanRust_X9_rust
theorem dX9_meanRust_0 : decode cX9_meanRust 0 = .ok (.aload_n 0, 1) := by decide +kernel
theorem dX9_meanRust_1 : decode cX9_meanRust 1 = .ok (.getfield 7, 3) := by decide +kernel
theorem dX9_meanRust_4 : decode cX9_meanRust 4 = .ok (.iconst 0, 1) := by decide +kernel
theorem dX9_meanRust_5 : decode cX9_meanRust 5 = .ok (.iaload, 1) := by decide +kernel
theorem dX9_meanRust_6 : decode cX9_meanRust 6 = .ok (.ifCond .ne 7, 3) := by decide +kernel
theorem dX9_meanRust_9 : decode cX9_meanRust 9 = .ok (.dconst 0, 1) := by decide +kernel
theorem dX9_meanRust_10 : decode cX9_meanRust 10 = .ok (.goto 16, 3) := by decide +kernel
theorem dX9_meanRust_13 : decode cX9_meanRust 13 = .ok (.aload_n 0, 1) := by decide +kernel
theorem dX9_meanRust_14 : decode cX9_meanRust 14 = .ok (.invokevirtual 210, 3) := by decide +kernel
theorem dX9_meanRust_17 : decode cX9_meanRust 17 = .ok (.i2d, 1) := by decide +kernel
theorem dX9_meanRust_18 : decode cX9_meanRust 18 = .ok (.aload_n 0, 1) := by decide +kernel
theorem dX9_meanRust_19 : decode cX9_meanRust 19 = .ok (.getfield 7, 3) := by decide +kernel
theorem dX9_meanRust_22 : decode cX9_meanRust 22 = .ok (.iconst 0, 1) := by decide +kernel
theorem dX9_meanRust_23 : decode cX9_meanRust 23 = .ok (.iaload, 1) := by decide +kernel
theorem dX9_meanRust_24 : decode cX9_meanRust 24 = .ok (.i2d, 1) := by decide +kernel
theorem dX9_meanRust_25 : decode cX9_meanRust 25 = .ok (.ddiv, 1) := by decide +kernel
theorem dX9_meanRust_26 : decode cX9_meanRust 26 = .ok (.dreturn, 1) := by decide +kernel
theorem dX9_answerShare_0 : decode cX9_answerShare 0 = .ok (.aload_n 0, 1) := by decide +kernel
theorem dX9_answerShare_1 : decode cX9_answerShare 1 = .ok (.getfield 7, 3) := by decide +kernel
theorem dX9_answerShare_4 : decode cX9_answerShare 4 = .ok (.iconst 5, 1) := by decide +kernel
theorem dX9_answerShare_5 : decode cX9_answerShare 5 = .ok (.iaload, 1) := by decide +kernel
theorem dX9_answerShare_6 : decode cX9_answerShare 6 = .ok (.aload_n 0, 1) := by decide +kernel
theorem dX9_answerShare_7 : decode cX9_answerShare 7 = .ok (.getfield 7, 3) := by decide +kernel
theorem dX9_answerShare_10 : decode cX9_answerShare 10 = .ok (.bipush 6, 2) := by decide +kernel
theorem dX9_answerShare_12 : decode cX9_answerShare 12 = .ok (.iaload, 1) := by decide +kernel
theorem dX9_answerShare_13 : decode cX9_answerShare 13 = .ok (.iadd, 1) := by decide +kernel
theorem dX9_answerShare_14 : decode cX9_answerShare 14 = .ok (.aload_n 0, 1) := by decide +kernel
theorem dX9_answerShare_15 : decode cX9_answerShare 15 = .ok (.getfield 7, 3) := by decide +kernel
theorem dX9_answerShare_18 : decode cX9_answerShare 18 = .ok (.bipush 7, 2) := by decide +kernel
theorem dX9_answerShare_20 : decode cX9_answerShare 20 = .ok (.iaload, 1) := by decide +kernel
theorem dX9_answerShare_21 : decode cX9_answerShare 21 = .ok (.iadd, 1) := by decide +kernel
theorem dX9_answerShare_22 : decode cX9_answerShare 22 = .ok (.istore_n 1, 1) := by decide +kernel
theorem dX9_answerShare_23 : decode cX9_answerShare 23 = .ok (.iload_n 1, 1) := by decide +kernel
theorem dX9_answerShare_24 : decode cX9_answerShare 24 = .ok (.ifCond .ne 7, 3) := by decide +kernel
theorem dX9_answerShare_27 : decode cX9_answerShare 27 = .ok (.fconst 0, 1) := by decide +kernel
theorem dX9_answerShare_28 : decode cX9_answerShare 28 = .ok (.goto 13, 3) := by decide +kernel
theorem dX9_answerShare_31 : decode cX9_answerShare 31 = .ok (.aload_n 0, 1) := by decide +kernel
theorem dX9_answerShare_32 : decode cX9_answerShare 32 = .ok (.getfield 7, 3) := by decide +kernel
theorem dX9_answerShare_35 : decode cX9_answerShare 35 = .ok (.iconst 5, 1) := by decide +kernel
theorem dX9_answerShare_36 : decode cX9_answerShare 36 = .ok (.iaload, 1) := by decide +kernel
theorem dX9_answerShare_37 : decode cX9_answerShare 37 = .ok (.i2f, 1) := by decide +kernel
theorem dX9_answerShare_38 : decode cX9_answerShare 38 = .ok (.iload_n 1, 1) := by decide +kernel
theorem dX9_answerShare_39 : decode cX9_answerShare 39 = .ok (.i2f, 1) := by decide +kernel
theorem dX9_answerShare_40 : decode cX9_answerShare 40 = .ok (.fdiv, 1) := by decide +kernel
theorem dX9_answerShare_41 : decode cX9_answerShare 41 = .ok (.freturn, 1) := by decide +kernel
theorem dX9_undo_0 : decode cX9_undo 0 = .ok (.aload_n 0, 1) := by decide +kernel
theorem dX9_undo_1 : decode cX9_undo 1 = .ok (.getfield 49, 3) := by decide +kernel
theorem dX9_undo_4 : decode cX9_undo 4 = .ok (.ifCond .ne 7, 3) := by decide +kernel
theorem dX9_undo_7 : decode cX9_undo 7 = .ok (.sipush (-1015), 3) := by decide +kernel
theorem dX9_undo_10 : decode cX9_undo 10 = .ok (.ireturn, 1) := by decide +kernel
theorem dX9_undo_11 : decode cX9_undo 11 = .ok (.aload_n 0, 1) := by decide +kernel
theorem dX9_undo_12 : decode cX9_undo 12 = .ok (.dup, 1) := by decide +kernel
theorem dX9_undo_13 : decode cX9_undo 13 = .ok (.getfield 49, 3) := by decide +kernel
theorem dX9_undo_16 : decode cX9_undo 16 = .ok (.iconst 1, 1) := by decide +kernel
theorem dX9_undo_17 : decode cX9_undo 17 = .ok (.isub, 1) := by decide +kernel
theorem dX9_undo_18 : decode cX9_undo 18 = .ok (.putfield 49, 3) := by decide +kernel
theorem dX9_undo_21 : decode cX9_undo 21 = .ok (.iconst 0, 1) := by decide +kernel
theorem dX9_undo_22 : decode cX9_undo 22 = .ok (.istore_n 1, 1) := by decide +kernel
theorem dX9_undo_23 : decode cX9_undo 23 = .ok (.iload_n 1, 1) := by decide +kernel
theorem dX9_undo_24 : decode cX9_undo 24 = .ok (.sipush 235, 3) := by decide +kernel
theorem dX9_undo_27 : decode cX9_undo 27 = .ok (.if_icmp .ge 30, 3) := by decide +kernel
theorem dX9_undo_30 : decode cX9_undo 30 = .ok (.aload_n 0, 1) := by decide +kernel
theorem dX9_undo_31 : decode cX9_undo 31 = .ok (.getfield 7, 3) := by decide +kernel
theorem dX9_undo_34 : decode cX9_undo 34 = .ok (.iload_n 1, 1) := by decide +kernel
theorem dX9_undo_35 : decode cX9_undo 35 = .ok (.aload_n 0, 1) := by decide +kernel
theorem dX9_undo_36 : decode cX9_undo 36 = .ok (.getfield 22, 3) := by decide +kernel
theorem dX9_undo_39 : decode cX9_undo 39 = .ok (.aload_n 0, 1) := by decide +kernel
theorem dX9_undo_40 : decode cX9_undo 40 = .ok (.getfield 49, 3) := by decide +kernel
theorem dX9_undo_43 : decode cX9_undo 43 = .ok (.sipush 235, 3) := by decide +kernel
theorem dX9_undo_46 : decode cX9_undo 46 = .ok (.imul, 1) := by decide +kernel
theorem dX9_undo_47 : decode cX9_undo 47 = .ok (.iload_n 1, 1) := by decide +kernel
theorem dX9_undo_48 : decode cX9_undo 48 = .ok (.iadd, 1) := by decide +kernel
theorem dX9_undo_49 : decode cX9_undo 49 = .ok (.iaload, 1) := by decide +kernel
theorem dX9_undo_50 : decode cX9_undo 50 = .ok (.iastore, 1) := by decide +kernel
theorem dX9_undo_51 : decode cX9_undo 51 = .ok (.iinc 1 1, 3) := by decide +kernel
theorem dX9_undo_54 : decode cX9_undo 54 = .ok (.goto (-31), 3) := by decide +kernel
theorem dX9_undo_57 : decode cX9_undo 57 = .ok (.aload_n 0, 1) := by decide +kernel
theorem dX9_undo_58 : decode cX9_undo 58 = .ok (.getfield 49, 3) := by decide +kernel
theorem dX9_undo_61 : decode cX9_undo 61 = .ok (.ireturn, 1) := by decide +kernel
set_option maxRecDepth 20000 in
theorem ggX9_save_X9_lays : GoodIn wsX9_save wsX9_lays := goodIn_r _ [7] (by decide +kernel) (by decide +kernel)
set_option maxRecDepth 20000 in
theorem gX9_save_X9_lays : GoodIn wsX9_save (va_wsS RX9 45 yX9_lays wsX9_lays) := goodIn_app (goodIn_of _ (by decide +kernel)) ggX9_save_X9_lays
theorem dX9_save_0 : decode cX9_save 0 = .ok (.aload_n 0, 1) := by decide +kernel
theorem dX9_save_1 : decode cX9_save 1 = .ok (.getfield 16, 3) := by decide +kernel
theorem dX9_save_4 : decode cX9_save 4 = .ok (.aload_n 0, 1) := by decide +kernel
theorem dX9_save_5 : decode cX9_save 5 = .ok (.getfield 7, 3) := by decide +kernel
theorem dX9_save_8 : decode cX9_save 8 = .ok (.invokestatic 45, 3) := by decide +kernel
theorem dX9_save_11 : decode cX9_save 11 = .ok (.aload_n 0, 1) := by decide +kernel
theorem dX9_save_12 : decode cX9_save 12 = .ok (.iconst 1, 1) := by decide +kernel
theorem dX9_save_13 : decode cX9_save 13 = .ok (.putfield 213, 3) := by decide +kernel
theorem dX9_save_16 : decode cX9_save 16 = .ok (.aload_n 0, 1) := by decide +kernel
theorem dX9_save_17 : decode cX9_save 17 = .ok (.getfield 7, 3) := by decide +kernel
theorem dX9_save_20 : decode cX9_save 20 = .ok (.iconst 0, 1) := by decide +kernel
theorem dX9_save_21 : decode cX9_save 21 = .ok (.iaload, 1) := by decide +kernel
theorem dX9_save_22 : decode cX9_save 22 = .ok (.ireturn, 1) := by decide +kernel
