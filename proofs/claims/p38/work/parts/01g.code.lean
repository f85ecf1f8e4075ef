theorem dX7_copyFrom_57 : decode cX7_copyFrom 57 = .ok (.putfield 54, 3) := by decide +kernel
theorem dX7_copyFrom_60 : decode cX7_copyFrom 60 = .ok (.aload_n 0, 1) := by decide +kernel
theorem dX7_copyFrom_61 : decode cX7_copyFrom 61 = .ok (.aload_n 1, 1) := by decide +kernel
theorem dX7_copyFrom_62 : decode cX7_copyFrom 62 = .ok (.getfield 57, 3) := by decide +kernel
theorem dX7_copyFrom_65 : decode cX7_copyFrom 65 = .ok (.putfield 57, 3) := by decide +kernel
theorem dX7_copyFrom_68 : decode cX7_copyFrom 68 = .ok (.aload_n 0, 1) := by decide +kernel
theorem dX7_copyFrom_69 : decode cX7_copyFrom 69 = .ok (.aload_n 1, 1) := by decide +kernel
theorem dX7_copyFrom_70 : decode cX7_copyFrom 70 = .ok (.getfield 60, 3) := by decide +kernel
theorem dX7_copyFrom_73 : decode cX7_copyFrom 73 = .ok (.putfield 60, 3) := by decide +kernel
theorem dX7_copyFrom_76 : decode cX7_copyFrom 76 = .ok (.aload_n 0, 1) := by decide +kernel
theorem dX7_copyFrom_77 : decode cX7_copyFrom 77 = .ok (.aload_n 1, 1) := by decide +kernel
theorem dX7_copyFrom_78 : decode cX7_copyFrom 78 = .ok (.getfield 63, 3) := by decide +kernel
theorem dX7_copyFrom_81 : decode cX7_copyFrom 81 = .ok (.putfield 63, 3) := by decide +kernel
theorem dX7_copyFrom_84 : decode cX7_copyFrom 84 = .ok (.aload_n 0, 1) := by decide +kernel
theorem dX7_copyFrom_85 : decode cX7_copyFrom 85 = .ok (.aload_n 1, 1) := by decide +kernel
theorem dX7_copyFrom_86 : decode cX7_copyFrom 86 = .ok (.getfield 66, 3) := by decide +kernel
theorem dX7_copyFrom_89 : decode cX7_copyFrom 89 = .ok (.putfield 66, 3) := by decide +kernel
theorem dX7_copyFrom_92 : decode cX7_copyFrom 92 = .ok (.aload_n 0, 1) := by decide +kernel
theorem dX7_copyFrom_93 : decode cX7_copyFrom 93 = .ok (.aload_n 1, 1) := by decide +kernel
theorem dX7_copyFrom_94 : decode cX7_copyFrom 94 = .ok (.getfield 69, 3) := by decide +kernel
theorem dX7_copyFrom_97 : decode cX7_copyFrom 97 = .ok (.putfield 69, 3) := by decide +kernel
theorem dX7_copyFrom_100 : decode cX7_copyFrom 100 = .ok (.aload_n 0, 1) := by decide +kernel
theorem dX7_copyFrom_101 : decode cX7_copyFrom 101 = .ok (.aload_n 1, 1) := by decide +kernel
theorem dX7_copyFrom_102 : decode cX7_copyFrom 102 = .ok (.getfield 72, 3) := by decide +kernel
theorem dX7_copyFrom_105 : decode cX7_copyFrom 105 = .ok (.putfield 72, 3) := by decide +kernel
theorem dX7_copyFrom_108 : decode cX7_copyFrom 108 = .ok (.return_, 1) := by decide +kernel
theorem dX7_ringFirst_0 : decode cX7_ringFirst 0 = .ok (.aload_n 0, 1) := by decide +kernel
theorem dX7_ringFirst_1 : decode cX7_ringFirst 1 = .ok (.getfield 21, 3) := by decide +kernel
theorem dX7_ringFirst_4 : decode cX7_ringFirst 4 = .ok (.getfield 75, 3) := by decide +kernel
theorem dX7_ringFirst_7 : decode cX7_ringFirst 7 = .ok (.iconst 0, 1) := by decide +kernel
theorem dX7_ringFirst_8 : decode cX7_ringFirst 8 = .ok (.invokestatic 78, 3) := by decide +kernel
theorem dX7_ringFirst_11 : decode cX7_ringFirst 11 = .ok (.istore_n 1, 1) := by decide +kernel
theorem dX7_ringFirst_12 : decode cX7_ringFirst 12 = .ok (.aload_n 0, 1) := by decide +kernel
theorem dX7_ringFirst_13 : decode cX7_ringFirst 13 = .ok (.getfield 21, 3) := by decide +kernel
theorem dX7_ringFirst_16 : decode cX7_ringFirst 16 = .ok (.getfield 82, 3) := by decide +kernel
theorem dX7_ringFirst_19 : decode cX7_ringFirst 19 = .ok (.iconst 0, 1) := by decide +kernel
theorem dX7_ringFirst_20 : decode cX7_ringFirst 20 = .ok (.invokestatic 78, 3) := by decide +kernel
theorem dX7_ringFirst_23 : decode cX7_ringFirst 23 = .ok (.istore_n 2, 1) := by decide +kernel
theorem dX7_ringFirst_24 : decode cX7_ringFirst 24 = .ok (.aload_n 0, 1) := by decide +kernel
theorem dX7_ringFirst_25 : decode cX7_ringFirst 25 = .ok (.aload_n 0, 1) := by decide +kernel
theorem dX7_ringFirst_26 : decode cX7_ringFirst 26 = .ok (.getfield 21, 3) := by decide +kernel
theorem dX7_ringFirst_29 : decode cX7_ringFirst 29 = .ok (.getfield 85, 3) := by decide +kernel
theorem dX7_ringFirst_32 : decode cX7_ringFirst 32 = .ok (.iconst 0, 1) := by decide +kernel
theorem dX7_ringFirst_33 : decode cX7_ringFirst 33 = .ok (.invokestatic 78, 3) := by decide +kernel
theorem dX7_ringFirst_36 : decode cX7_ringFirst 36 = .ok (.putfield 50, 3) := by decide +kernel
theorem dX7_ringFirst_39 : decode cX7_ringFirst 39 = .ok (.aload_n 0, 1) := by decide +kernel
theorem dX7_ringFirst_40 : decode cX7_ringFirst 40 = .ok (.getfield 21, 3) := by decide +kernel
theorem dX7_ringFirst_43 : decode cX7_ringFirst 43 = .ok (.invokevirtual 87, 3) := by decide +kernel
theorem dX7_ringFirst_46 : decode cX7_ringFirst 46 = .ok (.aload_n 0, 1) := by decide +kernel
theorem dX7_ringFirst_47 : decode cX7_ringFirst 47 = .ok (.dup, 1) := by decide +kernel
theorem dX7_ringFirst_48 : decode cX7_ringFirst 48 = .ok (.getfield 60, 3) := by decide +kernel
theorem dX7_ringFirst_51 : decode cX7_ringFirst 51 = .ok (.iconst 1, 1) := by decide +kernel
theorem dX7_ringFirst_52 : decode cX7_ringFirst 52 = .ok (.iadd, 1) := by decide +kernel
theorem dX7_ringFirst_53 : decode cX7_ringFirst 53 = .ok (.putfield 60, 3) := by decide +kernel
theorem dX7_ringFirst_56 : decode cX7_ringFirst 56 = .ok (.aload_n 0, 1) := by decide +kernel
theorem dX7_ringFirst_57 : decode cX7_ringFirst 57 = .ok (.getfield 32, 3) := by decide +kernel
theorem dX7_ringFirst_60 : decode cX7_ringFirst 60 = .ok (.aload_n 0, 1) := by decide +kernel
theorem dX7_ringFirst_61 : decode cX7_ringFirst 61 = .ok (.getfield 50, 3) := by decide +kernel
theorem dX7_ringFirst_64 : decode cX7_ringFirst 64 = .ok (.invokestatic 78, 3) := by decide +kernel
theorem dX7_ringFirst_67 : decode cX7_ringFirst 67 = .ok (.iload_n 1, 1) := by decide +kernel
theorem dX7_ringFirst_68 : decode cX7_ringFirst 68 = .ok (.invokestatic 90, 3) := by decide +kernel
theorem dX7_ringFirst_71 : decode cX7_ringFirst 71 = .ok (.ifCond .eq 27, 3) := by decide +kernel
theorem dX7_ringFirst_74 : decode cX7_ringFirst 74 = .ok (.aload_n 0, 1) := by decide +kernel
theorem dX7_ringFirst_75 : decode cX7_ringFirst 75 = .ok (.dup, 1) := by decide +kernel
theorem dX7_ringFirst_76 : decode cX7_ringFirst 76 = .ok (.getfield 69, 3) := by decide +kernel
theorem dX7_ringFirst_79 : decode cX7_ringFirst 79 = .ok (.iconst 1, 1) := by decide +kernel
theorem dX7_ringFirst_80 : decode cX7_ringFirst 80 = .ok (.iadd, 1) := by decide +kernel
theorem dX7_ringFirst_81 : decode cX7_ringFirst 81 = .ok (.putfield 69, 3) := by decide +kernel
theorem dX7_ringFirst_84 : decode cX7_ringFirst 84 = .ok (.aload_n 0, 1) := by decide +kernel
theorem dX7_ringFirst_85 : decode cX7_ringFirst 85 = .ok (.getfield 12, 3) := by decide +kernel
theorem dX7_ringFirst_88 : decode cX7_ringFirst 88 = .ok (.getfield 94, 3) := by decide +kernel
theorem dX7_ringFirst_91 : decode cX7_ringFirst 91 = .ok (.iload_n 1, 1) := by decide +kernel
theorem dX7_ringFirst_92 : decode cX7_ringFirst 92 = .ok (.iconst 1, 1) := by decide +kernel
theorem dX7_ringFirst_93 : decode cX7_ringFirst 93 = .ok (.invokestatic 96, 3) := by decide +kernel
theorem dX7_ringFirst_96 : decode cX7_ringFirst 96 = .ok (.iconst 2, 1) := by decide +kernel
theorem dX7_ringFirst_97 : decode cX7_ringFirst 97 = .ok (.ireturn, 1) := by decide +kernel
theorem dX7_ringFirst_98 : decode cX7_ringFirst 98 = .ok (.aload_n 0, 1) := by decide +kernel
theorem dX7_ringFirst_99 : decode cX7_ringFirst 99 = .ok (.getfield 12, 3) := by decide +kernel
theorem dX7_ringFirst_102 : decode cX7_ringFirst 102 = .ok (.iload_n 1, 1) := by decide +kernel
theorem dX7_ringFirst_103 : decode cX7_ringFirst 103 = .ok (.iload_n 2, 1) := by decide +kernel
theorem dX7_ringFirst_104 : decode cX7_ringFirst 104 = .ok (.invokevirtual 100, 3) := by decide +kernel
theorem dX7_ringFirst_107 : decode cX7_ringFirst 107 = .ok (.ifCond .ne 10, 3) := by decide +kernel
theorem dX7_ringFirst_110 : decode cX7_ringFirst 110 = .ok (.aload_n 0, 1) := by decide +kernel
theorem dX7_ringFirst_111 : decode cX7_ringFirst 111 = .ok (.iload_n 1, 1) := by decide +kernel
theorem dX7_ringFirst_112 : decode cX7_ringFirst 112 = .ok (.invokevirtual 103, 3) := by decide +kernel
theorem dX7_ringFirst_115 : decode cX7_ringFirst 115 = .ok (.iconst 0, 1) := by decide +kernel
theorem dX7_ringFirst_116 : decode cX7_ringFirst 116 = .ok (.ireturn, 1) := by decide +kernel
theorem dX7_ringFirst_117 : decode cX7_ringFirst 117 = .ok (.aload_n 0, 1) := by decide +kernel
theorem dX7_ringFirst_118 : decode cX7_ringFirst 118 = .ok (.iload_n 1, 1) := by decide +kernel
theorem dX7_ringFirst_119 : decode cX7_ringFirst 119 = .ok (.iload_n 2, 1) := by decide +kernel
theorem dX7_ringFirst_120 : decode cX7_ringFirst 120 = .ok (.invokevirtual 107, 3) := by decide +kernel
theorem dX7_ringFirst_123 : decode cX7_ringFirst 123 = .ok (.iconst 1, 1) := by decide +kernel
theorem dX7_ringFirst_124 : decode cX7_ringFirst 124 = .ok (.ireturn, 1) := by decide +kernel
theorem dX7_miss_0 : decode cX7_miss 0 = .ok (.aload_n 0, 1) := by decide +kernel
theorem dX7_miss_1 : decode cX7_miss 1 = .ok (.dup, 1) := by decide +kernel
theorem dX7_miss_2 : decode cX7_miss 2 = .ok (.getfield 66, 3) := by decide +kernel
theorem dX7_miss_5 : decode cX7_miss 5 = .ok (.iconst 1, 1) := by decide +kernel
theorem dX7_miss_6 : decode cX7_miss 6 = .ok (.iadd, 1) := by decide +kernel
theorem dX7_miss_7 : decode cX7_miss 7 = .ok (.putfield 66, 3) := by decide +kernel
theorem dX7_miss_10 : decode cX7_miss 10 = .ok (.aload_n 0, 1) := by decide +kernel
theorem dX7_miss_11 : decode cX7_miss 11 = .ok (.getfield 12, 3) := by decide +kernel
theorem dX7_miss_14 : decode cX7_miss 14 = .ok (.getfield 111, 3) := by decide +kernel
theorem dX7_miss_17 : decode cX7_miss 17 = .ok (.iload_n 1, 1) := by decide +kernel
theorem dX7_miss_18 : decode cX7_miss 18 = .ok (.iconst 1, 1) := by decide +kernel
theorem dX7_miss_19 : decode cX7_miss 19 = .ok (.invokestatic 96, 3) := by decide +kernel
theorem dX7_miss_22 : decode cX7_miss 22 = .ok (.return_, 1) := by decide +kernel
theorem dX7_answer_0 : decode cX7_answer 0 = .ok (.aload_n 0, 1) := by decide +kernel
theorem dX7_answer_1 : decode cX7_answer 1 = .ok (.dup, 1) := by decide +kernel
theorem dX7_answer_2 : decode cX7_answer 2 = .ok (.getfield 63, 3) := by decide +kernel
theorem dX7_answer_5 : decode cX7_answer 5 = .ok (.iconst 1, 1) := by decide +kernel
theorem dX7_answer_6 : decode cX7_answer 6 = .ok (.iadd, 1) := by decide +kernel
theorem dX7_answer_7 : decode cX7_answer 7 = .ok (.putfield 63, 3) := by decide +kernel
theorem dX7_answer_10 : decode cX7_answer 10 = .ok (.aload_n 0, 1) := by decide +kernel
theorem dX7_answer_11 : decode cX7_answer 11 = .ok (.getfield 12, 3) := by decide +kernel
theorem dX7_answer_14 : decode cX7_answer 14 = .ok (.getfield 113, 3) := by decide +kernel
theorem dX7_answer_17 : decode cX7_answer 17 = .ok (.iload_n 1, 1) := by decide +kernel
theorem dX7_answer_18 : decode cX7_answer 18 = .ok (.iconst 1, 1) := by decide +kernel
theorem dX7_answer_19 : decode cX7_answer 19 = .ok (.invokestatic 96, 3) := by decide +kernel
theorem dX7_answer_22 : decode cX7_answer 22 = .ok (.aload_n 0, 1) := by decide +kernel
theorem dX7_answer_23 : decode cX7_answer 23 = .ok (.getfield 12, 3) := by decide +kernel
theorem dX7_answer_26 : decode cX7_answer 26 = .ok (.iload_n 1, 1) := by decide +kernel
theorem dX7_answer_27 : decode cX7_answer 27 = .ok (.invokevirtual 115, 3) := by decide +kernel
theorem dX7_answer_30 : decode cX7_answer 30 = .ok (.aload_n 0, 1) := by decide +kernel
theorem dX7_answer_31 : decode cX7_answer 31 = .ok (.getfield 32, 3) := by decide +kernel
theorem dX7_answer_34 : decode cX7_answer 34 = .ok (.aload_n 0, 1) := by decide +kernel
theorem dX7_answer_35 : decode cX7_answer 35 = .ok (.getfield 50, 3) := by decide +kernel
theorem dX7_answer_38 : decode cX7_answer 38 = .ok (.aload_n 0, 1) := by decide +kernel
theorem dX7_answer_39 : decode cX7_answer 39 = .ok (.getfield 32, 3) := by decide +kernel
theorem dX7_answer_42 : decode cX7_answer 42 = .ok (.aload_n 0, 1) := by decide +kernel
theorem dX7_answer_43 : decode cX7_answer 43 = .ok (.getfield 50, 3) := by decide +kernel
theorem dX7_answer_46 : decode cX7_answer 46 = .ok (.invokestatic 78, 3) := by decide +kernel
theorem dX7_answer_49 : decode cX7_answer 49 = .ok (.iload_n 1, 1) := by decide +kernel
theorem dX7_answer_50 : decode cX7_answer 50 = .ok (.invokestatic 118, 3) := by decide +kernel
theorem dX7_answer_53 : decode cX7_answer 53 = .ok (.ior, 1) := by decide +kernel
theorem dX7_answer_54 : decode cX7_answer 54 = .ok (.invokestatic 122, 3) := by decide +kernel
theorem dX7_answer_57 : decode cX7_answer 57 = .ok (.aload_n 0, 1) := by decide +kernel
theorem dX7_answer_58 : decode cX7_answer 58 = .ok (.getfield 28, 3) := by decide +kernel
theorem dX7_answer_61 : decode cX7_answer 61 = .ok (.iload_n 1, 1) := by decide +kernel
theorem dX7_answer_62 : decode cX7_answer 62 = .ok (.aload_n 0, 1) := by decide +kernel
theorem dX7_answer_63 : decode cX7_answer 63 = .ok (.getfield 50, 3) := by decide +kernel
theorem dX7_answer_66 : decode cX7_answer 66 = .ok (.aload_n 0, 1) := by decide +kernel
theorem dX7_answer_67 : decode cX7_answer 67 = .ok (.getfield 54, 3) := by decide +kernel
theorem dX7_answer_70 : decode cX7_answer 70 = .ok (.iload_n 2, 1) := by decide +kernel
theorem dX7_answer_71 : decode cX7_answer 71 = .ok (.invokevirtual 125, 3) := by decide +kernel
theorem dX7_answer_74 : decode cX7_answer 74 = .ok (.return_, 1) := by decide +kernel
theorem dX7_endDay_0 : decode cX7_endDay 0 = .ok (.aload_n 0, 1) := by decide +kernel
theorem dX7_endDay_1 : decode cX7_endDay 1 = .ok (.getfield 21, 3) := by decide +kernel
theorem dX7_endDay_4 : decode cX7_endDay 4 = .ok (.getfield 129, 3) := by decide +kernel
theorem dX7_endDay_7 : decode cX7_endDay 7 = .ok (.istore_n 1, 1) := by decide +kernel
theorem dX7_endDay_8 : decode cX7_endDay 8 = .ok (.iconst 0, 1) := by decide +kernel
theorem dX7_endDay_9 : decode cX7_endDay 9 = .ok (.istore_n 2, 1) := by decide +kernel
theorem dX7_endDay_10 : decode cX7_endDay 10 = .ok (.iload_n 2, 1) := by decide +kernel
theorem dX7_endDay_11 : decode cX7_endDay 11 = .ok (.iload_n 1, 1) := by decide +kernel
theorem dX7_endDay_12 : decode cX7_endDay 12 = .ok (.if_icmp .ge 24, 3) := by decide +kernel
theorem dX7_endDay_15 : decode cX7_endDay 15 = .ok (.aload_n 0, 1) := by decide +kernel
theorem dX7_endDay_16 : decode cX7_endDay 16 = .ok (.aload_n 0, 1) := by decide +kernel
theorem dX7_endDay_17 : decode cX7_endDay 17 = .ok (.getfield 21, 3) := by decide +kernel
theorem dX7_endDay_20 : decode cX7_endDay 20 = .ok (.getfield 75, 3) := by decide +kernel
theorem dX7_endDay_23 : decode cX7_endDay 23 = .ok (.iload_n 2, 1) := by decide +kernel
theorem dX7_endDay_24 : decode cX7_endDay 24 = .ok (.invokestatic 78, 3) := by decide +kernel
theorem dX7_endDay_27 : decode cX7_endDay 27 = .ok (.invokevirtual 103, 3) := by decide +kernel
theorem dX7_endDay_30 : decode cX7_endDay 30 = .ok (.iinc 2 1, 3) := by decide +kernel
theorem dX7_endDay_33 : decode cX7_endDay 33 = .ok (.goto (-23), 3) := by decide +kernel
theorem dX7_endDay_36 : decode cX7_endDay 36 = .ok (.aload_n 0, 1) := by decide +kernel
theorem dX7_endDay_37 : decode cX7_endDay 37 = .ok (.getfield 21, 3) := by decide +kernel
theorem dX7_endDay_40 : decode cX7_endDay 40 = .ok (.iconst 0, 1) := by decide +kernel
theorem dX7_endDay_41 : decode cX7_endDay 41 = .ok (.putfield 129, 3) := by decide +kernel
theorem dX7_endDay_44 : decode cX7_endDay 44 = .ok (.aload_n 0, 1) := by decide +kernel
theorem dX7_endDay_45 : decode cX7_endDay 45 = .ok (.getfield 12, 3) := by decide +kernel
theorem dX7_endDay_48 : decode cX7_endDay 48 = .ok (.aload_n 0, 1) := by decide +kernel
theorem dX7_endDay_49 : decode cX7_endDay 49 = .ok (.invokevirtual 132, 3) := by decide +kernel
theorem dX7_endDay_52 : decode cX7_endDay 52 = .ok (.invokevirtual 136, 3) := by decide +kernel
theorem dX7_endDay_55 : decode cX7_endDay 55 = .ok (.iconst 0, 1) := by decide +kernel
theorem dX7_endDay_56 : decode cX7_endDay 56 = .ok (.istore_n 2, 1) := by decide +kernel
theorem dX7_endDay_57 : decode cX7_endDay 57 = .ok (.iload_n 2, 1) := by decide +kernel
theorem dX7_endDay_58 : decode cX7_endDay 58 = .ok (.bipush 24, 2) := by decide +kernel
theorem dX7_endDay_60 : decode cX7_endDay 60 = .ok (.if_icmp .ge 18, 3) := by decide +kernel
theorem dX7_endDay_63 : decode cX7_endDay 63 = .ok (.aload_n 0, 1) := by decide +kernel
theorem dX7_endDay_64 : decode cX7_endDay 64 = .ok (.getfield 32, 3) := by decide +kernel
theorem dX7_endDay_67 : decode cX7_endDay 67 = .ok (.iload_n 2, 1) := by decide +kernel
theorem dX7_endDay_68 : decode cX7_endDay 68 = .ok (.iconst 0, 1) := by decide +kernel
theorem dX7_endDay_69 : decode cX7_endDay 69 = .ok (.invokestatic 122, 3) := by decide +kernel
theorem dX7_endDay_72 : decode cX7_endDay 72 = .ok (.iinc 2 1, 3) := by decide +kernel
theorem dX7_endDay_75 : decode cX7_endDay 75 = .ok (.goto (-18), 3) := by decide +kernel
theorem dX7_endDay_78 : decode cX7_endDay 78 = .ok (.aload_n 0, 1) := by decide +kernel
theorem dX7_endDay_79 : decode cX7_endDay 79 = .ok (.iconst 0, 1) := by decide +kernel
theorem dX7_endDay_80 : decode cX7_endDay 80 = .ok (.putfield 50, 3) := by decide +kernel
theorem dX7_endDay_83 : decode cX7_endDay 83 = .ok (.aload_n 0, 1) := by decide +kernel
theorem dX7_endDay_84 : decode cX7_endDay 84 = .ok (.dup, 1) := by decide +kernel
theorem dX7_endDay_85 : decode cX7_endDay 85 = .ok (.getfield 54, 3) := by decide +kernel
theorem dX7_endDay_88 : decode cX7_endDay 88 = .ok (.iconst 1, 1) := by decide +kernel
theorem dX7_endDay_89 : decode cX7_endDay 89 = .ok (.iadd, 1) := by decide +kernel
theorem dX7_endDay_90 : decode cX7_endDay 90 = .ok (.putfield 54, 3) := by decide +kernel
theorem dX7_endDay_93 : decode cX7_endDay 93 = .ok (.iload_n 1, 1) := by decide +kernel
theorem dX7_endDay_94 : decode cX7_endDay 94 = .ok (.ireturn, 1) := by decide +kernel
theorem dX7_heardToday_0 : decode cX7_heardToday 0 = .ok (.iconst 0, 1) := by decide +kernel
theorem dX7_heardToday_1 : decode cX7_heardToday 1 = .ok (.istore_n 1, 1) := by decide +kernel
theorem dX7_heardToday_2 : decode cX7_heardToday 2 = .ok (.aload_n 0, 1) := by decide +kernel
theorem dX7_heardToday_3 : decode cX7_heardToday 3 = .ok (.getfield 32, 3) := by decide +kernel
theorem dX7_heardToday_6 : decode cX7_heardToday 6 = .ok (.astore_n 2, 1) := by decide +kernel
theorem dX7_heardToday_7 : decode cX7_heardToday 7 = .ok (.aload_n 2, 1) := by decide +kernel
theorem dX7_heardToday_8 : decode cX7_heardToday 8 = .ok (.arraylength, 1) := by decide +kernel
theorem dX7_heardToday_9 : decode cX7_heardToday 9 = .ok (.istore_n 3, 1) := by decide +kernel
theorem dX7_heardToday_10 : decode cX7_heardToday 10 = .ok (.iconst 0, 1) := by decide +kernel
theorem dX7_heardToday_11 : decode cX7_heardToday 11 = .ok (.istore 4, 2) := by decide +kernel
theorem dX7_heardToday_13 : decode cX7_heardToday 13 = .ok (.iload 4, 2) := by decide +kernel
theorem dX7_heardToday_15 : decode cX7_heardToday 15 = .ok (.iload_n 3, 1) := by decide +kernel
theorem dX7_heardToday_16 : decode cX7_heardToday 16 = .ok (.if_icmp .ge 20, 3) := by decide +kernel
theorem dX7_heardToday_19 : decode cX7_heardToday 19 = .ok (.aload_n 2, 1) := by decide +kernel
theorem dX7_heardToday_20 : decode cX7_heardToday 20 = .ok (.iload 4, 2) := by decide +kernel
theorem dX7_heardToday_22 : decode cX7_heardToday 22 = .ok (.iaload, 1) := by decide +kernel
theorem dX7_heardToday_23 : decode cX7_heardToday 23 = .ok (.istore 5, 2) := by decide +kernel
theorem dX7_heardToday_25 : decode cX7_heardToday 25 = .ok (.iload_n 1, 1) := by decide +kernel
theorem dX7_heardToday_26 : decode cX7_heardToday 26 = .ok (.iload 5, 2) := by decide +kernel
theorem dX7_heardToday_28 : decode cX7_heardToday 28 = .ok (.ior, 1) := by decide +kernel
theorem dX7_heardToday_29 : decode cX7_heardToday 29 = .ok (.istore_n 1, 1) := by decide +kernel
theorem dX7_heardToday_30 : decode cX7_heardToday 30 = .ok (.iinc 4 1, 3) := by decide +kernel
theorem dX7_heardToday_33 : decode cX7_heardToday 33 = .ok (.goto (-20), 3) := by decide +kernel
theorem dX7_heardToday_36 : decode cX7_heardToday 36 = .ok (.iload_n 1, 1) := by decide +kernel
theorem dX7_heardToday_37 : decode cX7_heardToday 37 = .ok (.ireturn, 1) := by decide +kernel
theorem dX7_answersAhead_0 : decode cX7_answersAhead 0 = .ok (.aload_n 0, 1) := by decide +kernel
theorem dX7_answersAhead_1 : decode cX7_answersAhead 1 = .ok (.getfield 12, 3) := by decide +kernel
theorem dX7_answersAhead_4 : decode cX7_answersAhead 4 = .ok (.getfield 139, 3) := by decide +kernel
theorem dX7_answersAhead_7 : decode cX7_answersAhead 7 = .ok (.iload_n 1, 1) := by decide +kernel
theorem dX7_answersAhead_8 : decode cX7_answersAhead 8 = .ok (.invokestatic 78, 3) := by decide +kernel
theorem dX7_answersAhead_11 : decode cX7_answersAhead 11 = .ok (.ifCond .ne 5, 3) := by decide +kernel
theorem dX7_answersAhead_14 : decode cX7_answersAhead 14 = .ok (.iconst 0, 1) := by decide +kernel
theorem dX7_answersAhead_15 : decode cX7_answersAhead 15 = .ok (.ireturn, 1) := by decide +kernel
theorem dX7_answersAhead_16 : decode cX7_answersAhead 16 = .ok (.iconst 0, 1) := by decide +kernel
theorem dX7_answersAhead_17 : decode cX7_answersAhead 17 = .ok (.istore_n 2, 1) := by decide +kernel
theorem dX7_answersAhead_18 : decode cX7_answersAhead 18 = .ok (.aload_n 0, 1) := by decide +kernel
theorem dX7_answersAhead_19 : decode cX7_answersAhead 19 = .ok (.getfield 12, 3) := by decide +kernel
theorem dX7_answersAhead_22 : decode cX7_answersAhead 22 = .ok (.getfield 142, 3) := by decide +kernel
theorem dX7_answersAhead_25 : decode cX7_answersAhead 25 = .ok (.iload_n 1, 1) := by decide +kernel
theorem dX7_answersAhead_26 : decode cX7_answersAhead 26 = .ok (.invokestatic 78, 3) := by decide +kernel
theorem dX7_answersAhead_29 : decode cX7_answersAhead 29 = .ok (.istore_n 3, 1) := by decide +kernel
theorem dX7_answersAhead_30 : decode cX7_answersAhead 30 = .ok (.aload_n 0, 1) := by decide +kernel
theorem dX7_answersAhead_31 : decode cX7_answersAhead 31 = .ok (.iload_n 1, 1) := by decide +kernel
theorem dX7_answersAhead_32 : decode cX7_answersAhead 32 = .ok (.invokevirtual 145, 3) := by decide +kernel
theorem dX7_answersAhead_35 : decode cX7_answersAhead 35 = .ok (.istore 4, 2) := by decide +kernel
theorem dX7_answersAhead_37 : decode cX7_answersAhead 37 = .ok (.iconst 0, 1) := by decide +kernel
theorem dX7_answersAhead_38 : decode cX7_answersAhead 38 = .ok (.istore 5, 2) := by decide +kernel
theorem dX7_answersAhead_40 : decode cX7_answersAhead 40 = .ok (.iload 5, 2) := by decide +kernel
theorem dX7_answersAhead_42 : decode cX7_answersAhead 42 = .ok (.aload_n 0, 1) := by decide +kernel
theorem dX7_answersAhead_43 : decode cX7_answersAhead 43 = .ok (.getfield 21, 3) := by decide +kernel
theorem dX7_answersAhead_46 : decode cX7_answersAhead 46 = .ok (.getfield 129, 3) := by decide +kernel
theorem dX7_answersAhead_49 : decode cX7_answersAhead 49 = .ok (.if_icmp .ge 99, 3) := by decide +kernel
theorem dX7_answersAhead_52 : decode cX7_answersAhead 52 = .ok (.aload_n 0, 1) := by decide +kernel
theorem dX7_answersAhead_53 : decode cX7_answersAhead 53 = .ok (.getfield 21, 3) := by decide +kernel
theorem dX7_answersAhead_56 : decode cX7_answersAhead 56 = .ok (.getfield 85, 3) := by decide +kernel
theorem dX7_answersAhead_59 : decode cX7_answersAhead 59 = .ok (.iload 5, 2) := by decide +kernel
theorem dX7_answersAhead_61 : decode cX7_answersAhead 61 = .ok (.invokestatic 78, 3) := by decide +kernel
theorem dX7_answersAhead_64 : decode cX7_answersAhead 64 = .ok (.istore 6, 2) := by decide +kernel
theorem dX7_answersAhead_66 : decode cX7_answersAhead 66 = .ok (.aload_n 0, 1) := by decide +kernel
theorem dX7_answersAhead_67 : decode cX7_answersAhead 67 = .ok (.getfield 21, 3) := by decide +kernel
theorem dX7_answersAhead_70 : decode cX7_answersAhead 70 = .ok (.getfield 75, 3) := by decide +kernel
theorem dX7_answersAhead_73 : decode cX7_answersAhead 73 = .ok (.iload 5, 2) := by decide +kernel
theorem dX7_answersAhead_75 : decode cX7_answersAhead 75 = .ok (.invokestatic 78, 3) := by decide +kernel
theorem dX7_answersAhead_78 : decode cX7_answersAhead 78 = .ok (.iload_n 1, 1) := by decide +kernel
theorem dX7_answersAhead_79 : decode cX7_answersAhead 79 = .ok (.if_icmp .ne 7, 3) := by decide +kernel
theorem dX7_answersAhead_82 : decode cX7_answersAhead 82 = .ok (.iconst 1, 1) := by decide +kernel
theorem dX7_answersAhead_83 : decode cX7_answersAhead 83 = .ok (.goto 4, 3) := by decide +kernel
theorem dX7_answersAhead_86 : decode cX7_answersAhead 86 = .ok (.iconst 0, 1) := by decide +kernel
theorem dX7_answersAhead_87 : decode cX7_answersAhead 87 = .ok (.istore 7, 2) := by decide +kernel
theorem dX7_answersAhead_89 : decode cX7_answersAhead 89 = .ok (.iload 7, 2) := by decide +kernel
theorem dX7_answersAhead_91 : decode cX7_answersAhead 91 = .ok (.ifCond .eq 51, 3) := by decide +kernel
theorem dX7_answersAhead_94 : decode cX7_answersAhead 94 = .ok (.iload 4, 2) := by decide +kernel
theorem dX7_answersAhead_96 : decode cX7_answersAhead 96 = .ok (.iload 6, 2) := by decide +kernel
theorem dX7_answersAhead_98 : decode cX7_answersAhead 98 = .ok (.invokestatic 90, 3) := by decide +kernel
theorem dX7_answersAhead_101 : decode cX7_answersAhead 101 = .ok (.ifCond .ne 41, 3) := by decide +kernel
theorem dX7_answersAhead_104 : decode cX7_answersAhead 104 = .ok (.aload_n 0, 1) := by decide +kernel
theorem dX7_answersAhead_105 : decode cX7_answersAhead 105 = .ok (.getfield 21, 3) := by decide +kernel
theorem dX7_answersAhead_108 : decode cX7_answersAhead 108 = .ok (.getfield 82, 3) := by decide +kernel
theorem dX7_answersAhead_111 : decode cX7_answersAhead 111 = .ok (.iload 5, 2) := by decide +kernel
theorem dX7_answersAhead_113 : decode cX7_answersAhead 113 = .ok (.invokestatic 78, 3) := by decide +kernel
theorem dX7_answersAhead_116 : decode cX7_answersAhead 116 = .ok (.iload_n 3, 1) := by decide +kernel
theorem dX7_answersAhead_117 : decode cX7_answersAhead 117 = .ok (.if_icmp .le 25, 3) := by decide +kernel
theorem dX7_answersAhead_120 : decode cX7_answersAhead 120 = .ok (.iload 4, 2) := by decide +kernel
theorem dX7_answersAhead_122 : decode cX7_answersAhead 122 = .ok (.iload 6, 2) := by decide +kernel
theorem dX7_answersAhead_124 : decode cX7_answersAhead 124 = .ok (.invokestatic 118, 3) := by decide +kernel
theorem dX7_answersAhead_127 : decode cX7_answersAhead 127 = .ok (.ior, 1) := by decide +kernel
theorem dX7_answersAhead_128 : decode cX7_answersAhead 128 = .ok (.istore 4, 2) := by decide +kernel
theorem dX7_answersAhead_130 : decode cX7_answersAhead 130 = .ok (.iload_n 3, 1) := by decide +kernel
theorem dX7_answersAhead_131 : decode cX7_answersAhead 131 = .ok (.iconst 1, 1) := by decide +kernel
theorem dX7_answersAhead_132 : decode cX7_answersAhead 132 = .ok (.iadd, 1) := by decide +kernel
theorem dX7_answersAhead_133 : decode cX7_answersAhead 133 = .ok (.bipush 9, 2) := by decide +kernel
theorem dX7_answersAhead_135 : decode cX7_answersAhead 135 = .ok (.invokestatic 148, 3) := by decide +kernel
theorem dX7_answersAhead_138 : decode cX7_answersAhead 138 = .ok (.istore_n 3, 1) := by decide +kernel
theorem dX7_answersAhead_139 : decode cX7_answersAhead 139 = .ok (.iinc 2 1, 3) := by decide +kernel
theorem dX7_answersAhead_142 : decode cX7_answersAhead 142 = .ok (.iinc 5 1, 3) := by decide +kernel
theorem dX7_answersAhead_145 : decode cX7_answersAhead 145 = .ok (.goto (-105), 3) := by decide +kernel
theorem dX7_answersAhead_148 : decode cX7_answersAhead 148 = .ok (.iload_n 2, 1) := by decide +kernel
theorem dX7_answersAhead_149 : decode cX7_answersAhead 149 = .ok (.ireturn, 1) := by decide +kernel
theorem dX7_hoursOf_0 : decode cX7_hoursOf 0 = .ok (.iconst 0, 1) := by decide +kernel
theorem dX7_hoursOf_1 : decode cX7_hoursOf 1 = .ok (.istore_n 2, 1) := by decide +kernel
theorem dX7_hoursOf_2 : decode cX7_hoursOf 2 = .ok (.iconst 0, 1) := by decide +kernel
theorem dX7_hoursOf_3 : decode cX7_hoursOf 3 = .ok (.istore_n 3, 1) := by decide +kernel
theorem dX7_hoursOf_4 : decode cX7_hoursOf 4 = .ok (.iload_n 3, 1) := by decide +kernel
theorem dX7_hoursOf_5 : decode cX7_hoursOf 5 = .ok (.bipush 24, 2) := by decide +kernel
theorem dX7_hoursOf_7 : decode cX7_hoursOf 7 = .ok (.if_icmp .ge 31, 3) := by decide +kernel
theorem dX7_hoursOf_10 : decode cX7_hoursOf 10 = .ok (.aload_n 0, 1) := by decide +kernel
theorem dX7_hoursOf_11 : decode cX7_hoursOf 11 = .ok (.getfield 32, 3) := by decide +kernel
theorem dX7_hoursOf_14 : decode cX7_hoursOf 14 = .ok (.iload_n 3, 1) := by decide +kernel
theorem dX7_hoursOf_15 : decode cX7_hoursOf 15 = .ok (.invokestatic 78, 3) := by decide +kernel
theorem dX7_hoursOf_18 : decode cX7_hoursOf 18 = .ok (.iload_n 1, 1) := by decide +kernel
theorem dX7_hoursOf_19 : decode cX7_hoursOf 19 = .ok (.invokestatic 90, 3) := by decide +kernel
theorem dX7_hoursOf_22 : decode cX7_hoursOf 22 = .ok (.ifCond .eq 10, 3) := by decide +kernel
theorem dX7_hoursOf_25 : decode cX7_hoursOf 25 = .ok (.iload_n 2, 1) := by decide +kernel
theorem dX7_hoursOf_26 : decode cX7_hoursOf 26 = .ok (.iload_n 3, 1) := by decide +kernel
theorem dX7_hoursOf_27 : decode cX7_hoursOf 27 = .ok (.invokestatic 118, 3) := by decide +kernel
theorem dX7_hoursOf_30 : decode cX7_hoursOf 30 = .ok (.ior, 1) := by decide +kernel
theorem dX7_hoursOf_31 : decode cX7_hoursOf 31 = .ok (.istore_n 2, 1) := by decide +kernel
theorem dX7_hoursOf_32 : decode cX7_hoursOf 32 = .ok (.iinc 3 1, 3) := by decide +kernel
theorem dX7_hoursOf_35 : decode cX7_hoursOf 35 = .ok (.goto (-31), 3) := by decide +kernel
theorem dX7_hoursOf_38 : decode cX7_hoursOf 38 = .ok (.iload_n 2, 1) := by decide +kernel
theorem dX7_hoursOf_39 : decode cX7_hoursOf 39 = .ok (.ireturn, 1) := by decide +kernel
theorem dX8_init_0 : decode cX8_init 0 = .ok (.aload_n 0, 1) := by decide +kernel
theorem dX8_init_1 : decode cX8_init 1 = .ok (.invokespecial 3, 3) := by decide +kernel
theorem dX8_init_4 : decode cX8_init 4 = .ok (.aload_n 0, 1) := by decide +kernel
theorem dX8_init_5 : decode cX8_init 5 = .ok (.new 9, 3) := by decide +kernel
theorem dX8_init_8 : decode cX8_init 8 = .ok (.dup, 1) := by decide +kernel
theorem dX8_init_9 : decode cX8_init 9 = .ok (.invokespecial 11, 3) := by decide +kernel
theorem dX8_init_12 : decode cX8_init 12 = .ok (.putfield 12, 3) := by decide +kernel
theorem dX8_init_15 : decode cX8_init 15 = .ok (.aload_n 0, 1) := by decide +kernel
theorem dX8_init_16 : decode cX8_init 16 = .ok (.new 9, 3) := by decide +kernel
theorem dX8_init_19 : decode cX8_init 19 = .ok (.dup, 1) := by decide +kernel
theorem dX8_init_20 : decode cX8_init 20 = .ok (.invokespecial 11, 3) := by decide +kernel
theorem dX8_init_23 : decode cX8_init 23 = .ok (.putfield 16, 3) := by decide +kernel
theorem dX8_init_26 : decode cX8_init 26 = .ok (.aload_n 0, 1) := by decide +kernel
theorem dX8_init_27 : decode cX8_init 27 = .ok (.new 19, 3) := by decide +kernel
theorem dX8_init_30 : decode cX8_init 30 = .ok (.dup, 1) := by decide +kernel
theorem dX8_init_31 : decode cX8_init 31 = .ok (.invokespecial 21, 3) := by decide +kernel
theorem dX8_init_34 : decode cX8_init 34 = .ok (.putfield 22, 3) := by decide +kernel
theorem dX8_init_37 : decode cX8_init 37 = .ok (.aload_n 0, 1) := by decide +kernel
theorem dX8_init_38 : decode cX8_init 38 = .ok (.new 26, 3) := by decide +kernel
theorem dX8_init_41 : decode cX8_init 41 = .ok (.dup, 1) := by decide +kernel
theorem dX8_init_42 : decode cX8_init 42 = .ok (.invokespecial 28, 3) := by decide +kernel
theorem dX8_init_45 : decode cX8_init 45 = .ok (.putfield 29, 3) := by decide +kernel
theorem dX8_init_48 : decode cX8_init 48 = .ok (.aload_n 0, 1) := by decide +kernel
theorem dX8_init_49 : decode cX8_init 49 = .ok (.new 33, 3) := by decide +kernel
theorem dX8_init_52 : decode cX8_init 52 = .ok (.dup, 1) := by decide +kernel
theorem dX8_init_53 : decode cX8_init 53 = .ok (.invokespecial 35, 3) := by decide +kernel
theorem dX8_init_56 : decode cX8_init 56 = .ok (.putfield 36, 3) := by decide +kernel
theorem dX8_init_59 : decode cX8_init 59 = .ok (.aload_n 0, 1) := by decide +kernel
theorem dX8_init_60 : decode cX8_init 60 = .ok (.new 40, 3) := by decide +kernel
theorem dX8_init_63 : decode cX8_init 63 = .ok (.dup, 1) := by decide +kernel
theorem dX8_init_64 : decode cX8_init 64 = .ok (.invokespecial 42, 3) := by decide +kernel
theorem dX8_init_67 : decode cX8_init 67 = .ok (.putfield 43, 3) := by decide +kernel
theorem dX8_init_70 : decode cX8_init 70 = .ok (.aload_n 0, 1) := by decide +kernel
theorem dX8_init_71 : decode cX8_init 71 = .ok (.sipush (-1015), 3) := by decide +kernel
theorem dX8_init_74 : decode cX8_init 74 = .ok (.putfield 47, 3) := by decide +kernel
theorem dX8_init_77 : decode cX8_init 77 = .ok (.aload_n 0, 1) := by decide +kernel
theorem dX8_init_78 : decode cX8_init 78 = .ok (.sipush (-1015), 3) := by decide +kernel
theorem dX8_init_81 : decode cX8_init 81 = .ok (.putfield 51, 3) := by decide +kernel
theorem dX8_init_84 : decode cX8_init 84 = .ok (.return_, 1) := by decide +kernel
theorem dX8_rope_0 : decode cX8_rope 0 = .ok (.aload_n 0, 1) := by decide +kernel
theorem dX8_rope_1 : decode cX8_rope 1 = .ok (.getfield 22, 3) := by decide +kernel
theorem dX8_rope_4 : decode cX8_rope 4 = .ok (.aload_n 0, 1) := by decide +kernel
theorem dX8_rope_5 : decode cX8_rope 5 = .ok (.getfield 12, 3) := by decide +kernel
theorem dX8_rope_8 : decode cX8_rope 8 = .ok (.invokevirtual 54, 3) := by decide +kernel
theorem dX8_rope_11 : decode cX8_rope 11 = .ok (.aload_n 0, 1) := by decide +kernel
theorem dX8_rope_12 : decode cX8_rope 12 = .ok (.aload_n 0, 1) := by decide +kernel
theorem dX8_rope_13 : decode cX8_rope 13 = .ok (.iload_n 1, 1) := by decide +kernel
theorem dX8_rope_14 : decode cX8_rope 14 = .ok (.invokevirtual 58, 3) := by decide +kernel
theorem dX8_rope_17 : decode cX8_rope 17 = .ok (.invokevirtual 62, 3) := by decide +kernel
theorem dX8_rope_20 : decode cX8_rope 20 = .ok (.ireturn, 1) := by decide +kernel
theorem dX8_move_0 : decode cX8_move 0 = .ok (.aload_n 0, 1) := by decide +kernel
theorem dX8_move_1 : decode cX8_move 1 = .ok (.getfield 22, 3) := by decide +kernel
theorem dX8_move_4 : decode cX8_move 4 = .ok (.aload_n 0, 1) := by decide +kernel
theorem dX8_move_5 : decode cX8_move 5 = .ok (.getfield 12, 3) := by decide +kernel
theorem dX8_move_8 : decode cX8_move 8 = .ok (.invokevirtual 54, 3) := by decide +kernel
theorem dX8_move_11 : decode cX8_move 11 = .ok (.aload_n 0, 1) := by decide +kernel
theorem dX8_move_12 : decode cX8_move 12 = .ok (.aload_n 0, 1) := by decide +kernel
theorem dX8_move_13 : decode cX8_move 13 = .ok (.iload_n 1, 1) := by decide +kernel
theorem dX8_move_14 : decode cX8_move 14 = .ok (.iload_n 2, 1) := by decide +kernel
theorem dX8_move_15 : decode cX8_move 15 = .ok (.invokevirtual 65, 3) := by decide +kernel
theorem dX8_move_18 : decode cX8_move 18 = .ok (.invokevirtual 62, 3) := by decide +kernel
theorem dX8_move_21 : decode cX8_move 21 = .ok (.ireturn, 1) := by decide +kernel
theorem dX8_sensor_0 : decode cX8_sensor 0 = .ok (.aload_n 0, 1) := by decide +kernel
theorem dX8_sensor_1 : decode cX8_sensor 1 = .ok (.getfield 22, 3) := by decide +kernel
theorem dX8_sensor_4 : decode cX8_sensor 4 = .ok (.aload_n 0, 1) := by decide +kernel
theorem dX8_sensor_5 : decode cX8_sensor 5 = .ok (.getfield 12, 3) := by decide +kernel
theorem dX8_sensor_8 : decode cX8_sensor 8 = .ok (.invokevirtual 54, 3) := by decide +kernel
theorem dX8_sensor_11 : decode cX8_sensor 11 = .ok (.aload_n 0, 1) := by decide +kernel
theorem dX8_sensor_12 : decode cX8_sensor 12 = .ok (.aload_n 0, 1) := by decide +kernel
theorem dX8_sensor_13 : decode cX8_sensor 13 = .ok (.iload_n 1, 1) := by decide +kernel
theorem dX8_sensor_14 : decode cX8_sensor 14 = .ok (.iload_n 2, 1) := by decide +kernel
theorem dX8_sensor_15 : decode cX8_sensor 15 = .ok (.invokevirtual 69, 3) := by decide +kernel
theorem dX8_sensor_18 : decode cX8_sensor 18 = .ok (.invokevirtual 62, 3) := by decide +kernel
theorem dX8_sensor_21 : decode cX8_sensor 21 = .ok (.ireturn, 1) := by decide +kernel
theorem dX8_oil_0 : decode cX8_oil 0 = .ok (.aload_n 0, 1) := by decide +kernel
theorem dX8_oil_1 : decode cX8_oil 1 = .ok (.getfield 22, 3) := by decide +kernel
theorem dX8_oil_4 : decode cX8_oil 4 = .ok (.aload_n 0, 1) := by decide +kernel
theorem dX8_oil_5 : decode cX8_oil 5 = .ok (.getfield 12, 3) := by decide +kernel
theorem dX8_oil_8 : decode cX8_oil 8 = .ok (.invokevirtual 54, 3) := by decide +kernel
theorem dX8_oil_11 : decode cX8_oil 11 = .ok (.aload_n 0, 1) := by decide +kernel
theorem dX8_oil_12 : decode cX8_oil 12 = .ok (.aload_n 0, 1) := by decide +kernel
theorem dX8_oil_13 : decode cX8_oil 13 = .ok (.iload_n 1, 1) := by decide +kernel
theorem dX8_oil_14 : decode cX8_oil 14 = .ok (.iload_n 2, 1) := by decide +kernel
theorem dX8_oil_15 : decode cX8_oil 15 = .ok (.invokevirtual 72, 3) := by decide +kernel
theorem dX8_oil_18 : decode cX8_oil 18 = .ok (.invokevirtual 62, 3) := by decide +kernel
theorem dX8_oil_21 : decode cX8_oil 21 = .ok (.ireturn, 1) := by decide +kernel
theorem dX8_ropeOf_0 : decode cX8_ropeOf 0 = .ok (.aload_n 0, 1) := by decide +kernel
theorem dX8_ropeOf_1 : decode cX8_ropeOf 1 = .ok (.getfield 12, 3) := by decide +kernel
theorem dX8_ropeOf_4 : decode cX8_ropeOf 4 = .ok (.getfield 75, 3) := by decide +kernel
theorem dX8_ropeOf_7 : decode cX8_ropeOf 7 = .ok (.iload_n 1, 1) := by decide +kernel
theorem dX8_ropeOf_8 : decode cX8_ropeOf 8 = .ok (.invokevirtual 79, 3) := by decide +kernel
theorem dX8_ropeOf_11 : decode cX8_ropeOf 11 = .ok (.ifCond .ne 7, 3) := by decide +kernel
theorem dX8_ropeOf_14 : decode cX8_ropeOf 14 = .ok (.sipush (-1011), 3) := by decide +kernel
theorem dX8_ropeOf_17 : decode cX8_ropeOf 17 = .ok (.ireturn, 1) := by decide +kernel
theorem dX8_ropeOf_18 : decode cX8_ropeOf 18 = .ok (.iload_n 2, 1) := by decide +kernel
theorem dX8_ropeOf_19 : decode cX8_ropeOf 19 = .ok (.tableswitch 143 0 6 #[41, 56, 71, 86, 101, 116, 131], 41) := by decide +kernel
theorem dX8_ropeOf_60 : decode cX8_ropeOf 60 = .ok (.aload_n 0, 1) := by decide +kernel
theorem dX8_ropeOf_61 : decode cX8_ropeOf 61 = .ok (.getfield 12, 3) := by decide +kernel
theorem dX8_ropeOf_64 : decode cX8_ropeOf 64 = .ok (.getfield 75, 3) := by decide +kernel
theorem dX8_ropeOf_67 : decode cX8_ropeOf 67 = .ok (.getfield 85, 3) := by decide +kernel
theorem dX8_ropeOf_70 : decode cX8_ropeOf 70 = .ok (.iload_n 1, 1) := by decide +kernel
theorem dX8_ropeOf_71 : decode cX8_ropeOf 71 = .ok (.invokestatic 89, 3) := by decide +kernel
theorem dX8_ropeOf_74 : decode cX8_ropeOf 74 = .ok (.ireturn, 1) := by decide +kernel
theorem dX8_ropeOf_75 : decode cX8_ropeOf 75 = .ok (.aload_n 0, 1) := by decide +kernel
theorem dX8_ropeOf_76 : decode cX8_ropeOf 76 = .ok (.getfield 12, 3) := by decide +kernel
theorem dX8_ropeOf_79 : decode cX8_ropeOf 79 = .ok (.getfield 75, 3) := by decide +kernel
theorem dX8_ropeOf_82 : decode cX8_ropeOf 82 = .ok (.getfield 93, 3) := by decide +kernel
theorem dX8_ropeOf_85 : decode cX8_ropeOf 85 = .ok (.iload_n 1, 1) := by decide +kernel
theorem dX8_ropeOf_86 : decode cX8_ropeOf 86 = .ok (.invokestatic 89, 3) := by decide +kernel
theorem dX8_ropeOf_89 : decode cX8_ropeOf 89 = .ok (.ireturn, 1) := by decide +kernel
theorem dX8_ropeOf_90 : decode cX8_ropeOf 90 = .ok (.aload_n 0, 1) := by decide +kernel
theorem dX8_ropeOf_91 : decode cX8_ropeOf 91 = .ok (.getfield 12, 3) := by decide +kernel
theorem dX8_ropeOf_94 : decode cX8_ropeOf 94 = .ok (.getfield 75, 3) := by decide +kernel
theorem dX8_ropeOf_97 : decode cX8_ropeOf 97 = .ok (.getfield 96, 3) := by decide +kernel
theorem dX8_ropeOf_100 : decode cX8_ropeOf 100 = .ok (.iload_n 1, 1) := by decide +kernel
theorem dX8_ropeOf_101 : decode cX8_ropeOf 101 = .ok (.invokestatic 89, 3) := by decide +kernel
theorem dX8_ropeOf_104 : decode cX8_ropeOf 104 = .ok (.ireturn, 1) := by decide +kernel
theorem dX8_ropeOf_105 : decode cX8_ropeOf 105 = .ok (.aload_n 0, 1) := by decide +kernel
theorem dX8_ropeOf_106 : decode cX8_ropeOf 106 = .ok (.getfield 12, 3) := by decide +kernel
theorem dX8_ropeOf_109 : decode cX8_ropeOf 109 = .ok (.getfield 75, 3) := by decide +kernel
theorem dX8_ropeOf_112 : decode cX8_ropeOf 112 = .ok (.getfield 99, 3) := by decide +kernel
theorem dX8_ropeOf_115 : decode cX8_ropeOf 115 = .ok (.iload_n 1, 1) := by decide +kernel
theorem dX8_ropeOf_116 : decode cX8_ropeOf 116 = .ok (.invokestatic 89, 3) := by decide +kernel
theorem dX8_ropeOf_119 : decode cX8_ropeOf 119 = .ok (.ireturn, 1) := by decide +kernel
theorem dX8_ropeOf_120 : decode cX8_ropeOf 120 = .ok (.aload_n 0, 1) := by decide +kernel
theorem dX8_ropeOf_121 : decode cX8_ropeOf 121 = .ok (.getfield 12, 3) := by decide +kernel
theorem dX8_ropeOf_124 : decode cX8_ropeOf 124 = .ok (.getfield 75, 3) := by decide +kernel
theorem dX8_ropeOf_127 : decode cX8_ropeOf 127 = .ok (.getfield 102, 3) := by decide +kernel
theorem dX8_ropeOf_130 : decode cX8_ropeOf 130 = .ok (.iload_n 1, 1) := by decide +kernel
theorem dX8_ropeOf_131 : decode cX8_ropeOf 131 = .ok (.invokestatic 89, 3) := by decide +kernel
theorem dX8_ropeOf_134 : decode cX8_ropeOf 134 = .ok (.ireturn, 1) := by decide +kernel
theorem dX8_ropeOf_135 : decode cX8_ropeOf 135 = .ok (.aload_n 0, 1) := by decide +kernel
theorem dX8_ropeOf_136 : decode cX8_ropeOf 136 = .ok (.getfield 12, 3) := by decide +kernel
theorem dX8_ropeOf_139 : decode cX8_ropeOf 139 = .ok (.getfield 75, 3) := by decide +kernel
theorem dX8_ropeOf_142 : decode cX8_ropeOf 142 = .ok (.getfield 105, 3) := by decide +kernel
theorem dX8_ropeOf_145 : decode cX8_ropeOf 145 = .ok (.iload_n 1, 1) := by decide +kernel
theorem dX8_ropeOf_146 : decode cX8_ropeOf 146 = .ok (.invokestatic 89, 3) := by decide +kernel
theorem dX8_ropeOf_149 : decode cX8_ropeOf 149 = .ok (.ireturn, 1) := by decide +kernel
theorem dX8_ropeOf_150 : decode cX8_ropeOf 150 = .ok (.aload_n 0, 1) := by decide +kernel
theorem dX8_ropeOf_151 : decode cX8_ropeOf 151 = .ok (.getfield 12, 3) := by decide +kernel
theorem dX8_ropeOf_154 : decode cX8_ropeOf 154 = .ok (.getfield 108, 3) := by decide +kernel
theorem dX8_ropeOf_157 : decode cX8_ropeOf 157 = .ok (.iload_n 1, 1) := by decide +kernel
theorem dX8_ropeOf_158 : decode cX8_ropeOf 158 = .ok (.invokevirtual 112, 3) := by decide +kernel
theorem dX8_ropeOf_161 : decode cX8_ropeOf 161 = .ok (.ireturn, 1) := by decide +kernel
theorem dX8_ropeOf_162 : decode cX8_ropeOf 162 = .ok (.sipush (-1012), 3) := by decide +kernel
theorem dX8_ropeOf_165 : decode cX8_ropeOf 165 = .ok (.ireturn, 1) := by decide +kernel
theorem dX8_pull_0 : decode cX8_pull 0 = .ok (.aload_n 0, 1) := by decide +kernel
theorem dX8_pull_1 : decode cX8_pull 1 = .ok (.getfield 22, 3) := by decide +kernel
theorem dX8_pull_4 : decode cX8_pull 4 = .ok (.aload_n 0, 1) := by decide +kernel
theorem dX8_pull_5 : decode cX8_pull 5 = .ok (.getfield 12, 3) := by decide +kernel
theorem dX8_pull_8 : decode cX8_pull 8 = .ok (.invokevirtual 54, 3) := by decide +kernel
theorem dX8_pull_11 : decode cX8_pull 11 = .ok (.aload_n 0, 1) := by decide +kernel
theorem dX8_pull_12 : decode cX8_pull 12 = .ok (.aload_n 0, 1) := by decide +kernel
theorem dX8_pull_13 : decode cX8_pull 13 = .ok (.iload_n 1, 1) := by decide +kernel
theorem dX8_pull_14 : decode cX8_pull 14 = .ok (.iload_n 2, 1) := by decide +kernel
theorem dX8_pull_15 : decode cX8_pull 15 = .ok (.iload_n 3, 1) := by decide +kernel
theorem dX8_pull_16 : decode cX8_pull 16 = .ok (.invokevirtual 117, 3) := by decide +kernel
theorem dX8_pull_19 : decode cX8_pull 19 = .ok (.invokevirtual 62, 3) := by decide +kernel
theorem dX8_pull_22 : decode cX8_pull 22 = .ok (.ireturn, 1) := by decide +kernel
theorem dX8_cancel_0 : decode cX8_cancel 0 = .ok (.aload_n 0, 1) := by decide +kernel
theorem dX8_cancel_1 : decode cX8_cancel 1 = .ok (.getfield 22, 3) := by decide +kernel
theorem dX8_cancel_4 : decode cX8_cancel 4 = .ok (.aload_n 0, 1) := by decide +kernel
theorem dX8_cancel_5 : decode cX8_cancel 5 = .ok (.getfield 12, 3) := by decide +kernel
theorem dX8_cancel_8 : decode cX8_cancel 8 = .ok (.invokevirtual 54, 3) := by decide +kernel
theorem dX8_cancel_11 : decode cX8_cancel 11 = .ok (.aload_n 0, 1) := by decide +kernel
theorem dX8_cancel_12 : decode cX8_cancel 12 = .ok (.aload_n 0, 1) := by decide +kernel
theorem dX8_cancel_13 : decode cX8_cancel 13 = .ok (.iload_n 1, 1) := by decide +kernel
theorem dX8_cancel_14 : decode cX8_cancel 14 = .ok (.invokevirtual 121, 3) := by decide +kernel
theorem dX8_cancel_17 : decode cX8_cancel 17 = .ok (.invokevirtual 62, 3) := by decide +kernel
theorem dX8_cancel_20 : decode cX8_cancel 20 = .ok (.ireturn, 1) := by decide +kernel
theorem dX8_ring_0 : decode cX8_ring 0 = .ok (.aload_n 0, 1) := by decide +kernel
theorem dX8_ring_1 : decode cX8_ring 1 = .ok (.getfield 22, 3) := by decide +kernel
theorem dX8_ring_4 : decode cX8_ring 4 = .ok (.aload_n 0, 1) := by decide +kernel
theorem dX8_ring_5 : decode cX8_ring 5 = .ok (.getfield 12, 3) := by decide +kernel
theorem dX8_ring_8 : decode cX8_ring 8 = .ok (.invokevirtual 54, 3) := by decide +kernel
theorem dX8_ring_11 : decode cX8_ring 11 = .ok (.aload_n 0, 1) := by decide +kernel
theorem dX8_ring_12 : decode cX8_ring 12 = .ok (.aload_n 0, 1) := by decide +kernel
theorem dX8_ring_13 : decode cX8_ring 13 = .ok (.invokevirtual 124, 3) := by decide +kernel
theorem dX8_ring_16 : decode cX8_ring 16 = .ok (.invokevirtual 62, 3) := by decide +kernel
theorem dX8_ring_19 : decode cX8_ring 19 = .ok (.ireturn, 1) := by decide +kernel
theorem dX8_hour_0 : decode cX8_hour 0 = .ok (.aload_n 0, 1) := by decide +kernel
theorem dX8_hour_1 : decode cX8_hour 1 = .ok (.getfield 22, 3) := by decide +kernel
theorem dX8_hour_4 : decode cX8_hour 4 = .ok (.aload_n 0, 1) := by decide +kernel
theorem dX8_hour_5 : decode cX8_hour 5 = .ok (.getfield 12, 3) := by decide +kernel
theorem dX8_hour_8 : decode cX8_hour 8 = .ok (.invokevirtual 54, 3) := by decide +kernel
theorem dX8_hour_11 : decode cX8_hour 11 = .ok (.aload_n 0, 1) := by decide +kernel
theorem dX8_hour_12 : decode cX8_hour 12 = .ok (.aload_n 0, 1) := by decide +kernel
theorem dX8_hour_13 : decode cX8_hour 13 = .ok (.invokevirtual 128, 3) := by decide +kernel
theorem dX8_hour_16 : decode cX8_hour 16 = .ok (.invokevirtual 62, 3) := by decide +kernel
theorem dX8_hour_19 : decode cX8_hour 19 = .ok (.ireturn, 1) := by decide +kernel
theorem dX8_end_0 : decode cX8_end 0 = .ok (.aload_n 0, 1) := by decide +kernel
theorem dX8_end_1 : decode cX8_end 1 = .ok (.getfield 22, 3) := by decide +kernel
theorem dX8_end_4 : decode cX8_end 4 = .ok (.aload_n 0, 1) := by decide +kernel
theorem dX8_end_5 : decode cX8_end 5 = .ok (.getfield 12, 3) := by decide +kernel
theorem dX8_end_8 : decode cX8_end 8 = .ok (.invokevirtual 54, 3) := by decide +kernel
theorem dX8_end_11 : decode cX8_end 11 = .ok (.aload_n 0, 1) := by decide +kernel
theorem dX8_end_12 : decode cX8_end 12 = .ok (.aload_n 0, 1) := by decide +kernel
theorem dX8_end_13 : decode cX8_end 13 = .ok (.getfield 12, 3) := by decide +kernel
theorem dX8_end_16 : decode cX8_end 16 = .ok (.invokevirtual 131, 3) := by decide +kernel
theorem dX8_end_19 : decode cX8_end 19 = .ok (.invokevirtual 62, 3) := by decide +kernel
theorem dX8_end_22 : decode cX8_end 22 = .ok (.ireturn, 1) := by decide +kernel
theorem dX8_waiting_0 : decode cX8_waiting 0 = .ok (.aload_n 0, 1) := by decide +kernel
theorem dX8_waiting_1 : decode cX8_waiting 1 = .ok (.getfield 12, 3) := by decide +kernel
theorem dX8_waiting_4 : decode cX8_waiting 4 = .ok (.getfield 108, 3) := by decide +kernel
theorem dX8_waiting_7 : decode cX8_waiting 7 = .ok (.iload_n 1, 1) := by decide +kernel
theorem dX8_waiting_8 : decode cX8_waiting 8 = .ok (.invokevirtual 134, 3) := by decide +kernel
theorem dX8_waiting_11 : decode cX8_waiting 11 = .ok (.ifCond .ne 7, 3) := by decide +kernel
theorem dX8_waiting_14 : decode cX8_waiting 14 = .ok (.sipush (-1011), 3) := by decide +kernel
theorem dX8_waiting_17 : decode cX8_waiting 17 = .ok (.ireturn, 1) := by decide +kernel
theorem dX8_waiting_18 : decode cX8_waiting 18 = .ok (.iload_n 2, 1) := by decide +kernel
theorem dX8_waiting_19 : decode cX8_waiting 19 = .ok (.tableswitch 70 0 2 #[25, 40, 55], 25) := by decide +kernel
theorem dX8_waiting_44 : decode cX8_waiting 44 = .ok (.aload_n 0, 1) := by decide +kernel
theorem dX8_waiting_45 : decode cX8_waiting 45 = .ok (.getfield 12, 3) := by decide +kernel
theorem dX8_waiting_48 : decode cX8_waiting 48 = .ok (.getfield 108, 3) := by decide +kernel
theorem dX8_waiting_51 : decode cX8_waiting 51 = .ok (.getfield 135, 3) := by decide +kernel
theorem dX8_waiting_54 : decode cX8_waiting 54 = .ok (.iload_n 1, 1) := by decide +kernel
theorem dX8_waiting_55 : decode cX8_waiting 55 = .ok (.invokestatic 89, 3) := by decide +kernel
theorem dX8_waiting_58 : decode cX8_waiting 58 = .ok (.ireturn, 1) := by decide +kernel
theorem dX8_waiting_59 : decode cX8_waiting 59 = .ok (.aload_n 0, 1) := by decide +kernel
theorem dX8_waiting_60 : decode cX8_waiting 60 = .ok (.getfield 12, 3) := by decide +kernel
theorem dX8_waiting_63 : decode cX8_waiting 63 = .ok (.getfield 108, 3) := by decide +kernel
theorem dX8_waiting_66 : decode cX8_waiting 66 = .ok (.getfield 138, 3) := by decide +kernel
theorem dX8_waiting_69 : decode cX8_waiting 69 = .ok (.iload_n 1, 1) := by decide +kernel
theorem dX8_waiting_70 : decode cX8_waiting 70 = .ok (.invokestatic 89, 3) := by decide +kernel
theorem dX8_waiting_73 : decode cX8_waiting 73 = .ok (.ireturn, 1) := by decide +kernel
theorem dX8_waiting_74 : decode cX8_waiting 74 = .ok (.aload_n 0, 1) := by decide +kernel
theorem dX8_waiting_75 : decode cX8_waiting 75 = .ok (.getfield 12, 3) := by decide +kernel
theorem dX8_waiting_78 : decode cX8_waiting 78 = .ok (.getfield 108, 3) := by decide +kernel
theorem dX8_waiting_81 : decode cX8_waiting 81 = .ok (.getfield 141, 3) := by decide +kernel
theorem dX8_waiting_84 : decode cX8_waiting 84 = .ok (.iload_n 1, 1) := by decide +kernel
theorem dX8_waiting_85 : decode cX8_waiting 85 = .ok (.invokestatic 89, 3) := by decide +kernel
theorem dX8_waiting_88 : decode cX8_waiting 88 = .ok (.ireturn, 1) := by decide +kernel
theorem dX8_waiting_89 : decode cX8_waiting 89 = .ok (.sipush (-1012), 3) := by decide +kernel
theorem dX8_waiting_92 : decode cX8_waiting 92 = .ok (.ireturn, 1) := by decide +kernel
theorem dX8_would_0 : decode cX8_would 0 = .ok (.aload_n 0, 1) := by decide +kernel
theorem dX8_would_1 : decode cX8_would 1 = .ok (.getfield 12, 3) := by decide +kernel
theorem dX8_would_4 : decode cX8_would 4 = .ok (.getfield 75, 3) := by decide +kernel
theorem dX8_would_7 : decode cX8_would 7 = .ok (.iload_n 1, 1) := by decide +kernel
theorem dX8_would_8 : decode cX8_would 8 = .ok (.invokevirtual 79, 3) := by decide +kernel
theorem dX8_would_11 : decode cX8_would 11 = .ok (.ifCond .ne 7, 3) := by decide +kernel
theorem dX8_would_14 : decode cX8_would 14 = .ok (.sipush (-1011), 3) := by decide +kernel
theorem dX8_would_17 : decode cX8_would 17 = .ok (.ireturn, 1) := by decide +kernel
theorem dX8_would_18 : decode cX8_would 18 = .ok (.iload_n 2, 1) := by decide +kernel
theorem dX8_would_19 : decode cX8_would 19 = .ok (.invokestatic 144, 3) := by decide +kernel
theorem dX8_would_22 : decode cX8_would 22 = .ok (.ifCond .ne 7, 3) := by decide +kernel
theorem dX8_would_25 : decode cX8_would 25 = .ok (.sipush (-1012), 3) := by decide +kernel
theorem dX8_would_28 : decode cX8_would 28 = .ok (.ireturn, 1) := by decide +kernel
theorem dX8_would_29 : decode cX8_would 29 = .ok (.aload_n 0, 1) := by decide +kernel
theorem dX8_would_30 : decode cX8_would 30 = .ok (.getfield 12, 3) := by decide +kernel
theorem dX8_would_33 : decode cX8_would 33 = .ok (.getfield 75, 3) := by decide +kernel
theorem dX8_would_36 : decode cX8_would 36 = .ok (.iload_n 1, 1) := by decide +kernel
theorem dX8_would_37 : decode cX8_would 37 = .ok (.iload_n 2, 1) := by decide +kernel
theorem dX8_would_38 : decode cX8_would 38 = .ok (.invokevirtual 147, 3) := by decide +kernel
theorem dX8_would_41 : decode cX8_would 41 = .ok (.ifCond .eq 7, 3) := by decide +kernel
theorem dX8_would_44 : decode cX8_would 44 = .ok (.iconst 1, 1) := by decide +kernel
theorem dX8_would_45 : decode cX8_would 45 = .ok (.goto 4, 3) := by decide +kernel
theorem dX8_would_48 : decode cX8_would 48 = .ok (.iconst 0, 1) := by decide +kernel
theorem dX8_would_49 : decode cX8_would 49 = .ok (.ireturn, 1) := by decide +kernel
theorem dX8_forecast_0 : decode cX8_forecast 0 = .ok (.aload_n 0, 1) := by decide +kernel
theorem dX8_forecast_1 : decode cX8_forecast 1 = .ok (.getfield 16, 3) := by decide +kernel
theorem dX8_forecast_4 : decode cX8_forecast 4 = .ok (.aload_n 0, 1) := by decide +kernel
theorem dX8_forecast_5 : decode cX8_forecast 5 = .ok (.getfield 12, 3) := by decide +kernel
theorem dX8_forecast_8 : decode cX8_forecast 8 = .ok (.invokevirtual 151, 3) := by decide +kernel
theorem dX8_forecast_11 : decode cX8_forecast 11 = .ok (.iconst 0, 1) := by decide +kernel
theorem dX8_forecast_12 : decode cX8_forecast 12 = .ok (.istore_n 1, 1) := by decide +kernel
theorem dX8_forecast_13 : decode cX8_forecast 13 = .ok (.iconst 0, 1) := by decide +kernel
theorem dX8_forecast_14 : decode cX8_forecast 14 = .ok (.istore_n 2, 1) := by decide +kernel
theorem dX8_forecast_15 : decode cX8_forecast 15 = .ok (.iload_n 2, 1) := by decide +kernel
theorem dX8_forecast_16 : decode cX8_forecast 16 = .ok (.bipush 16, 2) := by decide +kernel
theorem dX8_forecast_18 : decode cX8_forecast 18 = .ok (.if_icmp .ge 36, 3) := by decide +kernel
theorem dX8_forecast_21 : decode cX8_forecast 21 = .ok (.aload_n 0, 1) := by decide +kernel
theorem dX8_forecast_22 : decode cX8_forecast 22 = .ok (.getfield 16, 3) := by decide +kernel
theorem dX8_forecast_25 : decode cX8_forecast 25 = .ok (.getfield 108, 3) := by decide +kernel
theorem dX8_forecast_28 : decode cX8_forecast 28 = .ok (.getfield 154, 3) := by decide +kernel
theorem dX8_forecast_31 : decode cX8_forecast 31 = .ok (.ifCond .le 23, 3) := by decide +kernel
theorem dX8_forecast_34 : decode cX8_forecast 34 = .ok (.aload_n 0, 1) := by decide +kernel
theorem dX8_forecast_35 : decode cX8_forecast 35 = .ok (.getfield 16, 3) := by decide +kernel
theorem dX8_forecast_38 : decode cX8_forecast 38 = .ok (.invokevirtual 157, 3) := by decide +kernel
theorem dX8_forecast_41 : decode cX8_forecast 41 = .ok (.iconst 1, 1) := by decide +kernel
theorem dX8_forecast_42 : decode cX8_forecast 42 = .ok (.if_icmp .ne 6, 3) := by decide +kernel
theorem dX8_forecast_45 : decode cX8_forecast 45 = .ok (.iinc 1 1, 3) := by decide +kernel
theorem dX8_forecast_48 : decode cX8_forecast 48 = .ok (.iinc 2 1, 3) := by decide +kernel
theorem dX8_forecast_51 : decode cX8_forecast 51 = .ok (.goto (-36), 3) := by decide +kernel
theorem dX8_forecast_54 : decode cX8_forecast 54 = .ok (.iload_n 1, 1) := by decide +kernel
theorem dX8_forecast_55 : decode cX8_forecast 55 = .ok (.ireturn, 1) := by decide +kernel
theorem dX8_forecastAgain_0 : decode cX8_forecastAgain 0 = .ok (.iconst 0, 1) := by decide +kernel
theorem dX8_forecastAgain_1 : decode cX8_forecastAgain 1 = .ok (.istore_n 1, 1) := by decide +kernel
theorem dX8_forecastAgain_2 : decode cX8_forecastAgain 2 = .ok (.iconst 0, 1) := by decide +kernel
theorem dX8_forecastAgain_3 : decode cX8_forecastAgain 3 = .ok (.istore_n 2, 1) := by decide +kernel
theorem dX8_forecastAgain_4 : decode cX8_forecastAgain 4 = .ok (.iload_n 2, 1) := by decide +kernel
theorem dX8_forecastAgain_5 : decode cX8_forecastAgain 5 = .ok (.aload_n 0, 1) := by decide +kernel
theorem dX8_forecastAgain_6 : decode cX8_forecastAgain 6 = .ok (.getfield 12, 3) := by decide +kernel
theorem dX8_forecastAgain_9 : decode cX8_forecastAgain 9 = .ok (.getfield 75, 3) := by decide +kernel
theorem dX8_forecastAgain_12 : decode cX8_forecastAgain 12 = .ok (.getfield 160, 3) := by decide +kernel
theorem dX8_forecastAgain_15 : decode cX8_forecastAgain 15 = .ok (.if_icmp .ge 20, 3) := by decide +kernel
theorem dX8_forecastAgain_18 : decode cX8_forecastAgain 18 = .ok (.iload_n 1, 1) := by decide +kernel
theorem dX8_forecastAgain_19 : decode cX8_forecastAgain 19 = .ok (.aload_n 0, 1) := by decide +kernel
theorem dX8_forecastAgain_20 : decode cX8_forecastAgain 20 = .ok (.getfield 12, 3) := by decide +kernel
theorem dX8_forecastAgain_23 : decode cX8_forecastAgain 23 = .ok (.iload_n 2, 1) := by decide +kernel
theorem dX8_forecastAgain_24 : decode cX8_forecastAgain 24 = .ok (.invokevirtual 161, 3) := by decide +kernel
theorem dX8_forecastAgain_27 : decode cX8_forecastAgain 27 = .ok (.iadd, 1) := by decide +kernel
theorem dX8_forecastAgain_28 : decode cX8_forecastAgain 28 = .ok (.istore_n 1, 1) := by decide +kernel
theorem dX8_forecastAgain_29 : decode cX8_forecastAgain 29 = .ok (.iinc 2 1, 3) := by decide +kernel
theorem dX8_forecastAgain_32 : decode cX8_forecastAgain 32 = .ok (.goto (-28), 3) := by decide +kernel
theorem dX8_forecastAgain_35 : decode cX8_forecastAgain 35 = .ok (.iload_n 1, 1) := by decide +kernel
theorem dX8_forecastAgain_36 : decode cX8_forecastAgain 36 = .ok (.ireturn, 1) := by decide +kernel
theorem dX8_answerOf_0 : decode cX8_answerOf 0 = .ok (.aload_n 0, 1) := by decide +kernel
theorem dX8_answerOf_1 : decode cX8_answerOf 1 = .ok (.getfield 12, 3) := by decide +kernel
theorem dX8_answerOf_4 : decode cX8_answerOf 4 = .ok (.getfield 164, 3) := by decide +kernel
theorem dX8_answerOf_7 : decode cX8_answerOf 7 = .ok (.iload_n 1, 1) := by decide +kernel
theorem dX8_answerOf_8 : decode cX8_answerOf 8 = .ok (.invokevirtual 168, 3) := by decide +kernel
theorem dX8_answerOf_11 : decode cX8_answerOf 11 = .ok (.ifCond .ne 7, 3) := by decide +kernel
theorem dX8_answerOf_14 : decode cX8_answerOf 14 = .ok (.sipush (-1011), 3) := by decide +kernel
theorem dX8_answerOf_17 : decode cX8_answerOf 17 = .ok (.ireturn, 1) := by decide +kernel
theorem dX8_answerOf_18 : decode cX8_answerOf 18 = .ok (.aload_n 0, 1) := by decide +kernel
theorem dX8_answerOf_19 : decode cX8_answerOf 19 = .ok (.getfield 12, 3) := by decide +kernel
theorem dX8_answerOf_22 : decode cX8_answerOf 22 = .ok (.getfield 164, 3) := by decide +kernel
theorem dX8_answerOf_25 : decode cX8_answerOf 25 = .ok (.iload_n 1, 1) := by decide +kernel
theorem dX8_answerOf_26 : decode cX8_answerOf 26 = .ok (.invokevirtual 171, 3) := by decide +kernel
theorem dX8_answerOf_29 : decode cX8_answerOf 29 = .ok (.istore_n 3, 1) := by decide +kernel
theorem dX8_answerOf_30 : decode cX8_answerOf 30 = .ok (.iload_n 2, 1) := by decide +kernel
theorem dX8_answerOf_31 : decode cX8_answerOf 31 = .ok (.tableswitch 89 0 3 #[29, 44, 59, 74], 29) := by decide +kernel
theorem dX8_answerOf_60 : decode cX8_answerOf 60 = .ok (.aload_n 0, 1) := by decide +kernel
theorem dX8_answerOf_61 : decode cX8_answerOf 61 = .ok (.getfield 12, 3) := by decide +kernel
theorem dX8_answerOf_64 : decode cX8_answerOf 64 = .ok (.getfield 164, 3) := by decide +kernel
theorem dX8_answerOf_67 : decode cX8_answerOf 67 = .ok (.getfield 174, 3) := by decide +kernel
theorem dX8_answerOf_70 : decode cX8_answerOf 70 = .ok (.iload_n 3, 1) := by decide +kernel
theorem dX8_answerOf_71 : decode cX8_answerOf 71 = .ok (.invokestatic 89, 3) := by decide +kernel
theorem dX8_answerOf_74 : decode cX8_answerOf 74 = .ok (.ireturn, 1) := by decide +kernel
theorem dX8_answerOf_75 : decode cX8_answerOf 75 = .ok (.aload_n 0, 1) := by decide +kernel
theorem dX8_answerOf_76 : decode cX8_answerOf 76 = .ok (.getfield 12, 3) := by decide +kernel
theorem dX8_answerOf_79 : decode cX8_answerOf 79 = .ok (.getfield 164, 3) := by decide +kernel
theorem dX8_answerOf_82 : decode cX8_answerOf 82 = .ok (.getfield 175, 3) := by decide +kernel
theorem dX8_answerOf_85 : decode cX8_answerOf 85 = .ok (.iload_n 3, 1) := by decide +kernel
theorem dX8_answerOf_86 : decode cX8_answerOf 86 = .ok (.invokestatic 89, 3) := by decide +kernel
theorem dX8_answerOf_89 : decode cX8_answerOf 89 = .ok (.ireturn, 1) := by decide +kernel
theorem dX8_answerOf_90 : decode cX8_answerOf 90 = .ok (.aload_n 0, 1) := by decide +kernel
theorem dX8_answerOf_91 : decode cX8_answerOf 91 = .ok (.getfield 12, 3) := by decide +kernel
theorem dX8_answerOf_94 : decode cX8_answerOf 94 = .ok (.getfield 164, 3) := by decide +kernel
theorem dX8_answerOf_97 : decode cX8_answerOf 97 = .ok (.getfield 176, 3) := by decide +kernel
theorem dX8_answerOf_100 : decode cX8_answerOf 100 = .ok (.iload_n 3, 1) := by decide +kernel
theorem dX8_answerOf_101 : decode cX8_answerOf 101 = .ok (.invokestatic 89, 3) := by decide +kernel
theorem dX8_answerOf_104 : decode cX8_answerOf 104 = .ok (.ireturn, 1) := by decide +kernel
theorem dX8_answerOf_105 : decode cX8_answerOf 105 = .ok (.aload_n 0, 1) := by decide +kernel
theorem dX8_answerOf_106 : decode cX8_answerOf 106 = .ok (.getfield 12, 3) := by decide +kernel
theorem dX8_answerOf_109 : decode cX8_answerOf 109 = .ok (.getfield 164, 3) := by decide +kernel
theorem dX8_answerOf_112 : decode cX8_answerOf 112 = .ok (.getfield 179, 3) := by decide +kernel
theorem dX8_answerOf_115 : decode cX8_answerOf 115 = .ok (.iload_n 3, 1) := by decide +kernel
theorem dX8_answerOf_116 : decode cX8_answerOf 116 = .ok (.invokestatic 89, 3) := by decide +kernel
theorem dX8_answerOf_119 : decode cX8_answerOf 119 = .ok (.ireturn, 1) := by decide +kernel
theorem dX8_answerOf_120 : decode cX8_answerOf 120 = .ok (.sipush (-1012), 3) := by decide +kernel
theorem dX8_answerOf_123 : decode cX8_answerOf 123 = .ok (.ireturn, 1) := by decide +kernel
theorem dX8_answered_0 : decode cX8_answered 0 = .ok (.iload_n 1, 1) := by decide +kernel
theorem dX8_answered_1 : decode cX8_answered 1 = .ok (.invokestatic 180, 3) := by decide +kernel
theorem dX8_answered_4 : decode cX8_answered 4 = .ok (.ifCond .eq 17, 3) := by decide +kernel
theorem dX8_answered_7 : decode cX8_answered 7 = .ok (.aload_n 0, 1) := by decide +kernel
theorem dX8_answered_8 : decode cX8_answered 8 = .ok (.getfield 12, 3) := by decide +kernel
theorem dX8_answered_11 : decode cX8_answered 11 = .ok (.getfield 183, 3) := by decide +kernel
theorem dX8_answered_14 : decode cX8_answered 14 = .ok (.iload_n 1, 1) := by decide +kernel
theorem dX8_answered_15 : decode cX8_answered 15 = .ok (.invokestatic 89, 3) := by decide +kernel
theorem dX8_answered_18 : decode cX8_answered 18 = .ok (.goto 6, 3) := by decide +kernel
theorem dX8_answered_21 : decode cX8_answered 21 = .ok (.sipush (-1012), 3) := by decide +kernel
theorem dX8_answered_24 : decode cX8_answered 24 = .ok (.ireturn, 1) := by decide +kernel
theorem dX8_guess_0 : decode cX8_guess 0 = .ok (.iload_n 1, 1) := by decide +kernel
theorem dX8_guess_1 : decode cX8_guess 1 = .ok (.invokestatic 180, 3) := by decide +kernel
theorem dX8_guess_4 : decode cX8_guess 4 = .ok (.ifCond .eq 27, 3) := by decide +kernel
theorem dX8_guess_7 : decode cX8_guess 7 = .ok (.aload_n 0, 1) := by decide +kernel
theorem dX8_guess_8 : decode cX8_guess 8 = .ok (.getfield 12, 3) := by decide +kernel
theorem dX8_guess_11 : decode cX8_guess 11 = .ok (.getfield 75, 3) := by decide +kernel
theorem dX8_guess_14 : decode cX8_guess 14 = .ok (.aload_n 0, 1) := by decide +kernel
theorem dX8_guess_15 : decode cX8_guess 15 = .ok (.getfield 12, 3) := by decide +kernel
theorem dX8_guess_18 : decode cX8_guess 18 = .ok (.getfield 183, 3) := by decide +kernel
theorem dX8_guess_21 : decode cX8_guess 21 = .ok (.iload_n 1, 1) := by decide +kernel
theorem dX8_guess_22 : decode cX8_guess 22 = .ok (.invokestatic 89, 3) := by decide +kernel
theorem dX8_guess_25 : decode cX8_guess 25 = .ok (.invokevirtual 186, 3) := by decide +kernel
theorem dX8_guess_28 : decode cX8_guess 28 = .ok (.goto 6, 3) := by decide +kernel
theorem dX8_guess_31 : decode cX8_guess 31 = .ok (.sipush (-1012), 3) := by decide +kernel
theorem dX8_guess_34 : decode cX8_guess 34 = .ok (.ireturn, 1) := by decide +kernel
theorem dX8_guessAgain_0 : decode cX8_guessAgain 0 = .ok (.iload_n 1, 1) := by decide +kernel
theorem dX8_guessAgain_1 : decode cX8_guessAgain 1 = .ok (.invokestatic 180, 3) := by decide +kernel
theorem dX8_guessAgain_4 : decode cX8_guessAgain 4 = .ok (.ifCond .eq 27, 3) := by decide +kernel
theorem dX8_guessAgain_7 : decode cX8_guessAgain 7 = .ok (.aload_n 0, 1) := by decide +kernel
theorem dX8_guessAgain_8 : decode cX8_guessAgain 8 = .ok (.getfield 12, 3) := by decide +kernel
theorem dX8_guessAgain_11 : decode cX8_guessAgain 11 = .ok (.getfield 75, 3) := by decide +kernel
theorem dX8_guessAgain_14 : decode cX8_guessAgain 14 = .ok (.aload_n 0, 1) := by decide +kernel
theorem dX8_guessAgain_15 : decode cX8_guessAgain 15 = .ok (.getfield 12, 3) := by decide +kernel
theorem dX8_guessAgain_18 : decode cX8_guessAgain 18 = .ok (.getfield 183, 3) := by decide +kernel
theorem dX8_guessAgain_21 : decode cX8_guessAgain 21 = .ok (.iload_n 1, 1) := by decide +kernel
theorem dX8_guessAgain_22 : decode cX8_guessAgain 22 = .ok (.invokestatic 89, 3) := by decide +kernel
theorem dX8_guessAgain_25 : decode cX8_guessAgain 25 = .ok (.invokevirtual 189, 3) := by decide +kernel
theorem dX8_guessAgain_28 : decode cX8_guessAgain 28 = .ok (.goto 6, 3) := by decide +kernel
theorem dX8_guessAgain_31 : decode cX8_guessAgain 31 = .ok (.sipush (-1012), 3) := by decide +kernel
theorem dX8_guessAgain_34 : decode cX8_guessAgain 34 = .ok (.ireturn, 1) := by decide +kernel
theorem dX8_parishOf_0 : decode cX8_parishOf 0 = .ok (.iload_n 1, 1) := by decide +kernel
theorem dX8_parishOf_1 : decode cX8_parishOf 1 = .ok (.invokestatic 192, 3) := by decide +kernel
theorem dX8_parishOf_4 : decode cX8_parishOf 4 = .ok (.ifCond .ne 7, 3) := by decide +kernel
theorem dX8_parishOf_7 : decode cX8_parishOf 7 = .ok (.sipush (-1011), 3) := by decide +kernel
theorem dX8_parishOf_10 : decode cX8_parishOf 10 = .ok (.ireturn, 1) := by decide +kernel
theorem dX8_parishOf_11 : decode cX8_parishOf 11 = .ok (.iload_n 2, 1) := by decide +kernel
theorem dX8_parishOf_12 : decode cX8_parishOf 12 = .ok (.tableswitch 123 0 4 #[36, 51, 73, 95, 101], 36) := by decide +kernel
theorem dX8_parishOf_48 : decode cX8_parishOf 48 = .ok (.aload_n 0, 1) := by decide +kernel
theorem dX8_parishOf_49 : decode cX8_parishOf 49 = .ok (.getfield 12, 3) := by decide +kernel
theorem dX8_parishOf_52 : decode cX8_parishOf 52 = .ok (.getfield 75, 3) := by decide +kernel
theorem dX8_parishOf_55 : decode cX8_parishOf 55 = .ok (.iload_n 1, 1) := by decide +kernel
theorem dX8_parishOf_56 : decode cX8_parishOf 56 = .ok (.invokevirtual 195, 3) := by decide +kernel
theorem dX8_parishOf_59 : decode cX8_parishOf 59 = .ok (.invokestatic 198, 3) := by decide +kernel
theorem dX8_parishOf_62 : decode cX8_parishOf 62 = .ok (.ireturn, 1) := by decide +kernel
theorem dX8_parishOf_63 : decode cX8_parishOf 63 = .ok (.aload_n 0, 1) := by decide +kernel
theorem dX8_parishOf_64 : decode cX8_parishOf 64 = .ok (.getfield 12, 3) := by decide +kernel
theorem dX8_parishOf_67 : decode cX8_parishOf 67 = .ok (.getfield 75, 3) := by decide +kernel
theorem dX8_parishOf_70 : decode cX8_parishOf 70 = .ok (.aload_n 0, 1) := by decide +kernel
theorem dX8_parishOf_71 : decode cX8_parishOf 71 = .ok (.getfield 12, 3) := by decide +kernel
theorem dX8_parishOf_74 : decode cX8_parishOf 74 = .ok (.getfield 75, 3) := by decide +kernel
theorem dX8_parishOf_77 : decode cX8_parishOf 77 = .ok (.getfield 99, 3) := by decide +kernel
theorem dX8_parishOf_80 : decode cX8_parishOf 80 = .ok (.iload_n 1, 1) := by decide +kernel
theorem dX8_parishOf_81 : decode cX8_parishOf 81 = .ok (.invokevirtual 203, 3) := by decide +kernel
theorem dX8_parishOf_84 : decode cX8_parishOf 84 = .ok (.ireturn, 1) := by decide +kernel
theorem dX8_parishOf_85 : decode cX8_parishOf 85 = .ok (.aload_n 0, 1) := by decide +kernel
theorem dX8_parishOf_86 : decode cX8_parishOf 86 = .ok (.getfield 12, 3) := by decide +kernel
theorem dX8_parishOf_89 : decode cX8_parishOf 89 = .ok (.getfield 75, 3) := by decide +kernel
theorem dX8_parishOf_92 : decode cX8_parishOf 92 = .ok (.aload_n 0, 1) := by decide +kernel
theorem dX8_parishOf_93 : decode cX8_parishOf 93 = .ok (.getfield 12, 3) := by decide +kernel
theorem dX8_parishOf_96 : decode cX8_parishOf 96 = .ok (.getfield 75, 3) := by decide +kernel
theorem dX8_parishOf_99 : decode cX8_parishOf 99 = .ok (.getfield 96, 3) := by decide +kernel
theorem dX8_parishOf_102 : decode cX8_parishOf 102 = .ok (.iload_n 1, 1) := by decide +kernel
theorem dX8_parishOf_103 : decode cX8_parishOf 103 = .ok (.invokevirtual 203, 3) := by decide +kernel
theorem dX8_parishOf_106 : decode cX8_parishOf 106 = .ok (.ireturn, 1) := by decide +kernel
theorem dX8_parishOf_107 : decode cX8_parishOf 107 = .ok (.aload_n 0, 1) := by decide +kernel
theorem dX8_parishOf_108 : decode cX8_parishOf 108 = .ok (.iload_n 1, 1) := by decide +kernel
theorem dX8_parishOf_109 : decode cX8_parishOf 109 = .ok (.invokevirtual 206, 3) := by decide +kernel
theorem dX8_parishOf_112 : decode cX8_parishOf 112 = .ok (.ireturn, 1) := by decide +kernel
theorem dX8_parishOf_113 : decode cX8_parishOf 113 = .ok (.aload_n 0, 1) := by decide +kernel
theorem dX8_parishOf_114 : decode cX8_parishOf 114 = .ok (.getfield 12, 3) := by decide +kernel
theorem dX8_parishOf_117 : decode cX8_parishOf 117 = .ok (.getfield 108, 3) := by decide +kernel
theorem dX8_parishOf_120 : decode cX8_parishOf 120 = .ok (.aload_n 0, 1) := by decide +kernel
theorem dX8_parishOf_121 : decode cX8_parishOf 121 = .ok (.getfield 12, 3) := by decide +kernel
theorem dX8_parishOf_124 : decode cX8_parishOf 124 = .ok (.getfield 75, 3) := by decide +kernel
theorem dX8_parishOf_127 : decode cX8_parishOf 127 = .ok (.iload_n 1, 1) := by decide +kernel
theorem dX8_parishOf_128 : decode cX8_parishOf 128 = .ok (.invokevirtual 195, 3) := by decide +kernel
theorem dX8_parishOf_131 : decode cX8_parishOf 131 = .ok (.invokevirtual 209, 3) := by decide +kernel
theorem dX8_parishOf_134 : decode cX8_parishOf 134 = .ok (.ireturn, 1) := by decide +kernel
theorem dX8_parishOf_135 : decode cX8_parishOf 135 = .ok (.sipush (-1012), 3) := by decide +kernel
theorem dX8_parishOf_138 : decode cX8_parishOf 138 = .ok (.ireturn, 1) := by decide +kernel
theorem dX8_busiest_0 : decode cX8_busiest 0 = .ok (.sipush (-1015), 3) := by decide +kernel
theorem dX8_busiest_3 : decode cX8_busiest 3 = .ok (.istore_n 1, 1) := by decide +kernel
theorem dX8_busiest_4 : decode cX8_busiest 4 = .ok (.iconst 0, 1) := by decide +kernel
theorem dX8_busiest_5 : decode cX8_busiest 5 = .ok (.istore_n 2, 1) := by decide +kernel
theorem dX8_busiest_6 : decode cX8_busiest 6 = .ok (.iconst 0, 1) := by decide +kernel
theorem dX8_busiest_7 : decode cX8_busiest 7 = .ok (.istore_n 3, 1) := by decide +kernel
theorem dX8_busiest_8 : decode cX8_busiest 8 = .ok (.iload_n 3, 1) := by decide +kernel
theorem dX8_busiest_9 : decode cX8_busiest 9 = .ok (.bipush 24, 2) := by decide +kernel
theorem dX8_busiest_11 : decode cX8_busiest 11 = .ok (.if_icmp .ge 36, 3) := by decide +kernel
theorem dX8_busiest_14 : decode cX8_busiest 14 = .ok (.aload_n 0, 1) := by decide +kernel
theorem dX8_busiest_15 : decode cX8_busiest 15 = .ok (.getfield 12, 3) := by decide +kernel
theorem dX8_busiest_18 : decode cX8_busiest 18 = .ok (.getfield 183, 3) := by decide +kernel
theorem dX8_busiest_21 : decode cX8_busiest 21 = .ok (.iload_n 3, 1) := by decide +kernel
theorem dX8_busiest_22 : decode cX8_busiest 22 = .ok (.invokestatic 89, 3) := by decide +kernel
theorem dX8_busiest_25 : decode cX8_busiest 25 = .ok (.invokestatic 198, 3) := by decide +kernel
theorem dX8_busiest_28 : decode cX8_busiest 28 = .ok (.istore 4, 2) := by decide +kernel
theorem dX8_busiest_30 : decode cX8_busiest 30 = .ok (.iload 4, 2) := by decide +kernel
theorem dX8_busiest_32 : decode cX8_busiest 32 = .ok (.iload_n 2, 1) := by decide +kernel
theorem dX8_busiest_33 : decode cX8_busiest 33 = .ok (.if_icmp .le 8, 3) := by decide +kernel
theorem dX8_busiest_36 : decode cX8_busiest 36 = .ok (.iload 4, 2) := by decide +kernel
theorem dX8_busiest_38 : decode cX8_busiest 38 = .ok (.istore_n 2, 1) := by decide +kernel
theorem dX8_busiest_39 : decode cX8_busiest 39 = .ok (.iload_n 3, 1) := by decide +kernel
theorem dX8_busiest_40 : decode cX8_busiest 40 = .ok (.istore_n 1, 1) := by decide +kernel
theorem dX8_busiest_41 : decode cX8_busiest 41 = .ok (.iinc 3 1, 3) := by decide +kernel
theorem dX8_busiest_44 : decode cX8_busiest 44 = .ok (.goto (-36), 3) := by decide +kernel
theorem dX8_busiest_47 : decode cX8_busiest 47 = .ok (.iload_n 1, 1) := by decide +kernel
theorem dX8_busiest_48 : decode cX8_busiest 48 = .ok (.ireturn, 1) := by decide +kernel
theorem dX8_rustiest_0 : decode cX8_rustiest 0 = .ok (.iconst 0, 1) := by decide +kernel
theorem dX8_rustiest_1 : decode cX8_rustiest 1 = .ok (.istore_n 2, 1) := by decide +kernel
theorem dX8_rustiest_2 : decode cX8_rustiest 2 = .ok (.iload_n 2, 1) := by decide +kernel
theorem dX8_rustiest_3 : decode cX8_rustiest 3 = .ok (.aload_n 0, 1) := by decide +kernel
theorem dX8_rustiest_4 : decode cX8_rustiest 4 = .ok (.getfield 12, 3) := by decide +kernel
theorem dX8_rustiest_7 : decode cX8_rustiest 7 = .ok (.getfield 75, 3) := by decide +kernel
theorem dX8_rustiest_10 : decode cX8_rustiest 10 = .ok (.getfield 160, 3) := by decide +kernel
theorem dX8_rustiest_13 : decode cX8_rustiest 13 = .ok (.if_icmp .ge 26, 3) := by decide +kernel
theorem dX8_rustiest_16 : decode cX8_rustiest 16 = .ok (.aload_n 0, 1) := by decide +kernel
theorem dX8_rustiest_17 : decode cX8_rustiest 17 = .ok (.getfield 12, 3) := by decide +kernel
theorem dX8_rustiest_20 : decode cX8_rustiest 20 = .ok (.getfield 75, 3) := by decide +kernel
theorem dX8_rustiest_23 : decode cX8_rustiest 23 = .ok (.iload_n 2, 1) := by decide +kernel
theorem dX8_rustiest_24 : decode cX8_rustiest 24 = .ok (.invokevirtual 212, 3) := by decide +kernel
theorem dX8_rustiest_27 : decode cX8_rustiest 27 = .ok (.iload_n 1, 1) := by decide +kernel
theorem dX8_rustiest_28 : decode cX8_rustiest 28 = .ok (.if_icmp .ne 5, 3) := by decide +kernel
theorem dX8_rustiest_31 : decode cX8_rustiest 31 = .ok (.iload_n 2, 1) := by decide +kernel
theorem dX8_rustiest_32 : decode cX8_rustiest 32 = .ok (.ireturn, 1) := by decide +kernel
theorem dX8_rustiest_33 : decode cX8_rustiest 33 = .ok (.iinc 2 1, 3) := by decide +kernel
theorem dX8_rustiest_36 : decode cX8_rustiest 36 = .ok (.goto (-34), 3) := by decide +kernel
theorem dX8_rustiest_39 : decode cX8_rustiest 39 = .ok (.sipush (-1011), 3) := by decide +kernel
theorem dX8_rustiest_42 : decode cX8_rustiest 42 = .ok (.ireturn, 1) := by decide +kernel
theorem dX8_ranked_0 : decode cX8_ranked 0 = .ok (.iconst 0, 1) := by decide +kernel
theorem dX8_ranked_1 : decode cX8_ranked 1 = .ok (.istore_n 2, 1) := by decide +kernel
theorem dX8_ranked_2 : decode cX8_ranked 2 = .ok (.iload_n 2, 1) := by decide +kernel
theorem dX8_ranked_3 : decode cX8_ranked 3 = .ok (.iconst 4, 1) := by decide +kernel
theorem dX8_ranked_4 : decode cX8_ranked 4 = .ok (.if_icmp .ge 26, 3) := by decide +kernel
theorem dX8_ranked_7 : decode cX8_ranked 7 = .ok (.aload_n 0, 1) := by decide +kernel
theorem dX8_ranked_8 : decode cX8_ranked 8 = .ok (.getfield 12, 3) := by decide +kernel
theorem dX8_ranked_11 : decode cX8_ranked 11 = .ok (.getfield 75, 3) := by decide +kernel
theorem dX8_ranked_14 : decode cX8_ranked 14 = .ok (.iload_n 2, 1) := by decide +kernel
theorem dX8_ranked_15 : decode cX8_ranked 15 = .ok (.invokevirtual 215, 3) := by decide +kernel
theorem dX8_ranked_18 : decode cX8_ranked 18 = .ok (.iload_n 1, 1) := by decide +kernel
theorem dX8_ranked_19 : decode cX8_ranked 19 = .ok (.if_icmp .ne 5, 3) := by decide +kernel
theorem dX8_ranked_22 : decode cX8_ranked 22 = .ok (.iload_n 2, 1) := by decide +kernel
theorem dX8_ranked_23 : decode cX8_ranked 23 = .ok (.ireturn, 1) := by decide +kernel
theorem dX8_ranked_24 : decode cX8_ranked 24 = .ok (.iinc 2 1, 3) := by decide +kernel
theorem dX8_ranked_27 : decode cX8_ranked 27 = .ok (.goto (-25), 3) := by decide +kernel
theorem dX8_ranked_30 : decode cX8_ranked 30 = .ok (.sipush (-1011), 3) := by decide +kernel
theorem dX8_ranked_33 : decode cX8_ranked 33 = .ok (.ireturn, 1) := by decide +kernel
theorem dX8_run_0 : decode cX8_run 0 = .ok (.aload_n 0, 1) := by decide +kernel
theorem dX8_run_1 : decode cX8_run 1 = .ok (.getfield 36, 3) := by decide +kernel
theorem dX8_run_4 : decode cX8_run 4 = .ok (.aload_n 0, 1) := by decide +kernel
theorem dX8_run_5 : decode cX8_run 5 = .ok (.getfield 29, 3) := by decide +kernel
theorem dX8_run_8 : decode cX8_run 8 = .ok (.invokevirtual 224, 3) := by decide +kernel
theorem dX8_run_11 : decode cX8_run 11 = .ok (.istore_n 1, 1) := by decide +kernel
theorem dX8_run_12 : decode cX8_run 12 = .ok (.aload_n 0, 1) := by decide +kernel
theorem dX8_run_13 : decode cX8_run 13 = .ok (.getfield 29, 3) := by decide +kernel
theorem dX8_run_16 : decode cX8_run 16 = .ok (.iconst 0, 1) := by decide +kernel
theorem dX8_run_17 : decode cX8_run 17 = .ok (.putfield 218, 3) := by decide +kernel
theorem dX8_run_20 : decode cX8_run 20 = .ok (.iload_n 1, 1) := by decide +kernel
theorem dX8_run_21 : decode cX8_run 21 = .ok (.iconst (-1), 1) := by decide +kernel
theorem dX8_run_22 : decode cX8_run 22 = .ok (.if_icmp .eq 9, 3) := by decide +kernel
theorem dX8_run_25 : decode cX8_run 25 = .ok (.sipush (-2000), 3) := by decide +kernel
theorem dX8_run_28 : decode cX8_run 28 = .ok (.iload_n 1, 1) := by decide +kernel
theorem dX8_run_29 : decode cX8_run 29 = .ok (.isub, 1) := by decide +kernel
theorem dX8_run_30 : decode cX8_run 30 = .ok (.ireturn, 1) := by decide +kernel
theorem dX8_run_31 : decode cX8_run 31 = .ok (.aload_n 0, 1) := by decide +kernel
theorem dX8_run_32 : decode cX8_run 32 = .ok (.getfield 22, 3) := by decide +kernel
theorem dX8_run_35 : decode cX8_run 35 = .ok (.aload_n 0, 1) := by decide +kernel
theorem dX8_run_36 : decode cX8_run 36 = .ok (.getfield 12, 3) := by decide +kernel
theorem dX8_run_39 : decode cX8_run 39 = .ok (.invokevirtual 54, 3) := by decide +kernel
theorem dX8_run_42 : decode cX8_run 42 = .ok (.iconst 0, 1) := by decide +kernel
theorem dX8_run_43 : decode cX8_run 43 = .ok (.istore_n 2, 1) := by decide +kernel
theorem dX8_run_44 : decode cX8_run 44 = .ok (.iload_n 2, 1) := by decide +kernel
theorem dX8_run_45 : decode cX8_run 45 = .ok (.aload_n 0, 1) := by decide +kernel
theorem dX8_run_46 : decode cX8_run 46 = .ok (.getfield 36, 3) := by decide +kernel
theorem dX8_run_49 : decode cX8_run 49 = .ok (.getfield 228, 3) := by decide +kernel
theorem dX8_run_52 : decode cX8_run 52 = .ok (.if_icmp .ge 36, 3) := by decide +kernel
theorem dX8_run_55 : decode cX8_run 55 = .ok (.aload_n 0, 1) := by decide +kernel
theorem dX8_run_56 : decode cX8_run 56 = .ok (.iload_n 2, 1) := by decide +kernel
theorem dX8_run_57 : decode cX8_run 57 = .ok (.invokevirtual 229, 3) := by decide +kernel
theorem dX8_run_60 : decode cX8_run 60 = .ok (.ifCond .ge 22, 3) := by decide +kernel
theorem dX8_run_63 : decode cX8_run 63 = .ok (.aload_n 0, 1) := by decide +kernel
theorem dX8_run_64 : decode cX8_run 64 = .ok (.getfield 22, 3) := by decide +kernel
theorem dX8_run_67 : decode cX8_run 67 = .ok (.aload_n 0, 1) := by decide +kernel
theorem dX8_run_68 : decode cX8_run 68 = .ok (.getfield 12, 3) := by decide +kernel
theorem dX8_run_71 : decode cX8_run 71 = .ok (.invokevirtual 232, 3) := by decide +kernel
theorem dX8_run_74 : decode cX8_run 74 = .ok (.aload_n 0, 1) := by decide +kernel
theorem dX8_run_75 : decode cX8_run 75 = .ok (.bipush 7, 2) := by decide +kernel
theorem dX8_run_77 : decode cX8_run 77 = .ok (.iload_n 2, 1) := by decide +kernel
theorem dX8_run_78 : decode cX8_run 78 = .ok (.invokevirtual 235, 3) := by decide +kernel
theorem dX8_run_81 : decode cX8_run 81 = .ok (.ireturn, 1) := by decide +kernel
theorem dX8_run_82 : decode cX8_run 82 = .ok (.iinc 2 1, 3) := by decide +kernel
theorem dX8_run_85 : decode cX8_run 85 = .ok (.goto (-41), 3) := by decide +kernel
theorem dX8_run_88 : decode cX8_run 88 = .ok (.aload_n 0, 1) := by decide +kernel
theorem dX8_run_89 : decode cX8_run 89 = .ok (.aload_n 0, 1) := by decide +kernel
theorem dX8_run_90 : decode cX8_run 90 = .ok (.getfield 36, 3) := by decide +kernel
theorem dX8_run_93 : decode cX8_run 93 = .ok (.getfield 228, 3) := by decide +kernel
theorem dX8_run_96 : decode cX8_run 96 = .ok (.invokevirtual 62, 3) := by decide +kernel
theorem dX8_run_99 : decode cX8_run 99 = .ok (.ireturn, 1) := by decide +kernel
theorem dX8_tell_0 : decode cX8_tell 0 = .ok (.aload_n 0, 1) := by decide +kernel
theorem dX8_tell_1 : decode cX8_tell 1 = .ok (.getfield 12, 3) := by decide +kernel
theorem dX8_tell_4 : decode cX8_tell 4 = .ok (.getfield 75, 3) := by decide +kernel
theorem dX8_tell_7 : decode cX8_tell 7 = .ok (.iload_n 1, 1) := by decide +kernel
theorem dX8_tell_8 : decode cX8_tell 8 = .ok (.invokevirtual 79, 3) := by decide +kernel
theorem dX8_tell_11 : decode cX8_tell 11 = .ok (.ifCond .ne 7, 3) := by decide +kernel
theorem dX8_tell_14 : decode cX8_tell 14 = .ok (.sipush (-1011), 3) := by decide +kernel
theorem dX8_tell_17 : decode cX8_tell 17 = .ok (.ireturn, 1) := by decide +kernel
theorem dX8_tell_18 : decode cX8_tell 18 = .ok (.aload_n 0, 1) := by decide +kernel
theorem dX8_tell_19 : decode cX8_tell 19 = .ok (.getfield 43, 3) := by decide +kernel
theorem dX8_tell_22 : decode cX8_tell 22 = .ok (.iconst 0, 1) := by decide +kernel
theorem dX8_tell_23 : decode cX8_tell 23 = .ok (.putfield 238, 3) := by decide +kernel
theorem dX8_tell_26 : decode cX8_tell 26 = .ok (.aload_n 0, 1) := by decide +kernel
theorem dX8_tell_27 : decode cX8_tell 27 = .ok (.iload_n 1, 1) := by decide +kernel
theorem dX8_tell_28 : decode cX8_tell 28 = .ok (.invokevirtual 239, 3) := by decide +kernel
theorem dX8_tell_31 : decode cX8_tell 31 = .ok (.aload_n 0, 1) := by decide +kernel
theorem dX8_tell_32 : decode cX8_tell 32 = .ok (.iload_n 1, 1) := by decide +kernel
theorem dX8_tell_33 : decode cX8_tell 33 = .ok (.invokevirtual 243, 3) := by decide +kernel
theorem dX8_tell_36 : decode cX8_tell 36 = .ok (.aload_n 0, 1) := by decide +kernel
theorem dX8_tell_37 : decode cX8_tell 37 = .ok (.getfield 43, 3) := by decide +kernel
theorem dX8_tell_40 : decode cX8_tell 40 = .ok (.getfield 238, 3) := by decide +kernel
theorem dX8_tell_43 : decode cX8_tell 43 = .ok (.ireturn, 1) := by decide +kernel
theorem dX8_tellDay_0 : decode cX8_tellDay 0 = .ok (.aload_n 0, 1) := by decide +kernel
theorem dX8_tellDay_1 : decode cX8_tellDay 1 = .ok (.getfield 43, 3) := by decide +kernel
theorem dX8_tellDay_4 : decode cX8_tellDay 4 = .ok (.iconst 0, 1) := by decide +kernel
theorem dX8_tellDay_5 : decode cX8_tellDay 5 = .ok (.putfield 238, 3) := by decide +kernel
theorem dX8_tellDay_8 : decode cX8_tellDay 8 = .ok (.iconst 0, 1) := by decide +kernel
theorem dX8_tellDay_9 : decode cX8_tellDay 9 = .ok (.istore_n 1, 1) := by decide +kernel
theorem dX8_tellDay_10 : decode cX8_tellDay 10 = .ok (.iload_n 1, 1) := by decide +kernel
theorem dX8_tellDay_11 : decode cX8_tellDay 11 = .ok (.bipush 24, 2) := by decide +kernel
theorem dX8_tellDay_13 : decode cX8_tellDay 13 = .ok (.if_icmp .ge 28, 3) := by decide +kernel
theorem dX8_tellDay_16 : decode cX8_tellDay 16 = .ok (.aload_n 0, 1) := by decide +kernel
theorem dX8_tellDay_17 : decode cX8_tellDay 17 = .ok (.getfield 12, 3) := by decide +kernel
theorem dX8_tellDay_20 : decode cX8_tellDay 20 = .ok (.getfield 183, 3) := by decide +kernel
theorem dX8_tellDay_23 : decode cX8_tellDay 23 = .ok (.iload_n 1, 1) := by decide +kernel
theorem dX8_tellDay_24 : decode cX8_tellDay 24 = .ok (.invokestatic 89, 3) := by decide +kernel
theorem dX8_tellDay_27 : decode cX8_tellDay 27 = .ok (.ifCond .eq 8, 3) := by decide +kernel
theorem dX8_tellDay_30 : decode cX8_tellDay 30 = .ok (.aload_n 0, 1) := by decide +kernel
theorem dX8_tellDay_31 : decode cX8_tellDay 31 = .ok (.iload_n 1, 1) := by decide +kernel
theorem dX8_tellDay_32 : decode cX8_tellDay 32 = .ok (.invokevirtual 246, 3) := by decide +kernel
theorem dX8_tellDay_35 : decode cX8_tellDay 35 = .ok (.iinc 1 1, 3) := by decide +kernel
theorem dX8_tellDay_38 : decode cX8_tellDay 38 = .ok (.goto (-28), 3) := by decide +kernel
theorem dX8_tellDay_41 : decode cX8_tellDay 41 = .ok (.aload_n 0, 1) := by decide +kernel
theorem dX8_tellDay_42 : decode cX8_tellDay 42 = .ok (.getfield 43, 3) := by decide +kernel
theorem dX8_tellDay_45 : decode cX8_tellDay 45 = .ok (.getfield 238, 3) := by decide +kernel
theorem dX8_tellDay_48 : decode cX8_tellDay 48 = .ok (.ireturn, 1) := by decide +kernel
theorem dX8_character_0 : decode cX8_character 0 = .ok (.iload_n 1, 1) := by decide +kernel
theorem dX8_character_1 : decode cX8_character 1 = .ok (.ifCond .lt 28, 3) := by decide +kernel
theorem dX8_character_4 : decode cX8_character 4 = .ok (.iload_n 1, 1) := by decide +kernel
theorem dX8_character_5 : decode cX8_character 5 = .ok (.aload_n 0, 1) := by decide +kernel
theorem dX8_character_6 : decode cX8_character 6 = .ok (.getfield 43, 3) := by decide +kernel
theorem dX8_character_9 : decode cX8_character 9 = .ok (.getfield 238, 3) := by decide +kernel
theorem dX8_character_12 : decode cX8_character 12 = .ok (.if_icmp .ge 17, 3) := by decide +kernel
theorem dX8_character_15 : decode cX8_character 15 = .ok (.aload_n 0, 1) := by decide +kernel
theorem dX8_character_16 : decode cX8_character 16 = .ok (.getfield 43, 3) := by decide +kernel
theorem dX8_character_19 : decode cX8_character 19 = .ok (.getfield 249, 3) := by decide +kernel
theorem dX8_character_22 : decode cX8_character 22 = .ok (.iload_n 1, 1) := by decide +kernel
theorem dX8_character_23 : decode cX8_character 23 = .ok (.invokestatic 89, 3) := by decide +kernel
theorem dX8_character_26 : decode cX8_character 26 = .ok (.goto 6, 3) := by decide +kernel
theorem dX8_character_29 : decode cX8_character 29 = .ok (.sipush (-1011), 3) := by decide +kernel
theorem dX8_character_32 : decode cX8_character 32 = .ok (.ireturn, 1) := by decide +kernel
theorem dX8_reason_0 : decode cX8_reason 0 = .ok (.iload_n 1, 1) := by decide +kernel
theorem dX8_reason_1 : decode cX8_reason 1 = .ok (.ifCond .eq 10, 3) := by decide +kernel
theorem dX8_reason_4 : decode cX8_reason 4 = .ok (.aload_n 0, 1) := by decide +kernel
theorem dX8_reason_5 : decode cX8_reason 5 = .ok (.getfield 51, 3) := by decide +kernel
theorem dX8_reason_8 : decode cX8_reason 8 = .ok (.goto 7, 3) := by decide +kernel
theorem dX8_reason_11 : decode cX8_reason 11 = .ok (.aload_n 0, 1) := by decide +kernel
theorem dX8_reason_12 : decode cX8_reason 12 = .ok (.getfield 47, 3) := by decide +kernel
theorem dX8_reason_15 : decode cX8_reason 15 = .ok (.ireturn, 1) := by decide +kernel
theorem dX8_account_0 : decode cX8_account 0 = .ok (.iload_n 1, 1) := by decide +kernel
theorem dX8_account_1 : decode cX8_account 1 = .ok (.tableswitch 186 0 12 #[67, 78, 89, 97, 105, 113, 121, 129, 137, 145, 159, 170, 178], 67) := by decide +kernel
theorem dX8_account_68 : decode cX8_account 68 = .ok (.aload_n 0, 1) := by decide +kernel
theorem dX8_account_69 : decode cX8_account 69 = .ok (.getfield 12, 3) := by decide +kernel
theorem dX8_account_72 : decode cX8_account 72 = .ok (.getfield 75, 3) := by decide +kernel
theorem dX8_account_75 : decode cX8_account 75 = .ok (.getfield 160, 3) := by decide +kernel
theorem dX8_account_78 : decode cX8_account 78 = .ok (.ireturn, 1) := by decide +kernel
theorem dX8_account_79 : decode cX8_account 79 = .ok (.aload_n 0, 1) := by decide +kernel
theorem dX8_account_80 : decode cX8_account 80 = .ok (.getfield 12, 3) := by decide +kernel
theorem dX8_account_83 : decode cX8_account 83 = .ok (.getfield 108, 3) := by decide +kernel
theorem dX8_account_86 : decode cX8_account 86 = .ok (.getfield 154, 3) := by decide +kernel
theorem dX8_account_89 : decode cX8_account 89 = .ok (.ireturn, 1) := by decide +kernel
theorem dX8_account_90 : decode cX8_account 90 = .ok (.aload_n 0, 1) := by decide +kernel
theorem dX8_account_91 : decode cX8_account 91 = .ok (.getfield 12, 3) := by decide +kernel
theorem dX8_account_94 : decode cX8_account 94 = .ok (.getfield 252, 3) := by decide +kernel
theorem dX8_account_97 : decode cX8_account 97 = .ok (.ireturn, 1) := by decide +kernel
theorem dX8_account_98 : decode cX8_account 98 = .ok (.aload_n 0, 1) := by decide +kernel
theorem dX8_account_99 : decode cX8_account 99 = .ok (.getfield 12, 3) := by decide +kernel
theorem dX8_account_102 : decode cX8_account 102 = .ok (.getfield 254, 3) := by decide +kernel
theorem dX8_account_105 : decode cX8_account 105 = .ok (.ireturn, 1) := by decide +kernel
theorem dX8_account_106 : decode cX8_account 106 = .ok (.aload_n 0, 1) := by decide +kernel
theorem dX8_account_107 : decode cX8_account 107 = .ok (.getfield 12, 3) := by decide +kernel
theorem dX8_account_110 : decode cX8_account 110 = .ok (.getfield 256, 3) := by decide +kernel
theorem dX8_account_113 : decode cX8_account 113 = .ok (.ireturn, 1) := by decide +kernel
theorem dX8_account_114 : decode cX8_account 114 = .ok (.aload_n 0, 1) := by decide +kernel
theorem dX8_account_115 : decode cX8_account 115 = .ok (.getfield 12, 3) := by decide +kernel
theorem dX8_account_118 : decode cX8_account 118 = .ok (.getfield 259, 3) := by decide +kernel
theorem dX8_account_121 : decode cX8_account 121 = .ok (.ireturn, 1) := by decide +kernel
theorem dX8_account_122 : decode cX8_account 122 = .ok (.aload_n 0, 1) := by decide +kernel
theorem dX8_account_123 : decode cX8_account 123 = .ok (.getfield 12, 3) := by decide +kernel
theorem dX8_account_126 : decode cX8_account 126 = .ok (.getfield 261, 3) := by decide +kernel
theorem dX8_account_129 : decode cX8_account 129 = .ok (.ireturn, 1) := by decide +kernel
theorem dX8_account_130 : decode cX8_account 130 = .ok (.aload_n 0, 1) := by decide +kernel
theorem dX8_account_131 : decode cX8_account 131 = .ok (.getfield 12, 3) := by decide +kernel
theorem dX8_account_134 : decode cX8_account 134 = .ok (.getfield 263, 3) := by decide +kernel
theorem dX8_account_137 : decode cX8_account 137 = .ok (.ireturn, 1) := by decide +kernel
theorem dX8_account_138 : decode cX8_account 138 = .ok (.aload_n 0, 1) := by decide +kernel
theorem dX8_account_139 : decode cX8_account 139 = .ok (.getfield 12, 3) := by decide +kernel
theorem dX8_account_142 : decode cX8_account 142 = .ok (.getfield 265, 3) := by decide +kernel
theorem dX8_account_145 : decode cX8_account 145 = .ok (.ireturn, 1) := by decide +kernel
theorem dX8_account_146 : decode cX8_account 146 = .ok (.aload_n 0, 1) := by decide +kernel
theorem dX8_account_147 : decode cX8_account 147 = .ok (.getfield 12, 3) := by decide +kernel
theorem dX8_account_150 : decode cX8_account 150 = .ok (.getfield 75, 3) := by decide +kernel
theorem dX8_account_153 : decode cX8_account 153 = .ok (.getfield 96, 3) := by decide +kernel
theorem dX8_account_156 : decode cX8_account 156 = .ok (.invokestatic 268, 3) := by decide +kernel
theorem dX8_account_159 : decode cX8_account 159 = .ok (.ireturn, 1) := by decide +kernel
theorem dX8_account_160 : decode cX8_account 160 = .ok (.aload_n 0, 1) := by decide +kernel
theorem dX8_account_161 : decode cX8_account 161 = .ok (.getfield 12, 3) := by decide +kernel
theorem dX8_account_164 : decode cX8_account 164 = .ok (.getfield 164, 3) := by decide +kernel
theorem dX8_account_167 : decode cX8_account 167 = .ok (.getfield 272, 3) := by decide +kernel
theorem dX8_account_170 : decode cX8_account 170 = .ok (.ireturn, 1) := by decide +kernel
theorem dX8_account_171 : decode cX8_account 171 = .ok (.aload_n 0, 1) := by decide +kernel
theorem dX8_account_172 : decode cX8_account 172 = .ok (.getfield 29, 3) := by decide +kernel
theorem dX8_account_175 : decode cX8_account 175 = .ok (.getfield 218, 3) := by decide +kernel
theorem dX8_account_178 : decode cX8_account 178 = .ok (.ireturn, 1) := by decide +kernel
theorem dX8_account_179 : decode cX8_account 179 = .ok (.aload_n 0, 1) := by decide +kernel
theorem dX8_account_180 : decode cX8_account 180 = .ok (.getfield 22, 3) := by decide +kernel
theorem dX8_account_183 : decode cX8_account 183 = .ok (.getfield 273, 3) := by decide +kernel
theorem dX8_account_186 : decode cX8_account 186 = .ok (.ireturn, 1) := by decide +kernel
theorem dX8_account_187 : decode cX8_account 187 = .ok (.sipush (-1012), 3) := by decide +kernel
theorem dX8_account_190 : decode cX8_account 190 = .ok (.ireturn, 1) := by decide +kernel
theorem dX8_isBalanced_0 : decode cX8_isBalanced 0 = .ok (.aload_n 0, 1) := by decide +kernel
theorem dX8_isBalanced_1 : decode cX8_isBalanced 1 = .ok (.invokevirtual 274, 3) := by decide +kernel
theorem dX8_isBalanced_4 : decode cX8_isBalanced 4 = .ok (.ifCond .eq 32, 3) := by decide +kernel
theorem dX8_isBalanced_7 : decode cX8_isBalanced 7 = .ok (.aload_n 0, 1) := by decide +kernel
theorem dX8_isBalanced_8 : decode cX8_isBalanced 8 = .ok (.invokevirtual 278, 3) := by decide +kernel
theorem dX8_isBalanced_11 : decode cX8_isBalanced 11 = .ok (.ifCond .eq 25, 3) := by decide +kernel
theorem dX8_isBalanced_14 : decode cX8_isBalanced 14 = .ok (.aload_n 0, 1) := by decide +kernel
theorem dX8_isBalanced_15 : decode cX8_isBalanced 15 = .ok (.invokevirtual 281, 3) := by decide +kernel
theorem dX8_isBalanced_18 : decode cX8_isBalanced 18 = .ok (.aload_n 0, 1) := by decide +kernel
theorem dX8_isBalanced_19 : decode cX8_isBalanced 19 = .ok (.invokevirtual 284, 3) := by decide +kernel
theorem dX8_isBalanced_22 : decode cX8_isBalanced 22 = .ok (.if_icmp .ne 14, 3) := by decide +kernel
theorem dX8_isBalanced_25 : decode cX8_isBalanced 25 = .ok (.aload_n 0, 1) := by decide +kernel
theorem dX8_isBalanced_26 : decode cX8_isBalanced 26 = .ok (.invokevirtual 287, 3) := by decide +kernel
theorem dX8_isBalanced_29 : decode cX8_isBalanced 29 = .ok (.ifCond .eq 7, 3) := by decide +kernel
theorem dX8_isBalanced_32 : decode cX8_isBalanced 32 = .ok (.iconst 1, 1) := by decide +kernel
theorem dX8_isBalanced_33 : decode cX8_isBalanced 33 = .ok (.goto 4, 3) := by decide +kernel
theorem dX8_isBalanced_36 : decode cX8_isBalanced 36 = .ok (.iconst 0, 1) := by decide +kernel
theorem dX8_isBalanced_37 : decode cX8_isBalanced 37 = .ok (.istore_n 1, 1) := by decide +kernel
theorem dX8_isBalanced_38 : decode cX8_isBalanced 38 = .ok (.iload_n 1, 1) := by decide +kernel
theorem dX8_isBalanced_39 : decode cX8_isBalanced 39 = .ok (.ifCond .eq 7, 3) := by decide +kernel
theorem dX8_isBalanced_42 : decode cX8_isBalanced 42 = .ok (.iconst 1, 1) := by decide +kernel
theorem dX8_isBalanced_43 : decode cX8_isBalanced 43 = .ok (.goto 4, 3) := by decide +kernel
theorem dX8_isBalanced_46 : decode cX8_isBalanced 46 = .ok (.iconst 0, 1) := by decide +kernel
theorem dX8_isBalanced_47 : decode cX8_isBalanced 47 = .ok (.ireturn, 1) := by decide +kernel
theorem dX8_meanRust_0 : decode cX8_meanRust 0 = .ok (.aload_n 0, 1) := by decide +kernel
theorem dX8_meanRust_1 : decode cX8_meanRust 1 = .ok (.getfield 12, 3) := by decide +kernel
theorem dX8_meanRust_4 : decode cX8_meanRust 4 = .ok (.getfield 75, 3) := by decide +kernel
theorem dX8_meanRust_7 : decode cX8_meanRust 7 = .ok (.getfield 160, 3) := by decide +kernel
theorem dX8_meanRust_10 : decode cX8_meanRust 10 = .ok (.istore_n 1, 1) := by decide +kernel
theorem dX8_meanRust_11 : decode cX8_meanRust 11 = .ok (.iload_n 1, 1) := by decide +kernel
theorem dX8_meanRust_12 : decode cX8_meanRust 12 = .ok (.ifCond .le 23, 3) := by decide +kernel
theorem dX8_meanRust_15 : decode cX8_meanRust 15 = .ok (.aload_n 0, 1) := by decide +kernel
theorem dX8_meanRust_16 : decode cX8_meanRust 16 = .ok (.getfield 12, 3) := by decide +kernel
theorem dX8_meanRust_19 : decode cX8_meanRust 19 = .ok (.getfield 75, 3) := by decide +kernel
theorem dX8_meanRust_22 : decode cX8_meanRust 22 = .ok (.getfield 96, 3) := by decide +kernel
theorem dX8_meanRust_25 : decode cX8_meanRust 25 = .ok (.invokestatic 268, 3) := by decide +kernel
theorem dX8_meanRust_28 : decode cX8_meanRust 28 = .ok (.i2d, 1) := by decide +kernel
theorem dX8_meanRust_29 : decode cX8_meanRust 29 = .ok (.iload_n 1, 1) := by decide +kernel
theorem dX8_meanRust_30 : decode cX8_meanRust 30 = .ok (.i2d, 1) := by decide +kernel
theorem dX8_meanRust_31 : decode cX8_meanRust 31 = .ok (.ddiv, 1) := by decide +kernel
theorem dX8_meanRust_32 : decode cX8_meanRust 32 = .ok (.goto 4, 3) := by decide +kernel
theorem dX8_meanRust_35 : decode cX8_meanRust 35 = .ok (.dconst 0, 1) := by decide +kernel
theorem dX8_meanRust_36 : decode cX8_meanRust 36 = .ok (.dreturn, 1) := by decide +kernel
theorem dX8_answerShare_0 : decode cX8_answerShare 0 = .ok (.aload_n 0, 1) := by decide +kernel
theorem dX8_answerShare_1 : decode cX8_answerShare 1 = .ok (.getfield 12, 3) := by decide +kernel
theorem dX8_answerShare_4 : decode cX8_answerShare 4 = .ok (.getfield 259, 3) := by decide +kernel
theorem dX8_answerShare_7 : decode cX8_answerShare 7 = .ok (.aload_n 0, 1) := by decide +kernel
theorem dX8_answerShare_8 : decode cX8_answerShare 8 = .ok (.getfield 12, 3) := by decide +kernel
theorem dX8_answerShare_11 : decode cX8_answerShare 11 = .ok (.getfield 261, 3) := by decide +kernel
theorem dX8_answerShare_14 : decode cX8_answerShare 14 = .ok (.iadd, 1) := by decide +kernel
theorem dX8_answerShare_15 : decode cX8_answerShare 15 = .ok (.aload_n 0, 1) := by decide +kernel
theorem dX8_answerShare_16 : decode cX8_answerShare 16 = .ok (.getfield 12, 3) := by decide +kernel
theorem dX8_answerShare_19 : decode cX8_answerShare 19 = .ok (.getfield 263, 3) := by decide +kernel
theorem dX8_answerShare_22 : decode cX8_answerShare 22 = .ok (.iadd, 1) := by decide +kernel
theorem dX8_answerShare_23 : decode cX8_answerShare 23 = .ok (.istore_n 1, 1) := by decide +kernel
theorem dX8_answerShare_24 : decode cX8_answerShare 24 = .ok (.iload_n 1, 1) := by decide +kernel
theorem dX8_answerShare_25 : decode cX8_answerShare 25 = .ok (.ifCond .le 17, 3) := by decide +kernel
theorem dX8_answerShare_28 : decode cX8_answerShare 28 = .ok (.aload_n 0, 1) := by decide +kernel
theorem dX8_answerShare_29 : decode cX8_answerShare 29 = .ok (.getfield 12, 3) := by decide +kernel
theorem dX8_answerShare_32 : decode cX8_answerShare 32 = .ok (.getfield 259, 3) := by decide +kernel
theorem dX8_answerShare_35 : decode cX8_answerShare 35 = .ok (.i2f, 1) := by decide +kernel
theorem dX8_answerShare_36 : decode cX8_answerShare 36 = .ok (.iload_n 1, 1) := by decide +kernel
theorem dX8_answerShare_37 : decode cX8_answerShare 37 = .ok (.i2f, 1) := by decide +kernel
theorem dX8_answerShare_38 : decode cX8_answerShare 38 = .ok (.fdiv, 1) := by decide +kernel
theorem dX8_answerShare_39 : decode cX8_answerShare 39 = .ok (.goto 4, 3) := by decide +kernel
theorem dX8_answerShare_42 : decode cX8_answerShare 42 = .ok (.fconst 0, 1) := by decide +kernel
theorem dX8_answerShare_43 : decode cX8_answerShare 43 = .ok (.freturn, 1) := by decide +kernel
theorem dX8_undo_0 : decode cX8_undo 0 = .ok (.aload_n 0, 1) := by decide +kernel
theorem dX8_undo_1 : decode cX8_undo 1 = .ok (.getfield 22, 3) := by decide +kernel
theorem dX8_undo_4 : decode cX8_undo 4 = .ok (.aload_n 0, 1) := by decide +kernel
theorem dX8_undo_5 : decode cX8_undo 5 = .ok (.getfield 12, 3) := by decide +kernel
theorem dX8_undo_8 : decode cX8_undo 8 = .ok (.invokevirtual 290, 3) := by decide +kernel
theorem dX8_undo_11 : decode cX8_undo 11 = .ok (.ifCond .eq 13, 3) := by decide +kernel
theorem dX8_undo_14 : decode cX8_undo 14 = .ok (.aload_n 0, 1) := by decide +kernel
theorem dX8_undo_15 : decode cX8_undo 15 = .ok (.getfield 22, 3) := by decide +kernel
theorem dX8_undo_18 : decode cX8_undo 18 = .ok (.getfield 273, 3) := by decide +kernel
theorem dX8_undo_21 : decode cX8_undo 21 = .ok (.goto 6, 3) := by decide +kernel
theorem dX8_undo_24 : decode cX8_undo 24 = .ok (.sipush (-1015), 3) := by decide +kernel
theorem dX8_undo_27 : decode cX8_undo 27 = .ok (.ireturn, 1) := by decide +kernel
theorem dX8_save_0 : decode cX8_save 0 = .ok (.aload_n 0, 1) := by decide +kernel
theorem dX8_save_1 : decode cX8_save 1 = .ok (.getfield 294, 3) := by decide +kernel
theorem dX8_save_4 : decode cX8_save 4 = .ok (.ifnonnull 14, 3) := by decide +kernel
theorem dX8_save_7 : decode cX8_save 7 = .ok (.aload_n 0, 1) := by decide +kernel
theorem dX8_save_8 : decode cX8_save 8 = .ok (.new 9, 3) := by decide +kernel
theorem dX8_save_11 : decode cX8_save 11 = .ok (.dup, 1) := by decide +kernel
theorem dX8_save_12 : decode cX8_save 12 = .ok (.invokespecial 11, 3) := by decide +kernel
theorem dX8_save_15 : decode cX8_save 15 = .ok (.putfield 294, 3) := by decide +kernel
theorem dX8_save_18 : decode cX8_save 18 = .ok (.aload_n 0, 1) := by decide +kernel
theorem dX8_save_19 : decode cX8_save 19 = .ok (.getfield 294, 3) := by decide +kernel
theorem dX8_save_22 : decode cX8_save 22 = .ok (.aload_n 0, 1) := by decide +kernel
theorem dX8_save_23 : decode cX8_save 23 = .ok (.getfield 12, 3) := by decide +kernel
theorem dX8_save_26 : decode cX8_save 26 = .ok (.invokevirtual 151, 3) := by decide +kernel
theorem dX8_save_29 : decode cX8_save 29 = .ok (.aload_n 0, 1) := by decide +kernel
theorem dX8_save_30 : decode cX8_save 30 = .ok (.getfield 12, 3) := by decide +kernel
theorem dX8_save_33 : decode cX8_save 33 = .ok (.getfield 75, 3) := by decide +kernel
theorem dX8_save_36 : decode cX8_save 36 = .ok (.getfield 160, 3) := by decide +kernel
theorem dX8_save_39 : decode cX8_save 39 = .ok (.ireturn, 1) := by decide +kernel
theorem dX8_restore_0 : decode cX8_restore 0 = .ok (.aload_n 0, 1) := by decide +kernel
theorem dX8_restore_1 : decode cX8_restore 1 = .ok (.getfield 294, 3) := by decide +kernel
theorem dX8_restore_4 : decode cX8_restore 4 = .ok (.ifnonnull 7, 3) := by decide +kernel
theorem dX8_restore_7 : decode cX8_restore 7 = .ok (.sipush (-1015), 3) := by decide +kernel
theorem dX8_restore_10 : decode cX8_restore 10 = .ok (.ireturn, 1) := by decide +kernel
theorem dX8_restore_11 : decode cX8_restore 11 = .ok (.aload_n 0, 1) := by decide +kernel
theorem dX8_restore_12 : decode cX8_restore 12 = .ok (.getfield 12, 3) := by decide +kernel
theorem dX8_restore_15 : decode cX8_restore 15 = .ok (.aload_n 0, 1) := by decide +kernel
theorem dX8_restore_16 : decode cX8_restore 16 = .ok (.getfield 294, 3) := by decide +kernel
theorem dX8_restore_19 : decode cX8_restore 19 = .ok (.invokevirtual 151, 3) := by decide +kernel
theorem dX8_restore_22 : decode cX8_restore 22 = .ok (.aload_n 0, 1) := by decide +kernel
theorem dX8_restore_23 : decode cX8_restore 23 = .ok (.getfield 22, 3) := by decide +kernel
theorem dX8_restore_26 : decode cX8_restore 26 = .ok (.iconst 0, 1) := by decide +kernel
theorem dX8_restore_27 : decode cX8_restore 27 = .ok (.putfield 273, 3) := by decide +kernel
theorem dX8_restore_30 : decode cX8_restore 30 = .ok (.aload_n 0, 1) := by decide +kernel
theorem dX8_restore_31 : decode cX8_restore 31 = .ok (.getfield 12, 3) := by decide +kernel
theorem dX8_restore_34 : decode cX8_restore 34 = .ok (.getfield 75, 3) := by decide +kernel
theorem dX8_restore_37 : decode cX8_restore 37 = .ok (.getfield 160, 3) := by decide +kernel
theorem dX8_restore_40 : decode cX8_restore 40 = .ok (.ireturn, 1) := by decide +kernel
theorem dX8_settle_0 : decode cX8_settle 0 = .ok (.iload_n 1, 1) := by decide +kernel
theorem dX8_settle_1 : decode cX8_settle 1 = .ok (.ifCond .lt 10, 3) := by decide +kernel
theorem dX8_settle_4 : decode cX8_settle 4 = .ok (.aload_n 0, 1) := by decide +kernel
theorem dX8_settle_5 : decode cX8_settle 5 = .ok (.getfield 22, 3) := by decide +kernel
theorem dX8_settle_8 : decode cX8_settle 8 = .ok (.invokevirtual 297, 3) := by decide +kernel
theorem dX8_settle_11 : decode cX8_settle 11 = .ok (.iload_n 1, 1) := by decide +kernel
theorem dX8_settle_12 : decode cX8_settle 12 = .ok (.ireturn, 1) := by decide +kernel
theorem dX8_refuse_0 : decode cX8_refuse 0 = .ok (.aload_n 0, 1) := by decide +kernel
theorem dX8_refuse_1 : decode cX8_refuse 1 = .ok (.iload_n 1, 1) := by decide +kernel
theorem dX8_refuse_2 : decode cX8_refuse 2 = .ok (.putfield 47, 3) := by decide +kernel
theorem dX8_refuse_5 : decode cX8_refuse 5 = .ok (.aload_n 0, 1) := by decide +kernel
theorem dX8_refuse_6 : decode cX8_refuse 6 = .ok (.iload_n 2, 1) := by decide +kernel
theorem dX8_refuse_7 : decode cX8_refuse 7 = .ok (.putfield 51, 3) := by decide +kernel
theorem dX8_refuse_10 : decode cX8_refuse 10 = .ok (.sipush (-1014), 3) := by decide +kernel
theorem dX8_refuse_13 : decode cX8_refuse 13 = .ok (.ireturn, 1) := by decide +kernel
theorem dX8_bringRope_0 : decode cX8_bringRope 0 = .ok (.iload_n 1, 1) := by decide +kernel
theorem dX8_bringRope_1 : decode cX8_bringRope 1 = .ok (.invokestatic 192, 3) := by decide +kernel
theorem dX8_bringRope_4 : decode cX8_bringRope 4 = .ok (.ifCond .ne 7, 3) := by decide +kernel
theorem dX8_bringRope_7 : decode cX8_bringRope 7 = .ok (.sipush (-1012), 3) := by decide +kernel
theorem dX8_bringRope_10 : decode cX8_bringRope 10 = .ok (.ireturn, 1) := by decide +kernel
theorem dX8_bringRope_11 : decode cX8_bringRope 11 = .ok (.aload_n 0, 1) := by decide +kernel
theorem dX8_bringRope_12 : decode cX8_bringRope 12 = .ok (.getfield 12, 3) := by decide +kernel
theorem dX8_bringRope_15 : decode cX8_bringRope 15 = .ok (.getfield 75, 3) := by decide +kernel
theorem dX8_bringRope_18 : decode cX8_bringRope 18 = .ok (.getfield 160, 3) := by decide +kernel
theorem dX8_bringRope_21 : decode cX8_bringRope 21 = .ok (.bipush 12, 2) := by decide +kernel
theorem dX8_bringRope_23 : decode cX8_bringRope 23 = .ok (.if_icmp .lt 11, 3) := by decide +kernel
theorem dX8_bringRope_26 : decode cX8_bringRope 26 = .ok (.aload_n 0, 1) := by decide +kernel
theorem dX8_bringRope_27 : decode cX8_bringRope 27 = .ok (.iconst 1, 1) := by decide +kernel
theorem dX8_bringRope_28 : decode cX8_bringRope 28 = .ok (.bipush 12, 2) := by decide +kernel
theorem dX8_bringRope_30 : decode cX8_bringRope 30 = .ok (.invokevirtual 235, 3) := by decide +kernel
theorem dX8_bringRope_33 : decode cX8_bringRope 33 = .ok (.ireturn, 1) := by decide +kernel
theorem dX8_bringRope_34 : decode cX8_bringRope 34 = .ok (.aload_n 0, 1) := by decide +kernel
theorem dX8_bringRope_35 : decode cX8_bringRope 35 = .ok (.getfield 12, 3) := by decide +kernel
theorem dX8_bringRope_38 : decode cX8_bringRope 38 = .ok (.getfield 75, 3) := by decide +kernel
theorem dX8_bringRope_41 : decode cX8_bringRope 41 = .ok (.iload_n 1, 1) := by decide +kernel
theorem dX8_bringRope_42 : decode cX8_bringRope 42 = .ok (.invokevirtual 300, 3) := by decide +kernel
theorem dX8_bringRope_45 : decode cX8_bringRope 45 = .ok (.ireturn, 1) := by decide +kernel
theorem dX8_giveRope_0 : decode cX8_giveRope 0 = .ok (.aload_n 0, 1) := by decide +kernel
theorem dX8_giveRope_1 : decode cX8_giveRope 1 = .ok (.getfield 12, 3) := by decide +kernel
theorem dX8_giveRope_4 : decode cX8_giveRope 4 = .ok (.getfield 75, 3) := by decide +kernel
theorem dX8_giveRope_7 : decode cX8_giveRope 7 = .ok (.iload_n 1, 1) := by decide +kernel
theorem dX8_giveRope_8 : decode cX8_giveRope 8 = .ok (.invokevirtual 79, 3) := by decide +kernel
theorem dX8_giveRope_11 : decode cX8_giveRope 11 = .ok (.ifCond .ne 7, 3) := by decide +kernel
theorem dX8_giveRope_14 : decode cX8_giveRope 14 = .ok (.sipush (-1011), 3) := by decide +kernel
theorem dX8_giveRope_17 : decode cX8_giveRope 17 = .ok (.ireturn, 1) := by decide +kernel
theorem dX8_giveRope_18 : decode cX8_giveRope 18 = .ok (.iload_n 2, 1) := by decide +kernel
theorem dX8_giveRope_19 : decode cX8_giveRope 19 = .ok (.invokestatic 192, 3) := by decide +kernel
theorem dX8_giveRope_22 : decode cX8_giveRope 22 = .ok (.ifCond .ne 7, 3) := by decide +kernel
theorem dX8_giveRope_25 : decode cX8_giveRope 25 = .ok (.sipush (-1012), 3) := by decide +kernel
theorem dX8_giveRope_28 : decode cX8_giveRope 28 = .ok (.ireturn, 1) := by decide +kernel
theorem dX8_giveRope_29 : decode cX8_giveRope 29 = .ok (.aload_n 0, 1) := by decide +kernel
theorem dX8_giveRope_30 : decode cX8_giveRope 30 = .ok (.getfield 12, 3) := by decide +kernel
theorem dX8_giveRope_33 : decode cX8_giveRope 33 = .ok (.getfield 75, 3) := by decide +kernel
theorem dX8_giveRope_36 : decode cX8_giveRope 36 = .ok (.getfield 85, 3) := by decide +kernel
theorem dX8_giveRope_39 : decode cX8_giveRope 39 = .ok (.iload_n 1, 1) := by decide +kernel
theorem dX8_giveRope_40 : decode cX8_giveRope 40 = .ok (.invokestatic 89, 3) := by decide +kernel
theorem dX8_giveRope_43 : decode cX8_giveRope 43 = .ok (.istore_n 3, 1) := by decide +kernel
theorem dX8_giveRope_44 : decode cX8_giveRope 44 = .ok (.iload_n 3, 1) := by decide +kernel
theorem dX8_giveRope_45 : decode cX8_giveRope 45 = .ok (.iload_n 2, 1) := by decide +kernel
theorem dX8_giveRope_46 : decode cX8_giveRope 46 = .ok (.if_icmp .ne 10, 3) := by decide +kernel
theorem dX8_giveRope_49 : decode cX8_giveRope 49 = .ok (.aload_n 0, 1) := by decide +kernel
theorem dX8_giveRope_50 : decode cX8_giveRope 50 = .ok (.iconst 4, 1) := by decide +kernel
theorem dX8_giveRope_51 : decode cX8_giveRope 51 = .ok (.iload_n 2, 1) := by decide +kernel
theorem dX8_giveRope_52 : decode cX8_giveRope 52 = .ok (.invokevirtual 235, 3) := by decide +kernel
theorem dX8_giveRope_55 : decode cX8_giveRope 55 = .ok (.ireturn, 1) := by decide +kernel
theorem dX8_giveRope_56 : decode cX8_giveRope 56 = .ok (.aload_n 0, 1) := by decide +kernel
theorem dX8_giveRope_57 : decode cX8_giveRope 57 = .ok (.getfield 12, 3) := by decide +kernel
theorem dX8_giveRope_60 : decode cX8_giveRope 60 = .ok (.getfield 75, 3) := by decide +kernel
theorem dX8_giveRope_63 : decode cX8_giveRope 63 = .ok (.getfield 85, 3) := by decide +kernel
theorem dX8_giveRope_66 : decode cX8_giveRope 66 = .ok (.iload_n 1, 1) := by decide +kernel
theorem dX8_giveRope_67 : decode cX8_giveRope 67 = .ok (.iload_n 2, 1) := by decide +kernel
theorem dX8_giveRope_68 : decode cX8_giveRope 68 = .ok (.invokestatic 303, 3) := by decide +kernel
theorem dX8_giveRope_71 : decode cX8_giveRope 71 = .ok (.iload_n 3, 1) := by decide +kernel
theorem dX8_giveRope_72 : decode cX8_giveRope 72 = .ok (.ireturn, 1) := by decide +kernel
theorem dX8_switchSensor_0 : decode cX8_switchSensor 0 = .ok (.aload_n 0, 1) := by decide +kernel
theorem dX8_switchSensor_1 : decode cX8_switchSensor 1 = .ok (.getfield 12, 3) := by decide +kernel
theorem dX8_switchSensor_4 : decode cX8_switchSensor 4 = .ok (.getfield 75, 3) := by decide +kernel
theorem dX8_switchSensor_7 : decode cX8_switchSensor 7 = .ok (.iload_n 1, 1) := by decide +kernel
theorem dX8_switchSensor_8 : decode cX8_switchSensor 8 = .ok (.invokevirtual 79, 3) := by decide +kernel
theorem dX8_switchSensor_11 : decode cX8_switchSensor 11 = .ok (.ifCond .ne 7, 3) := by decide +kernel
theorem dX8_switchSensor_14 : decode cX8_switchSensor 14 = .ok (.sipush (-1011), 3) := by decide +kernel
theorem dX8_switchSensor_17 : decode cX8_switchSensor 17 = .ok (.ireturn, 1) := by decide +kernel
theorem dX8_switchSensor_18 : decode cX8_switchSensor 18 = .ok (.iload_n 2, 1) := by decide +kernel
theorem dX8_switchSensor_19 : decode cX8_switchSensor 19 = .ok (.ifCond .eq 12, 3) := by decide +kernel
theorem dX8_switchSensor_22 : decode cX8_switchSensor 22 = .ok (.iload_n 2, 1) := by decide +kernel
theorem dX8_switchSensor_23 : decode cX8_switchSensor 23 = .ok (.iconst 1, 1) := by decide +kernel
theorem dX8_switchSensor_24 : decode cX8_switchSensor 24 = .ok (.if_icmp .eq 7, 3) := by decide +kernel
theorem dX8_switchSensor_27 : decode cX8_switchSensor 27 = .ok (.sipush (-1012), 3) := by decide +kernel
theorem dX8_switchSensor_30 : decode cX8_switchSensor 30 = .ok (.ireturn, 1) := by decide +kernel
theorem dX8_switchSensor_31 : decode cX8_switchSensor 31 = .ok (.aload_n 0, 1) := by decide +kernel
theorem dX8_switchSensor_32 : decode cX8_switchSensor 32 = .ok (.getfield 12, 3) := by decide +kernel
theorem dX8_switchSensor_35 : decode cX8_switchSensor 35 = .ok (.getfield 75, 3) := by decide +kernel
theorem dX8_switchSensor_38 : decode cX8_switchSensor 38 = .ok (.getfield 93, 3) := by decide +kernel
theorem dX8_switchSensor_41 : decode cX8_switchSensor 41 = .ok (.iload_n 1, 1) := by decide +kernel
theorem dX8_switchSensor_42 : decode cX8_switchSensor 42 = .ok (.invokestatic 89, 3) := by decide +kernel
theorem dX8_switchSensor_45 : decode cX8_switchSensor 45 = .ok (.iload_n 2, 1) := by decide +kernel
theorem dX8_switchSensor_46 : decode cX8_switchSensor 46 = .ok (.if_icmp .ne 10, 3) := by decide +kernel
theorem dX8_switchSensor_49 : decode cX8_switchSensor 49 = .ok (.aload_n 0, 1) := by decide +kernel
theorem dX8_switchSensor_50 : decode cX8_switchSensor 50 = .ok (.iconst 4, 1) := by decide +kernel
theorem dX8_switchSensor_51 : decode cX8_switchSensor 51 = .ok (.iload_n 2, 1) := by decide +kernel
theorem dX8_switchSensor_52 : decode cX8_switchSensor 52 = .ok (.invokevirtual 235, 3) := by decide +kernel
theorem dX8_switchSensor_55 : decode cX8_switchSensor 55 = .ok (.ireturn, 1) := by decide +kernel
theorem dX8_switchSensor_56 : decode cX8_switchSensor 56 = .ok (.aload_n 0, 1) := by decide +kernel
theorem dX8_switchSensor_57 : decode cX8_switchSensor 57 = .ok (.getfield 12, 3) := by decide +kernel
theorem dX8_switchSensor_60 : decode cX8_switchSensor 60 = .ok (.getfield 75, 3) := by decide +kernel
theorem dX8_switchSensor_63 : decode cX8_switchSensor 63 = .ok (.getfield 93, 3) := by decide +kernel
theorem dX8_switchSensor_66 : decode cX8_switchSensor 66 = .ok (.iload_n 1, 1) := by decide +kernel
theorem dX8_switchSensor_67 : decode cX8_switchSensor 67 = .ok (.iload_n 2, 1) := by decide +kernel
theorem dX8_switchSensor_68 : decode cX8_switchSensor 68 = .ok (.invokestatic 303, 3) := by decide +kernel
theorem dX8_switchSensor_71 : decode cX8_switchSensor 71 = .ok (.aload_n 0, 1) := by decide +kernel
theorem dX8_switchSensor_72 : decode cX8_switchSensor 72 = .ok (.getfield 12, 3) := by decide +kernel
theorem dX8_switchSensor_75 : decode cX8_switchSensor 75 = .ok (.getfield 75, 3) := by decide +kernel
theorem dX8_switchSensor_78 : decode cX8_switchSensor 78 = .ok (.getfield 93, 3) := by decide +kernel
theorem dX8_switchSensor_81 : decode cX8_switchSensor 81 = .ok (.invokestatic 268, 3) := by decide +kernel
theorem dX8_switchSensor_84 : decode cX8_switchSensor 84 = .ok (.ireturn, 1) := by decide +kernel
theorem dX8_oilRope_0 : decode cX8_oilRope 0 = .ok (.aload_n 0, 1) := by decide +kernel
theorem dX8_oilRope_1 : decode cX8_oilRope 1 = .ok (.getfield 12, 3) := by decide +kernel
theorem dX8_oilRope_4 : decode cX8_oilRope 4 = .ok (.getfield 75, 3) := by decide +kernel
theorem dX8_oilRope_7 : decode cX8_oilRope 7 = .ok (.iload_n 1, 1) := by decide +kernel
theorem dX8_oilRope_8 : decode cX8_oilRope 8 = .ok (.invokevirtual 79, 3) := by decide +kernel
theorem dX8_oilRope_11 : decode cX8_oilRope 11 = .ok (.ifCond .ne 7, 3) := by decide +kernel
theorem dX8_oilRope_14 : decode cX8_oilRope 14 = .ok (.sipush (-1011), 3) := by decide +kernel
theorem dX8_oilRope_17 : decode cX8_oilRope 17 = .ok (.ireturn, 1) := by decide +kernel
theorem dX8_oilRope_18 : decode cX8_oilRope 18 = .ok (.iload_n 2, 1) := by decide +kernel
theorem dX8_oilRope_19 : decode cX8_oilRope 19 = .ok (.iconst 1, 1) := by decide +kernel
theorem dX8_oilRope_20 : decode cX8_oilRope 20 = .ok (.if_icmp .lt 9, 3) := by decide +kernel
theorem dX8_oilRope_23 : decode cX8_oilRope 23 = .ok (.iload_n 2, 1) := by decide +kernel
theorem dX8_oilRope_24 : decode cX8_oilRope 24 = .ok (.bipush 9, 2) := by decide +kernel
theorem dX8_oilRope_26 : decode cX8_oilRope 26 = .ok (.if_icmp .le 7, 3) := by decide +kernel
theorem dX8_oilRope_29 : decode cX8_oilRope 29 = .ok (.sipush (-1012), 3) := by decide +kernel
theorem dX8_oilRope_32 : decode cX8_oilRope 32 = .ok (.ireturn, 1) := by decide +kernel
theorem dX8_oilRope_33 : decode cX8_oilRope 33 = .ok (.aload_n 0, 1) := by decide +kernel
theorem dX8_oilRope_34 : decode cX8_oilRope 34 = .ok (.getfield 12, 3) := by decide +kernel
theorem dX8_oilRope_37 : decode cX8_oilRope 37 = .ok (.getfield 75, 3) := by decide +kernel
theorem dX8_oilRope_40 : decode cX8_oilRope 40 = .ok (.getfield 96, 3) := by decide +kernel
theorem dX8_oilRope_43 : decode cX8_oilRope 43 = .ok (.iload_n 1, 1) := by decide +kernel
theorem dX8_oilRope_44 : decode cX8_oilRope 44 = .ok (.invokestatic 89, 3) := by decide +kernel
theorem dX8_oilRope_47 : decode cX8_oilRope 47 = .ok (.istore_n 3, 1) := by decide +kernel
theorem dX8_oilRope_48 : decode cX8_oilRope 48 = .ok (.iload_n 3, 1) := by decide +kernel
theorem dX8_oilRope_49 : decode cX8_oilRope 49 = .ok (.iload_n 2, 1) := by decide +kernel
theorem dX8_oilRope_50 : decode cX8_oilRope 50 = .ok (.if_icmp .ge 10, 3) := by decide +kernel
theorem dX8_oilRope_53 : decode cX8_oilRope 53 = .ok (.aload_n 0, 1) := by decide +kernel
theorem dX8_oilRope_54 : decode cX8_oilRope 54 = .ok (.iconst 5, 1) := by decide +kernel
theorem dX8_oilRope_55 : decode cX8_oilRope 55 = .ok (.iload_n 3, 1) := by decide +kernel
theorem dX8_oilRope_56 : decode cX8_oilRope 56 = .ok (.invokevirtual 235, 3) := by decide +kernel
theorem dX8_oilRope_59 : decode cX8_oilRope 59 = .ok (.ireturn, 1) := by decide +kernel
theorem dX8_oilRope_60 : decode cX8_oilRope 60 = .ok (.aload_n 0, 1) := by decide +kernel
theorem dX8_oilRope_61 : decode cX8_oilRope 61 = .ok (.getfield 12, 3) := by decide +kernel
theorem dX8_oilRope_64 : decode cX8_oilRope 64 = .ok (.getfield 75, 3) := by decide +kernel
theorem dX8_oilRope_67 : decode cX8_oilRope 67 = .ok (.getfield 96, 3) := by decide +kernel
theorem dX8_oilRope_70 : decode cX8_oilRope 70 = .ok (.iload_n 1, 1) := by decide +kernel
theorem dX8_oilRope_71 : decode cX8_oilRope 71 = .ok (.iload_n 3, 1) := by decide +kernel
theorem dX8_oilRope_72 : decode cX8_oilRope 72 = .ok (.iload_n 2, 1) := by decide +kernel
theorem dX8_oilRope_73 : decode cX8_oilRope 73 = .ok (.isub, 1) := by decide +kernel
theorem dX8_oilRope_74 : decode cX8_oilRope 74 = .ok (.invokestatic 303, 3) := by decide +kernel
theorem dX8_oilRope_77 : decode cX8_oilRope 77 = .ok (.iload_n 3, 1) := by decide +kernel
theorem dX8_oilRope_78 : decode cX8_oilRope 78 = .ok (.iload_n 2, 1) := by decide +kernel
theorem dX8_oilRope_79 : decode cX8_oilRope 79 = .ok (.isub, 1) := by decide +kernel
theorem dX8_oilRope_80 : decode cX8_oilRope 80 = .ok (.ireturn, 1) := by decide +kernel
theorem dX8_letWait_0 : decode cX8_letWait 0 = .ok (.aload_n 0, 1) := by decide +kernel
theorem dX8_letWait_1 : decode cX8_letWait 1 = .ok (.getfield 12, 3) := by decide +kernel
theorem dX8_letWait_4 : decode cX8_letWait 4 = .ok (.getfield 75, 3) := by decide +kernel
theorem dX8_letWait_7 : decode cX8_letWait 7 = .ok (.iload_n 1, 1) := by decide +kernel
theorem dX8_letWait_8 : decode cX8_letWait 8 = .ok (.invokevirtual 79, 3) := by decide +kernel
theorem dX8_letWait_11 : decode cX8_letWait 11 = .ok (.ifCond .ne 7, 3) := by decide +kernel
theorem dX8_letWait_14 : decode cX8_letWait 14 = .ok (.sipush (-1011), 3) := by decide +kernel
theorem dX8_letWait_17 : decode cX8_letWait 17 = .ok (.ireturn, 1) := by decide +kernel
theorem dX8_letWait_18 : decode cX8_letWait 18 = .ok (.iload_n 2, 1) := by decide +kernel
theorem dX8_letWait_19 : decode cX8_letWait 19 = .ok (.invokestatic 180, 3) := by decide +kernel
theorem dX8_letWait_22 : decode cX8_letWait 22 = .ok (.ifCond .eq 10, 3) := by decide +kernel
theorem dX8_letWait_25 : decode cX8_letWait 25 = .ok (.iload_n 3, 1) := by decide +kernel
theorem dX8_letWait_26 : decode cX8_letWait 26 = .ok (.invokestatic 144, 3) := by decide +kernel
theorem dX8_letWait_29 : decode cX8_letWait 29 = .ok (.ifCond .ne 7, 3) := by decide +kernel
theorem dX8_letWait_32 : decode cX8_letWait 32 = .ok (.sipush (-1012), 3) := by decide +kernel
theorem dX8_letWait_35 : decode cX8_letWait 35 = .ok (.ireturn, 1) := by decide +kernel
theorem dX8_letWait_36 : decode cX8_letWait 36 = .ok (.iload_n 2, 1) := by decide +kernel
theorem dX8_letWait_37 : decode cX8_letWait 37 = .ok (.aload_n 0, 1) := by decide +kernel
theorem dX8_letWait_38 : decode cX8_letWait 38 = .ok (.getfield 12, 3) := by decide +kernel
