theorem dX0_init_0 : decode cX0_init 0 = .ok (.aload_n 0, 1) := by decide +kernel
theorem dX0_init_1 : decode cX0_init 1 = .ok (.invokespecial 3, 3) := by decide +kernel
theorem dX0_init_4 : decode cX0_init 4 = .ok (.aload_n 0, 1) := by decide +kernel
theorem dX0_init_5 : decode cX0_init 5 = .ok (.bipush 20, 2) := by decide +kernel
theorem dX0_init_7 : decode cX0_init 7 = .ok (.newarray .int, 2) := by decide +kernel
theorem dX0_init_9 : decode cX0_init 9 = .ok (.putfield 9, 3) := by decide +kernel
theorem dX0_init_12 : decode cX0_init 12 = .ok (.aload_n 0, 1) := by decide +kernel
theorem dX0_init_13 : decode cX0_init 13 = .ok (.bipush 20, 2) := by decide +kernel
theorem dX0_init_15 : decode cX0_init 15 = .ok (.newarray .int, 2) := by decide +kernel
theorem dX0_init_17 : decode cX0_init 17 = .ok (.putfield 15, 3) := by decide +kernel
theorem dX0_init_20 : decode cX0_init 20 = .ok (.aload_n 0, 1) := by decide +kernel
theorem dX0_init_21 : decode cX0_init 21 = .ok (.bipush 20, 2) := by decide +kernel
theorem dX0_init_23 : decode cX0_init 23 = .ok (.newarray .int, 2) := by decide +kernel
theorem dX0_init_25 : decode cX0_init 25 = .ok (.putfield 18, 3) := by decide +kernel
theorem dX0_init_28 : decode cX0_init 28 = .ok (.aload_n 0, 1) := by decide +kernel
theorem dX0_init_29 : decode cX0_init 29 = .ok (.bipush 20, 2) := by decide +kernel
theorem dX0_init_31 : decode cX0_init 31 = .ok (.newarray .int, 2) := by decide +kernel
theorem dX0_init_33 : decode cX0_init 33 = .ok (.putfield 21, 3) := by decide +kernel
theorem dX0_init_36 : decode cX0_init 36 = .ok (.return_, 1) := by decide +kernel
theorem dX0_copyFrom_0 : decode cX0_copyFrom 0 = .ok (.aload_n 0, 1) := by decide +kernel
theorem dX0_copyFrom_1 : decode cX0_copyFrom 1 = .ok (.aload_n 1, 1) := by decide +kernel
theorem dX0_copyFrom_2 : decode cX0_copyFrom 2 = .ok (.getfield 24, 3) := by decide +kernel
theorem dX0_copyFrom_5 : decode cX0_copyFrom 5 = .ok (.putfield 24, 3) := by decide +kernel
theorem dX0_copyFrom_8 : decode cX0_copyFrom 8 = .ok (.aload_n 0, 1) := by decide +kernel
theorem dX0_copyFrom_9 : decode cX0_copyFrom 9 = .ok (.aload_n 1, 1) := by decide +kernel
theorem dX0_copyFrom_10 : decode cX0_copyFrom 10 = .ok (.getfield 28, 3) := by decide +kernel
theorem dX0_copyFrom_13 : decode cX0_copyFrom 13 = .ok (.putfield 28, 3) := by decide +kernel
theorem dX0_copyFrom_16 : decode cX0_copyFrom 16 = .ok (.aload_n 1, 1) := by decide +kernel
theorem dX0_copyFrom_17 : decode cX0_copyFrom 17 = .ok (.getfield 9, 3) := by decide +kernel
theorem dX0_copyFrom_20 : decode cX0_copyFrom 20 = .ok (.aload_n 0, 1) := by decide +kernel
theorem dX0_copyFrom_21 : decode cX0_copyFrom 21 = .ok (.getfield 9, 3) := by decide +kernel
theorem dX0_copyFrom_24 : decode cX0_copyFrom 24 = .ok (.invokestatic 31, 3) := by decide +kernel
theorem dX0_copyFrom_27 : decode cX0_copyFrom 27 = .ok (.aload_n 1, 1) := by decide +kernel
theorem dX0_copyFrom_28 : decode cX0_copyFrom 28 = .ok (.getfield 15, 3) := by decide +kernel
theorem dX0_copyFrom_31 : decode cX0_copyFrom 31 = .ok (.aload_n 0, 1) := by decide +kernel
theorem dX0_copyFrom_32 : decode cX0_copyFrom 32 = .ok (.getfield 15, 3) := by decide +kernel
theorem dX0_copyFrom_35 : decode cX0_copyFrom 35 = .ok (.invokestatic 31, 3) := by decide +kernel
theorem dX0_copyFrom_38 : decode cX0_copyFrom 38 = .ok (.aload_n 1, 1) := by decide +kernel
theorem dX0_copyFrom_39 : decode cX0_copyFrom 39 = .ok (.getfield 18, 3) := by decide +kernel
theorem dX0_copyFrom_42 : decode cX0_copyFrom 42 = .ok (.aload_n 0, 1) := by decide +kernel
theorem dX0_copyFrom_43 : decode cX0_copyFrom 43 = .ok (.getfield 18, 3) := by decide +kernel
theorem dX0_copyFrom_46 : decode cX0_copyFrom 46 = .ok (.invokestatic 31, 3) := by decide +kernel
theorem dX0_copyFrom_49 : decode cX0_copyFrom 49 = .ok (.aload_n 1, 1) := by decide +kernel
theorem dX0_copyFrom_50 : decode cX0_copyFrom 50 = .ok (.getfield 21, 3) := by decide +kernel
theorem dX0_copyFrom_53 : decode cX0_copyFrom 53 = .ok (.aload_n 0, 1) := by decide +kernel
theorem dX0_copyFrom_54 : decode cX0_copyFrom 54 = .ok (.getfield 21, 3) := by decide +kernel
theorem dX0_copyFrom_57 : decode cX0_copyFrom 57 = .ok (.invokestatic 31, 3) := by decide +kernel
theorem dX0_copyFrom_60 : decode cX0_copyFrom 60 = .ok (.return_, 1) := by decide +kernel
theorem dX0_has_0 : decode cX0_has 0 = .ok (.iload_n 1, 1) := by decide +kernel
theorem dX0_has_1 : decode cX0_has 1 = .ok (.ifCond .lt 15, 3) := by decide +kernel
theorem dX0_has_4 : decode cX0_has 4 = .ok (.iload_n 1, 1) := by decide +kernel
theorem dX0_has_5 : decode cX0_has 5 = .ok (.aload_n 0, 1) := by decide +kernel
theorem dX0_has_6 : decode cX0_has 6 = .ok (.getfield 24, 3) := by decide +kernel
theorem dX0_has_9 : decode cX0_has 9 = .ok (.if_icmp .ge 7, 3) := by decide +kernel
theorem dX0_has_12 : decode cX0_has 12 = .ok (.iconst 1, 1) := by decide +kernel
theorem dX0_has_13 : decode cX0_has 13 = .ok (.goto 4, 3) := by decide +kernel
theorem dX0_has_16 : decode cX0_has 16 = .ok (.iconst 0, 1) := by decide +kernel
theorem dX0_has_17 : decode cX0_has 17 = .ok (.ireturn, 1) := by decide +kernel
theorem dX0_indexOf_0 : decode cX0_indexOf 0 = .ok (.aload_n 0, 1) := by decide +kernel
theorem dX0_indexOf_1 : decode cX0_indexOf 1 = .ok (.getfield 28, 3) := by decide +kernel
theorem dX0_indexOf_4 : decode cX0_indexOf 4 = .ok (.iload_n 1, 1) := by decide +kernel
theorem dX0_indexOf_5 : decode cX0_indexOf 5 = .ok (.isub, 1) := by decide +kernel
theorem dX0_indexOf_6 : decode cX0_indexOf 6 = .ok (.bipush 20, 2) := by decide +kernel
theorem dX0_indexOf_8 : decode cX0_indexOf 8 = .ok (.invokestatic 35, 3) := by decide +kernel
theorem dX0_indexOf_11 : decode cX0_indexOf 11 = .ok (.ireturn, 1) := by decide +kernel
theorem dX0_remember_0 : decode cX0_remember 0 = .ok (.aload_n 0, 1) := by decide +kernel
theorem dX0_remember_1 : decode cX0_remember 1 = .ok (.aload_n 0, 1) := by decide +kernel
theorem dX0_remember_2 : decode cX0_remember 2 = .ok (.getfield 28, 3) := by decide +kernel
theorem dX0_remember_5 : decode cX0_remember 5 = .ok (.iconst 1, 1) := by decide +kernel
theorem dX0_remember_6 : decode cX0_remember 6 = .ok (.iadd, 1) := by decide +kernel
theorem dX0_remember_7 : decode cX0_remember 7 = .ok (.bipush 20, 2) := by decide +kernel
theorem dX0_remember_9 : decode cX0_remember 9 = .ok (.invokestatic 35, 3) := by decide +kernel
theorem dX0_remember_12 : decode cX0_remember 12 = .ok (.putfield 28, 3) := by decide +kernel
theorem dX0_remember_15 : decode cX0_remember 15 = .ok (.aload_n 0, 1) := by decide +kernel
theorem dX0_remember_16 : decode cX0_remember 16 = .ok (.getfield 9, 3) := by decide +kernel
theorem dX0_remember_19 : decode cX0_remember 19 = .ok (.aload_n 0, 1) := by decide +kernel
theorem dX0_remember_20 : decode cX0_remember 20 = .ok (.getfield 28, 3) := by decide +kernel
theorem dX0_remember_23 : decode cX0_remember 23 = .ok (.iload_n 1, 1) := by decide +kernel
theorem dX0_remember_24 : decode cX0_remember 24 = .ok (.invokestatic 41, 3) := by decide +kernel
theorem dX0_remember_27 : decode cX0_remember 27 = .ok (.aload_n 0, 1) := by decide +kernel
theorem dX0_remember_28 : decode cX0_remember 28 = .ok (.getfield 15, 3) := by decide +kernel
theorem dX0_remember_31 : decode cX0_remember 31 = .ok (.aload_n 0, 1) := by decide +kernel
theorem dX0_remember_32 : decode cX0_remember 32 = .ok (.getfield 28, 3) := by decide +kernel
theorem dX0_remember_35 : decode cX0_remember 35 = .ok (.iload_n 2, 1) := by decide +kernel
theorem dX0_remember_36 : decode cX0_remember 36 = .ok (.invokestatic 41, 3) := by decide +kernel
theorem dX0_remember_39 : decode cX0_remember 39 = .ok (.aload_n 0, 1) := by decide +kernel
theorem dX0_remember_40 : decode cX0_remember 40 = .ok (.getfield 18, 3) := by decide +kernel
theorem dX0_remember_43 : decode cX0_remember 43 = .ok (.aload_n 0, 1) := by decide +kernel
theorem dX0_remember_44 : decode cX0_remember 44 = .ok (.getfield 28, 3) := by decide +kernel
theorem dX0_remember_47 : decode cX0_remember 47 = .ok (.iload_n 3, 1) := by decide +kernel
theorem dX0_remember_48 : decode cX0_remember 48 = .ok (.invokestatic 41, 3) := by decide +kernel
theorem dX0_remember_51 : decode cX0_remember 51 = .ok (.aload_n 0, 1) := by decide +kernel
theorem dX0_remember_52 : decode cX0_remember 52 = .ok (.getfield 21, 3) := by decide +kernel
theorem dX0_remember_55 : decode cX0_remember 55 = .ok (.aload_n 0, 1) := by decide +kernel
theorem dX0_remember_56 : decode cX0_remember 56 = .ok (.getfield 28, 3) := by decide +kernel
theorem dX0_remember_59 : decode cX0_remember 59 = .ok (.iload 4, 2) := by decide +kernel
theorem dX0_remember_61 : decode cX0_remember 61 = .ok (.invokestatic 41, 3) := by decide +kernel
theorem dX0_remember_64 : decode cX0_remember 64 = .ok (.aload_n 0, 1) := by decide +kernel
theorem dX0_remember_65 : decode cX0_remember 65 = .ok (.aload_n 0, 1) := by decide +kernel
theorem dX0_remember_66 : decode cX0_remember 66 = .ok (.getfield 24, 3) := by decide +kernel
theorem dX0_remember_69 : decode cX0_remember 69 = .ok (.iconst 1, 1) := by decide +kernel
theorem dX0_remember_70 : decode cX0_remember 70 = .ok (.iadd, 1) := by decide +kernel
theorem dX0_remember_71 : decode cX0_remember 71 = .ok (.bipush 20, 2) := by decide +kernel
theorem dX0_remember_73 : decode cX0_remember 73 = .ok (.invokestatic 45, 3) := by decide +kernel
theorem dX0_remember_76 : decode cX0_remember 76 = .ok (.putfield 24, 3) := by decide +kernel
theorem dX0_remember_79 : decode cX0_remember 79 = .ok (.return_, 1) := by decide +kernel
theorem dX1_init_0 : decode cX1_init 0 = .ok (.aload_n 0, 1) := by decide +kernel
theorem dX1_init_1 : decode cX1_init 1 = .ok (.invokespecial 3, 3) := by decide +kernel
theorem dX1_init_4 : decode cX1_init 4 = .ok (.aload_n 0, 1) := by decide +kernel
theorem dX1_init_5 : decode cX1_init 5 = .ok (.bipush 9, 2) := by decide +kernel
theorem dX1_init_7 : decode cX1_init 7 = .ok (.anewarray 9, 3) := by decide +kernel
theorem dX1_init_10 : decode cX1_init 10 = .ok (.putfield 11, 3) := by decide +kernel
theorem dX1_init_13 : decode cX1_init 13 = .ok (.return_, 1) := by decide +kernel
theorem dX1_rowAt_0 : decode cX1_rowAt 0 = .ok (.iload_n 1, 1) := by decide +kernel
theorem dX1_rowAt_1 : decode cX1_rowAt 1 = .ok (.bipush 9, 2) := by decide +kernel
theorem dX1_rowAt_3 : decode cX1_rowAt 3 = .ok (.invokestatic 17, 3) := by decide +kernel
theorem dX1_rowAt_6 : decode cX1_rowAt 6 = .ok (.istore_n 2, 1) := by decide +kernel
theorem dX1_rowAt_7 : decode cX1_rowAt 7 = .ok (.aload_n 0, 1) := by decide +kernel
theorem dX1_rowAt_8 : decode cX1_rowAt 8 = .ok (.getfield 11, 3) := by decide +kernel
theorem dX1_rowAt_11 : decode cX1_rowAt 11 = .ok (.iload_n 2, 1) := by decide +kernel
theorem dX1_rowAt_12 : decode cX1_rowAt 12 = .ok (.aaload, 1) := by decide +kernel
theorem dX1_rowAt_13 : decode cX1_rowAt 13 = .ok (.ifnonnull 16, 3) := by decide +kernel
theorem dX1_rowAt_16 : decode cX1_rowAt 16 = .ok (.aload_n 0, 1) := by decide +kernel
theorem dX1_rowAt_17 : decode cX1_rowAt 17 = .ok (.getfield 11, 3) := by decide +kernel
theorem dX1_rowAt_20 : decode cX1_rowAt 20 = .ok (.iload_n 2, 1) := by decide +kernel
theorem dX1_rowAt_21 : decode cX1_rowAt 21 = .ok (.new 9, 3) := by decide +kernel
theorem dX1_rowAt_24 : decode cX1_rowAt 24 = .ok (.dup, 1) := by decide +kernel
theorem dX1_rowAt_25 : decode cX1_rowAt 25 = .ok (.invokespecial 23, 3) := by decide +kernel
theorem dX1_rowAt_28 : decode cX1_rowAt 28 = .ok (.aastore, 1) := by decide +kernel
theorem dX1_rowAt_29 : decode cX1_rowAt 29 = .ok (.aload_n 0, 1) := by decide +kernel
theorem dX1_rowAt_30 : decode cX1_rowAt 30 = .ok (.getfield 11, 3) := by decide +kernel
theorem dX1_rowAt_33 : decode cX1_rowAt 33 = .ok (.iload_n 2, 1) := by decide +kernel
theorem dX1_rowAt_34 : decode cX1_rowAt 34 = .ok (.aaload, 1) := by decide +kernel
theorem dX1_rowAt_35 : decode cX1_rowAt 35 = .ok (.areturn, 1) := by decide +kernel
theorem dX1_note_0 : decode cX1_note 0 = .ok (.aload_n 0, 1) := by decide +kernel
theorem dX1_note_1 : decode cX1_note 1 = .ok (.aload_n 0, 1) := by decide +kernel
theorem dX1_note_2 : decode cX1_note 2 = .ok (.getfield 24, 3) := by decide +kernel
theorem dX1_note_5 : decode cX1_note 5 = .ok (.invokevirtual 28, 3) := by decide +kernel
theorem dX1_note_8 : decode cX1_note 8 = .ok (.aload_n 1, 1) := by decide +kernel
theorem dX1_note_9 : decode cX1_note 9 = .ok (.invokevirtual 32, 3) := by decide +kernel
theorem dX1_note_12 : decode cX1_note 12 = .ok (.return_, 1) := by decide +kernel
theorem dX1_takeBack_0 : decode cX1_takeBack 0 = .ok (.aload_n 1, 1) := by decide +kernel
theorem dX1_takeBack_1 : decode cX1_takeBack 1 = .ok (.aload_n 0, 1) := by decide +kernel
theorem dX1_takeBack_2 : decode cX1_takeBack 2 = .ok (.aload_n 0, 1) := by decide +kernel
theorem dX1_takeBack_3 : decode cX1_takeBack 3 = .ok (.getfield 24, 3) := by decide +kernel
theorem dX1_takeBack_6 : decode cX1_takeBack 6 = .ok (.invokevirtual 28, 3) := by decide +kernel
theorem dX1_takeBack_9 : decode cX1_takeBack 9 = .ok (.invokevirtual 32, 3) := by decide +kernel
theorem dX1_takeBack_12 : decode cX1_takeBack 12 = .ok (.return_, 1) := by decide +kernel
theorem dX1_keep_0 : decode cX1_keep 0 = .ok (.aload_n 0, 1) := by decide +kernel
theorem dX1_keep_1 : decode cX1_keep 1 = .ok (.aload_n 0, 1) := by decide +kernel
theorem dX1_keep_2 : decode cX1_keep 2 = .ok (.getfield 24, 3) := by decide +kernel
theorem dX1_keep_5 : decode cX1_keep 5 = .ok (.iconst 1, 1) := by decide +kernel
theorem dX1_keep_6 : decode cX1_keep 6 = .ok (.iadd, 1) := by decide +kernel
theorem dX1_keep_7 : decode cX1_keep 7 = .ok (.bipush 9, 2) := by decide +kernel
theorem dX1_keep_9 : decode cX1_keep 9 = .ok (.invokestatic 17, 3) := by decide +kernel
theorem dX1_keep_12 : decode cX1_keep 12 = .ok (.putfield 24, 3) := by decide +kernel
theorem dX1_keep_15 : decode cX1_keep 15 = .ok (.aload_n 0, 1) := by decide +kernel
theorem dX1_keep_16 : decode cX1_keep 16 = .ok (.aload_n 0, 1) := by decide +kernel
theorem dX1_keep_17 : decode cX1_keep 17 = .ok (.getfield 36, 3) := by decide +kernel
theorem dX1_keep_20 : decode cX1_keep 20 = .ok (.iconst 1, 1) := by decide +kernel
theorem dX1_keep_21 : decode cX1_keep 21 = .ok (.iadd, 1) := by decide +kernel
theorem dX1_keep_22 : decode cX1_keep 22 = .ok (.bipush 8, 2) := by decide +kernel
theorem dX1_keep_24 : decode cX1_keep 24 = .ok (.invokestatic 39, 3) := by decide +kernel
theorem dX1_keep_27 : decode cX1_keep 27 = .ok (.putfield 36, 3) := by decide +kernel
theorem dX1_keep_30 : decode cX1_keep 30 = .ok (.return_, 1) := by decide +kernel
theorem dX1_stepBack_0 : decode cX1_stepBack 0 = .ok (.aload_n 0, 1) := by decide +kernel
theorem dX1_stepBack_1 : decode cX1_stepBack 1 = .ok (.getfield 36, 3) := by decide +kernel
theorem dX1_stepBack_4 : decode cX1_stepBack 4 = .ok (.ifCond .ne 5, 3) := by decide +kernel
theorem dX1_stepBack_7 : decode cX1_stepBack 7 = .ok (.iconst 0, 1) := by decide +kernel
theorem dX1_stepBack_8 : decode cX1_stepBack 8 = .ok (.ireturn, 1) := by decide +kernel
theorem dX1_stepBack_9 : decode cX1_stepBack 9 = .ok (.aload_n 0, 1) := by decide +kernel
theorem dX1_stepBack_10 : decode cX1_stepBack 10 = .ok (.dup, 1) := by decide +kernel
theorem dX1_stepBack_11 : decode cX1_stepBack 11 = .ok (.getfield 36, 3) := by decide +kernel
theorem dX1_stepBack_14 : decode cX1_stepBack 14 = .ok (.iconst 1, 1) := by decide +kernel
theorem dX1_stepBack_15 : decode cX1_stepBack 15 = .ok (.isub, 1) := by decide +kernel
theorem dX1_stepBack_16 : decode cX1_stepBack 16 = .ok (.putfield 36, 3) := by decide +kernel
theorem dX1_stepBack_19 : decode cX1_stepBack 19 = .ok (.aload_n 0, 1) := by decide +kernel
theorem dX1_stepBack_20 : decode cX1_stepBack 20 = .ok (.aload_n 0, 1) := by decide +kernel
theorem dX1_stepBack_21 : decode cX1_stepBack 21 = .ok (.getfield 24, 3) := by decide +kernel
theorem dX1_stepBack_24 : decode cX1_stepBack 24 = .ok (.iconst 1, 1) := by decide +kernel
theorem dX1_stepBack_25 : decode cX1_stepBack 25 = .ok (.isub, 1) := by decide +kernel
theorem dX1_stepBack_26 : decode cX1_stepBack 26 = .ok (.bipush 9, 2) := by decide +kernel
theorem dX1_stepBack_28 : decode cX1_stepBack 28 = .ok (.invokestatic 17, 3) := by decide +kernel
theorem dX1_stepBack_31 : decode cX1_stepBack 31 = .ok (.putfield 24, 3) := by decide +kernel
theorem dX1_stepBack_34 : decode cX1_stepBack 34 = .ok (.aload_n 0, 1) := by decide +kernel
theorem dX1_stepBack_35 : decode cX1_stepBack 35 = .ok (.aload_n 1, 1) := by decide +kernel
theorem dX1_stepBack_36 : decode cX1_stepBack 36 = .ok (.invokevirtual 42, 3) := by decide +kernel
theorem dX1_stepBack_39 : decode cX1_stepBack 39 = .ok (.iconst 1, 1) := by decide +kernel
theorem dX1_stepBack_40 : decode cX1_stepBack 40 = .ok (.ireturn, 1) := by decide +kernel
theorem dX2_init_0 : decode cX2_init 0 = .ok (.aload_n 0, 1) := by decide +kernel
theorem dX2_init_1 : decode cX2_init 1 = .ok (.invokespecial 3, 3) := by decide +kernel
theorem dX2_init_4 : decode cX2_init 4 = .ok (.aload_n 0, 1) := by decide +kernel
theorem dX2_init_5 : decode cX2_init 5 = .ok (.sipush 128, 3) := by decide +kernel
theorem dX2_init_8 : decode cX2_init 8 = .ok (.newarray .int, 2) := by decide +kernel
theorem dX2_init_10 : decode cX2_init 10 = .ok (.putfield 9, 3) := by decide +kernel
theorem dX2_init_13 : decode cX2_init 13 = .ok (.return_, 1) := by decide +kernel
theorem dX2_write_0 : decode cX2_write 0 = .ok (.aload_n 0, 1) := by decide +kernel
theorem dX2_write_1 : decode cX2_write 1 = .ok (.getfield 9, 3) := by decide +kernel
theorem dX2_write_4 : decode cX2_write 4 = .ok (.aload_n 0, 1) := by decide +kernel
theorem dX2_write_5 : decode cX2_write 5 = .ok (.getfield 15, 3) := by decide +kernel
theorem dX2_write_8 : decode cX2_write 8 = .ok (.iload_n 1, 1) := by decide +kernel
theorem dX2_write_9 : decode cX2_write 9 = .ok (.invokestatic 19, 3) := by decide +kernel
theorem dX2_write_12 : decode cX2_write 12 = .ok (.aload_n 0, 1) := by decide +kernel
theorem dX2_write_13 : decode cX2_write 13 = .ok (.aload_n 0, 1) := by decide +kernel
theorem dX2_write_14 : decode cX2_write 14 = .ok (.getfield 15, 3) := by decide +kernel
theorem dX2_write_17 : decode cX2_write 17 = .ok (.iconst 1, 1) := by decide +kernel
theorem dX2_write_18 : decode cX2_write 18 = .ok (.iadd, 1) := by decide +kernel
theorem dX2_write_19 : decode cX2_write 19 = .ok (.sipush 128, 3) := by decide +kernel
theorem dX2_write_22 : decode cX2_write 22 = .ok (.invokestatic 23, 3) := by decide +kernel
theorem dX2_write_25 : decode cX2_write 25 = .ok (.putfield 15, 3) := by decide +kernel
theorem dX2_write_28 : decode cX2_write 28 = .ok (.return_, 1) := by decide +kernel
theorem dX2_writeNumber_0 : decode cX2_writeNumber 0 = .ok (.iload_n 1, 1) := by decide +kernel
theorem dX2_writeNumber_1 : decode cX2_writeNumber 1 = .ok (.bipush 10, 2) := by decide +kernel
theorem dX2_writeNumber_3 : decode cX2_writeNumber 3 = .ok (.if_icmp .lt 14, 3) := by decide +kernel
theorem dX2_writeNumber_6 : decode cX2_writeNumber 6 = .ok (.aload_n 0, 1) := by decide +kernel
theorem dX2_writeNumber_7 : decode cX2_writeNumber 7 = .ok (.bipush 48, 2) := by decide +kernel
theorem dX2_writeNumber_9 : decode cX2_writeNumber 9 = .ok (.iload_n 1, 1) := by decide +kernel
theorem dX2_writeNumber_10 : decode cX2_writeNumber 10 = .ok (.bipush 10, 2) := by decide +kernel
theorem dX2_writeNumber_12 : decode cX2_writeNumber 12 = .ok (.idiv, 1) := by decide +kernel
theorem dX2_writeNumber_13 : decode cX2_writeNumber 13 = .ok (.iadd, 1) := by decide +kernel
theorem dX2_writeNumber_14 : decode cX2_writeNumber 14 = .ok (.invokevirtual 29, 3) := by decide +kernel
theorem dX2_writeNumber_17 : decode cX2_writeNumber 17 = .ok (.aload_n 0, 1) := by decide +kernel
theorem dX2_writeNumber_18 : decode cX2_writeNumber 18 = .ok (.bipush 48, 2) := by decide +kernel
theorem dX2_writeNumber_20 : decode cX2_writeNumber 20 = .ok (.iload_n 1, 1) := by decide +kernel
theorem dX2_writeNumber_21 : decode cX2_writeNumber 21 = .ok (.bipush 10, 2) := by decide +kernel
theorem dX2_writeNumber_23 : decode cX2_writeNumber 23 = .ok (.irem, 1) := by decide +kernel
theorem dX2_writeNumber_24 : decode cX2_writeNumber 24 = .ok (.iadd, 1) := by decide +kernel
theorem dX2_writeNumber_25 : decode cX2_writeNumber 25 = .ok (.invokevirtual 29, 3) := by decide +kernel
theorem dX2_writeNumber_28 : decode cX2_writeNumber 28 = .ok (.return_, 1) := by decide +kernel
theorem dX3_init_0 : decode cX3_init 0 = .ok (.aload_n 0, 1) := by decide +kernel
theorem dX3_init_1 : decode cX3_init 1 = .ok (.invokespecial 3, 3) := by decide +kernel
theorem dX3_init_4 : decode cX3_init 4 = .ok (.aload_n 0, 1) := by decide +kernel
theorem dX3_init_5 : decode cX3_init 5 = .ok (.bipush 60, 2) := by decide +kernel
theorem dX3_init_7 : decode cX3_init 7 = .ok (.newarray .int, 2) := by decide +kernel
theorem dX3_init_9 : decode cX3_init 9 = .ok (.putfield 9, 3) := by decide +kernel
theorem dX3_init_12 : decode cX3_init 12 = .ok (.aload_n 0, 1) := by decide +kernel
theorem dX3_init_13 : decode cX3_init 13 = .ok (.sipush 180, 3) := by decide +kernel
theorem dX3_init_16 : decode cX3_init 16 = .ok (.newarray .int, 2) := by decide +kernel
theorem dX3_init_18 : decode cX3_init 18 = .ok (.putfield 15, 3) := by decide +kernel
theorem dX3_init_21 : decode cX3_init 21 = .ok (.return_, 1) := by decide +kernel
theorem dX3_numberAt_0 : decode cX3_numberAt 0 = .ok (.aload_n 0, 1) := by decide +kernel
theorem dX3_numberAt_1 : decode cX3_numberAt 1 = .ok (.getfield 15, 3) := by decide +kernel
theorem dX3_numberAt_4 : decode cX3_numberAt 4 = .ok (.iload_n 1, 1) := by decide +kernel
theorem dX3_numberAt_5 : decode cX3_numberAt 5 = .ok (.iconst 3, 1) := by decide +kernel
theorem dX3_numberAt_6 : decode cX3_numberAt 6 = .ok (.imul, 1) := by decide +kernel
theorem dX3_numberAt_7 : decode cX3_numberAt 7 = .ok (.iload_n 2, 1) := by decide +kernel
theorem dX3_numberAt_8 : decode cX3_numberAt 8 = .ok (.iadd, 1) := by decide +kernel
theorem dX3_numberAt_9 : decode cX3_numberAt 9 = .ok (.invokestatic 18, 3) := by decide +kernel
theorem dX3_numberAt_12 : decode cX3_numberAt 12 = .ok (.ireturn, 1) := by decide +kernel
theorem dX3_read_0 : decode cX3_read 0 = .ok (.aload_n 0, 1) := by decide +kernel
theorem dX3_read_1 : decode cX3_read 1 = .ok (.iconst 0, 1) := by decide +kernel
theorem dX3_read_2 : decode cX3_read 2 = .ok (.putfield 22, 3) := by decide +kernel
theorem dX3_read_5 : decode cX3_read 5 = .ok (.aload_n 0, 1) := by decide +kernel
theorem dX3_read_6 : decode cX3_read 6 = .ok (.iconst 0, 1) := by decide +kernel
theorem dX3_read_7 : decode cX3_read 7 = .ok (.putfield 26, 3) := by decide +kernel
theorem dX3_read_10 : decode cX3_read 10 = .ok (.iconst 0, 1) := by decide +kernel
theorem dX3_read_11 : decode cX3_read 11 = .ok (.istore_n 2, 1) := by decide +kernel
theorem dX3_read_12 : decode cX3_read 12 = .ok (.iload_n 2, 1) := by decide +kernel
theorem dX3_read_13 : decode cX3_read 13 = .ok (.bipush 60, 2) := by decide +kernel
theorem dX3_read_15 : decode cX3_read 15 = .ok (.if_icmp .ge 50, 3) := by decide +kernel
theorem dX3_read_18 : decode cX3_read 18 = .ok (.aload_n 0, 1) := by decide +kernel
theorem dX3_read_19 : decode cX3_read 19 = .ok (.aload_n 1, 1) := by decide +kernel
theorem dX3_read_20 : decode cX3_read 20 = .ok (.invokevirtual 29, 3) := by decide +kernel
theorem dX3_read_23 : decode cX3_read 23 = .ok (.ifCond .ne 8, 3) := by decide +kernel
theorem dX3_read_26 : decode cX3_read 26 = .ok (.aload_n 0, 1) := by decide +kernel
theorem dX3_read_27 : decode cX3_read 27 = .ok (.getfield 26, 3) := by decide +kernel
theorem dX3_read_30 : decode cX3_read 30 = .ok (.ireturn, 1) := by decide +kernel
theorem dX3_read_31 : decode cX3_read 31 = .ok (.aload_n 0, 1) := by decide +kernel
theorem dX3_read_32 : decode cX3_read 32 = .ok (.getfield 26, 3) := by decide +kernel
theorem dX3_read_35 : decode cX3_read 35 = .ok (.aload_n 1, 1) := by decide +kernel
theorem dX3_read_36 : decode cX3_read 36 = .ok (.getfield 33, 3) := by decide +kernel
theorem dX3_read_39 : decode cX3_read 39 = .ok (.if_icmp .lt 5, 3) := by decide +kernel
theorem dX3_read_42 : decode cX3_read 42 = .ok (.iconst (-1), 1) := by decide +kernel
theorem dX3_read_43 : decode cX3_read 43 = .ok (.ireturn, 1) := by decide +kernel
theorem dX3_read_44 : decode cX3_read 44 = .ok (.aload_n 0, 1) := by decide +kernel
theorem dX3_read_45 : decode cX3_read 45 = .ok (.aload_n 1, 1) := by decide +kernel
theorem dX3_read_46 : decode cX3_read 46 = .ok (.bipush 59, 2) := by decide +kernel
theorem dX3_read_48 : decode cX3_read 48 = .ok (.invokevirtual 38, 3) := by decide +kernel
theorem dX3_read_51 : decode cX3_read 51 = .ok (.ifCond .ne 8, 3) := by decide +kernel
theorem dX3_read_54 : decode cX3_read 54 = .ok (.aload_n 0, 1) := by decide +kernel
theorem dX3_read_55 : decode cX3_read 55 = .ok (.getfield 26, 3) := by decide +kernel
theorem dX3_read_58 : decode cX3_read 58 = .ok (.ireturn, 1) := by decide +kernel
theorem dX3_read_59 : decode cX3_read 59 = .ok (.iinc 2 1, 3) := by decide +kernel
theorem dX3_read_62 : decode cX3_read 62 = .ok (.goto (-50), 3) := by decide +kernel
theorem dX3_read_65 : decode cX3_read 65 = .ok (.aload_n 0, 1) := by decide +kernel
theorem dX3_read_66 : decode cX3_read 66 = .ok (.getfield 26, 3) := by decide +kernel
theorem dX3_read_69 : decode cX3_read 69 = .ok (.ireturn, 1) := by decide +kernel
theorem dX3_readOrder_0 : decode cX3_readOrder 0 = .ok (.aload_n 0, 1) := by decide +kernel
theorem dX3_readOrder_1 : decode cX3_readOrder 1 = .ok (.aload_n 1, 1) := by decide +kernel
theorem dX3_readOrder_2 : decode cX3_readOrder 2 = .ok (.aload_n 0, 1) := by decide +kernel
theorem dX3_readOrder_3 : decode cX3_readOrder 3 = .ok (.getfield 26, 3) := by decide +kernel
theorem dX3_readOrder_6 : decode cX3_readOrder 6 = .ok (.invokevirtual 42, 3) := by decide +kernel
theorem dX3_readOrder_9 : decode cX3_readOrder 9 = .ok (.invokevirtual 46, 3) := by decide +kernel
theorem dX3_readOrder_12 : decode cX3_readOrder 12 = .ok (.astore_n 2, 1) := by decide +kernel
theorem dX3_readOrder_13 : decode cX3_readOrder 13 = .ok (.aload_n 2, 1) := by decide +kernel
theorem dX3_readOrder_14 : decode cX3_readOrder 14 = .ok (.invokevirtual 50, 3) := by decide +kernel
theorem dX3_readOrder_17 : decode cX3_readOrder 17 = .ok (.ifCond .eq 5, 3) := by decide +kernel
theorem dX3_readOrder_20 : decode cX3_readOrder 20 = .ok (.iconst 0, 1) := by decide +kernel
theorem dX3_readOrder_21 : decode cX3_readOrder 21 = .ok (.ireturn, 1) := by decide +kernel
theorem dX3_readOrder_22 : decode cX3_readOrder 22 = .ok (.aload_n 0, 1) := by decide +kernel
theorem dX3_readOrder_23 : decode cX3_readOrder 23 = .ok (.getfield 9, 3) := by decide +kernel
theorem dX3_readOrder_26 : decode cX3_readOrder 26 = .ok (.aload_n 0, 1) := by decide +kernel
theorem dX3_readOrder_27 : decode cX3_readOrder 27 = .ok (.getfield 22, 3) := by decide +kernel
theorem dX3_readOrder_30 : decode cX3_readOrder 30 = .ok (.aload_n 1, 1) := by decide +kernel
theorem dX3_readOrder_31 : decode cX3_readOrder 31 = .ok (.aload_n 0, 1) := by decide +kernel
theorem dX3_readOrder_32 : decode cX3_readOrder 32 = .ok (.getfield 26, 3) := by decide +kernel
theorem dX3_readOrder_35 : decode cX3_readOrder 35 = .ok (.invokevirtual 42, 3) := by decide +kernel
theorem dX3_readOrder_38 : decode cX3_readOrder 38 = .ok (.invokestatic 56, 3) := by decide +kernel
theorem dX3_readOrder_41 : decode cX3_readOrder 41 = .ok (.aload_n 0, 1) := by decide +kernel
theorem dX3_readOrder_42 : decode cX3_readOrder 42 = .ok (.getfield 22, 3) := by decide +kernel
theorem dX3_readOrder_45 : decode cX3_readOrder 45 = .ok (.iconst 3, 1) := by decide +kernel
theorem dX3_readOrder_46 : decode cX3_readOrder 46 = .ok (.imul, 1) := by decide +kernel
theorem dX3_readOrder_47 : decode cX3_readOrder 47 = .ok (.istore_n 3, 1) := by decide +kernel
theorem dX3_readOrder_48 : decode cX3_readOrder 48 = .ok (.iconst 0, 1) := by decide +kernel
theorem dX3_readOrder_49 : decode cX3_readOrder 49 = .ok (.istore 4, 2) := by decide +kernel
theorem dX3_readOrder_51 : decode cX3_readOrder 51 = .ok (.iload 4, 2) := by decide +kernel
theorem dX3_readOrder_53 : decode cX3_readOrder 53 = .ok (.aload_n 2, 1) := by decide +kernel
theorem dX3_readOrder_54 : decode cX3_readOrder 54 = .ok (.invokevirtual 60, 3) := by decide +kernel
theorem dX3_readOrder_57 : decode cX3_readOrder 57 = .ok (.if_icmp .ge 85, 3) := by decide +kernel
theorem dX3_readOrder_60 : decode cX3_readOrder 60 = .ok (.aload_n 2, 1) := by decide +kernel
theorem dX3_readOrder_61 : decode cX3_readOrder 61 = .ok (.iload 4, 2) := by decide +kernel
theorem dX3_readOrder_63 : decode cX3_readOrder 63 = .ok (.invokevirtual 63, 3) := by decide +kernel
theorem dX3_readOrder_66 : decode cX3_readOrder 66 = .ok (.istore 5, 2) := by decide +kernel
theorem dX3_readOrder_68 : decode cX3_readOrder 68 = .ok (.iload 5, 2) := by decide +kernel
theorem dX3_readOrder_70 : decode cX3_readOrder 70 = .ok (.bipush 68, 2) := by decide +kernel
theorem dX3_readOrder_72 : decode cX3_readOrder 72 = .ok (.if_icmp .eq 17, 3) := by decide +kernel
theorem dX3_readOrder_75 : decode cX3_readOrder 75 = .ok (.iload 5, 2) := by decide +kernel
theorem dX3_readOrder_77 : decode cX3_readOrder 77 = .ok (.bipush 100, 2) := by decide +kernel
theorem dX3_readOrder_79 : decode cX3_readOrder 79 = .ok (.if_icmp .eq 10, 3) := by decide +kernel
theorem dX3_readOrder_82 : decode cX3_readOrder 82 = .ok (.iload 5, 2) := by decide +kernel
theorem dX3_readOrder_84 : decode cX3_readOrder 84 = .ok (.bipush 63, 2) := by decide +kernel
theorem dX3_readOrder_86 : decode cX3_readOrder 86 = .ok (.if_icmp .ne 7, 3) := by decide +kernel
theorem dX3_readOrder_89 : decode cX3_readOrder 89 = .ok (.iconst 1, 1) := by decide +kernel
theorem dX3_readOrder_90 : decode cX3_readOrder 90 = .ok (.goto 4, 3) := by decide +kernel
theorem dX3_readOrder_93 : decode cX3_readOrder 93 = .ok (.iconst 0, 1) := by decide +kernel
theorem dX3_readOrder_94 : decode cX3_readOrder 94 = .ok (.istore 6, 2) := by decide +kernel
theorem dX3_readOrder_96 : decode cX3_readOrder 96 = .ok (.iload 6, 2) := by decide +kernel
theorem dX3_readOrder_98 : decode cX3_readOrder 98 = .ok (.ifCond .eq 14, 3) := by decide +kernel
theorem dX3_readOrder_101 : decode cX3_readOrder 101 = .ok (.aload_n 0, 1) := by decide +kernel
theorem dX3_readOrder_102 : decode cX3_readOrder 102 = .ok (.aload_n 1, 1) := by decide +kernel
theorem dX3_readOrder_103 : decode cX3_readOrder 103 = .ok (.iload 5, 2) := by decide +kernel
theorem dX3_readOrder_105 : decode cX3_readOrder 105 = .ok (.iload_n 3, 1) := by decide +kernel
theorem dX3_readOrder_106 : decode cX3_readOrder 106 = .ok (.invokevirtual 67, 3) := by decide +kernel
theorem dX3_readOrder_109 : decode cX3_readOrder 109 = .ok (.goto 10, 3) := by decide +kernel
theorem dX3_readOrder_112 : decode cX3_readOrder 112 = .ok (.aload_n 0, 1) := by decide +kernel
theorem dX3_readOrder_113 : decode cX3_readOrder 113 = .ok (.aload_n 1, 1) := by decide +kernel
theorem dX3_readOrder_114 : decode cX3_readOrder 114 = .ok (.iload 5, 2) := by decide +kernel
theorem dX3_readOrder_116 : decode cX3_readOrder 116 = .ok (.invokevirtual 38, 3) := by decide +kernel
theorem dX3_readOrder_119 : decode cX3_readOrder 119 = .ok (.istore 7, 2) := by decide +kernel
theorem dX3_readOrder_121 : decode cX3_readOrder 121 = .ok (.iload 7, 2) := by decide +kernel
theorem dX3_readOrder_123 : decode cX3_readOrder 123 = .ok (.ifCond .ne 5, 3) := by decide +kernel
theorem dX3_readOrder_126 : decode cX3_readOrder 126 = .ok (.iconst 0, 1) := by decide +kernel
theorem dX3_readOrder_127 : decode cX3_readOrder 127 = .ok (.ireturn, 1) := by decide +kernel
theorem dX3_readOrder_128 : decode cX3_readOrder 128 = .ok (.iload 6, 2) := by decide +kernel
theorem dX3_readOrder_130 : decode cX3_readOrder 130 = .ok (.ifCond .eq 6, 3) := by decide +kernel
theorem dX3_readOrder_133 : decode cX3_readOrder 133 = .ok (.iinc 3 1, 3) := by decide +kernel
theorem dX3_readOrder_136 : decode cX3_readOrder 136 = .ok (.iinc 4 1, 3) := by decide +kernel
theorem dX3_readOrder_139 : decode cX3_readOrder 139 = .ok (.goto (-88), 3) := by decide +kernel
theorem dX3_readOrder_142 : decode cX3_readOrder 142 = .ok (.aload_n 0, 1) := by decide +kernel
theorem dX3_readOrder_143 : decode cX3_readOrder 143 = .ok (.dup, 1) := by decide +kernel
theorem dX3_readOrder_144 : decode cX3_readOrder 144 = .ok (.getfield 22, 3) := by decide +kernel
theorem dX3_readOrder_147 : decode cX3_readOrder 147 = .ok (.iconst 1, 1) := by decide +kernel
theorem dX3_readOrder_148 : decode cX3_readOrder 148 = .ok (.iadd, 1) := by decide +kernel
theorem dX3_readOrder_149 : decode cX3_readOrder 149 = .ok (.putfield 22, 3) := by decide +kernel
theorem dX3_readOrder_152 : decode cX3_readOrder 152 = .ok (.iconst 1, 1) := by decide +kernel
theorem dX3_readOrder_153 : decode cX3_readOrder 153 = .ok (.ireturn, 1) := by decide +kernel
theorem dX3_shapeOf_0 : decode cX3_shapeOf 0 = .ok (.iload_n 1, 1) := by decide +kernel
theorem dX3_shapeOf_1 : decode cX3_shapeOf 1 = .ok (.tableswitch 122 99 118 #[107, 122, 119, 122, 122, 113, 122, 122, 122, 122, 122, 110, 116, 104, 122, 95, 101, 122, 122, 98], 95) := by decide +kernel
theorem dX3_shapeOf_96 : decode cX3_shapeOf 96 = .ok (.ldc 71, 2) := by decide +kernel
theorem dX3_shapeOf_98 : decode cX3_shapeOf 98 = .ok (.areturn, 1) := by decide +kernel
theorem dX3_shapeOf_99 : decode cX3_shapeOf 99 = .ok (.ldc 73, 2) := by decide +kernel
theorem dX3_shapeOf_101 : decode cX3_shapeOf 101 = .ok (.areturn, 1) := by decide +kernel
theorem dX3_shapeOf_102 : decode cX3_shapeOf 102 = .ok (.ldc 75, 2) := by decide +kernel
theorem dX3_shapeOf_104 : decode cX3_shapeOf 104 = .ok (.areturn, 1) := by decide +kernel
theorem dX3_shapeOf_105 : decode cX3_shapeOf 105 = .ok (.ldc 77, 2) := by decide +kernel
theorem dX3_shapeOf_107 : decode cX3_shapeOf 107 = .ok (.areturn, 1) := by decide +kernel
theorem dX3_shapeOf_108 : decode cX3_shapeOf 108 = .ok (.ldc 79, 2) := by decide +kernel
theorem dX3_shapeOf_110 : decode cX3_shapeOf 110 = .ok (.areturn, 1) := by decide +kernel
theorem dX3_shapeOf_111 : decode cX3_shapeOf 111 = .ok (.ldc 81, 2) := by decide +kernel
theorem dX3_shapeOf_113 : decode cX3_shapeOf 113 = .ok (.areturn, 1) := by decide +kernel
theorem dX3_shapeOf_114 : decode cX3_shapeOf 114 = .ok (.ldc 83, 2) := by decide +kernel
theorem dX3_shapeOf_116 : decode cX3_shapeOf 116 = .ok (.areturn, 1) := by decide +kernel
theorem dX3_shapeOf_117 : decode cX3_shapeOf 117 = .ok (.ldc 85, 2) := by decide +kernel
theorem dX3_shapeOf_119 : decode cX3_shapeOf 119 = .ok (.areturn, 1) := by decide +kernel
theorem dX3_shapeOf_120 : decode cX3_shapeOf 120 = .ok (.ldc 87, 2) := by decide +kernel
theorem dX3_shapeOf_122 : decode cX3_shapeOf 122 = .ok (.areturn, 1) := by decide +kernel
theorem dX3_shapeOf_123 : decode cX3_shapeOf 123 = .ok (.ldc 89, 2) := by decide +kernel
theorem dX3_shapeOf_125 : decode cX3_shapeOf 125 = .ok (.areturn, 1) := by decide +kernel
theorem dX3_readSign_0 : decode cX3_readSign 0 = .ok (.aload_n 1, 1) := by decide +kernel
theorem dX3_readSign_1 : decode cX3_readSign 1 = .ok (.aload_n 0, 1) := by decide +kernel
theorem dX3_readSign_2 : decode cX3_readSign 2 = .ok (.getfield 26, 3) := by decide +kernel
theorem dX3_readSign_5 : decode cX3_readSign 5 = .ok (.invokevirtual 42, 3) := by decide +kernel
theorem dX3_readSign_8 : decode cX3_readSign 8 = .ok (.iload_n 2, 1) := by decide +kernel
theorem dX3_readSign_9 : decode cX3_readSign 9 = .ok (.if_icmp .eq 5, 3) := by decide +kernel
theorem dX3_readSign_12 : decode cX3_readSign 12 = .ok (.iconst 0, 1) := by decide +kernel
theorem dX3_readSign_13 : decode cX3_readSign 13 = .ok (.ireturn, 1) := by decide +kernel
theorem dX3_readSign_14 : decode cX3_readSign 14 = .ok (.aload_n 0, 1) := by decide +kernel
theorem dX3_readSign_15 : decode cX3_readSign 15 = .ok (.dup, 1) := by decide +kernel
theorem dX3_readSign_16 : decode cX3_readSign 16 = .ok (.getfield 26, 3) := by decide +kernel
theorem dX3_readSign_19 : decode cX3_readSign 19 = .ok (.iconst 1, 1) := by decide +kernel
theorem dX3_readSign_20 : decode cX3_readSign 20 = .ok (.iadd, 1) := by decide +kernel
theorem dX3_readSign_21 : decode cX3_readSign 21 = .ok (.putfield 26, 3) := by decide +kernel
theorem dX3_readSign_24 : decode cX3_readSign 24 = .ok (.iconst 1, 1) := by decide +kernel
theorem dX3_readSign_25 : decode cX3_readSign 25 = .ok (.ireturn, 1) := by decide +kernel
theorem dX3_readNumber_0 : decode cX3_readNumber 0 = .ok (.aload_n 1, 1) := by decide +kernel
theorem dX3_readNumber_1 : decode cX3_readNumber 1 = .ok (.aload_n 0, 1) := by decide +kernel
theorem dX3_readNumber_2 : decode cX3_readNumber 2 = .ok (.getfield 26, 3) := by decide +kernel
theorem dX3_readNumber_5 : decode cX3_readNumber 5 = .ok (.invokevirtual 42, 3) := by decide +kernel
theorem dX3_readNumber_8 : decode cX3_readNumber 8 = .ok (.istore 4, 2) := by decide +kernel
theorem dX3_readNumber_10 : decode cX3_readNumber 10 = .ok (.iload_n 2, 1) := by decide +kernel
theorem dX3_readNumber_11 : decode cX3_readNumber 11 = .ok (.bipush 63, 2) := by decide +kernel
theorem dX3_readNumber_13 : decode cX3_readNumber 13 = .ok (.if_icmp .ne 49, 3) := by decide +kernel
theorem dX3_readNumber_16 : decode cX3_readNumber 16 = .ok (.aload_n 0, 1) := by decide +kernel
theorem dX3_readNumber_17 : decode cX3_readNumber 17 = .ok (.getfield 15, 3) := by decide +kernel
theorem dX3_readNumber_20 : decode cX3_readNumber 20 = .ok (.iload_n 3, 1) := by decide +kernel
theorem dX3_readNumber_21 : decode cX3_readNumber 21 = .ok (.iload 4, 2) := by decide +kernel
theorem dX3_readNumber_23 : decode cX3_readNumber 23 = .ok (.bipush 43, 2) := by decide +kernel
theorem dX3_readNumber_25 : decode cX3_readNumber 25 = .ok (.if_icmp .ne 7, 3) := by decide +kernel
theorem dX3_readNumber_28 : decode cX3_readNumber 28 = .ok (.iconst 1, 1) := by decide +kernel
theorem dX3_readNumber_29 : decode cX3_readNumber 29 = .ok (.goto 4, 3) := by decide +kernel
theorem dX3_readNumber_32 : decode cX3_readNumber 32 = .ok (.iconst 0, 1) := by decide +kernel
theorem dX3_readNumber_33 : decode cX3_readNumber 33 = .ok (.invokestatic 56, 3) := by decide +kernel
theorem dX3_readNumber_36 : decode cX3_readNumber 36 = .ok (.aload_n 0, 1) := by decide +kernel
theorem dX3_readNumber_37 : decode cX3_readNumber 37 = .ok (.aload_n 1, 1) := by decide +kernel
theorem dX3_readNumber_38 : decode cX3_readNumber 38 = .ok (.bipush 43, 2) := by decide +kernel
theorem dX3_readNumber_40 : decode cX3_readNumber 40 = .ok (.invokevirtual 38, 3) := by decide +kernel
theorem dX3_readNumber_43 : decode cX3_readNumber 43 = .ok (.ifCond .ne 13, 3) := by decide +kernel
theorem dX3_readNumber_46 : decode cX3_readNumber 46 = .ok (.aload_n 0, 1) := by decide +kernel
theorem dX3_readNumber_47 : decode cX3_readNumber 47 = .ok (.aload_n 1, 1) := by decide +kernel
theorem dX3_readNumber_48 : decode cX3_readNumber 48 = .ok (.bipush 45, 2) := by decide +kernel
theorem dX3_readNumber_50 : decode cX3_readNumber 50 = .ok (.invokevirtual 38, 3) := by decide +kernel
theorem dX3_readNumber_53 : decode cX3_readNumber 53 = .ok (.ifCond .eq 7, 3) := by decide +kernel
theorem dX3_readNumber_56 : decode cX3_readNumber 56 = .ok (.iconst 1, 1) := by decide +kernel
theorem dX3_readNumber_57 : decode cX3_readNumber 57 = .ok (.goto 4, 3) := by decide +kernel
theorem dX3_readNumber_60 : decode cX3_readNumber 60 = .ok (.iconst 0, 1) := by decide +kernel
theorem dX3_readNumber_61 : decode cX3_readNumber 61 = .ok (.ireturn, 1) := by decide +kernel
theorem dX3_readNumber_62 : decode cX3_readNumber 62 = .ok (.iload 4, 2) := by decide +kernel
theorem dX3_readNumber_64 : decode cX3_readNumber 64 = .ok (.invokestatic 91, 3) := by decide +kernel
theorem dX3_readNumber_67 : decode cX3_readNumber 67 = .ok (.ifCond .ne 5, 3) := by decide +kernel
theorem dX3_readNumber_70 : decode cX3_readNumber 70 = .ok (.iconst 0, 1) := by decide +kernel
theorem dX3_readNumber_71 : decode cX3_readNumber 71 = .ok (.ireturn, 1) := by decide +kernel
theorem dX3_readNumber_72 : decode cX3_readNumber 72 = .ok (.aload_n 0, 1) := by decide +kernel
theorem dX3_readNumber_73 : decode cX3_readNumber 73 = .ok (.getfield 15, 3) := by decide +kernel
theorem dX3_readNumber_76 : decode cX3_readNumber 76 = .ok (.iload_n 3, 1) := by decide +kernel
theorem dX3_readNumber_77 : decode cX3_readNumber 77 = .ok (.iload 4, 2) := by decide +kernel
theorem dX3_readNumber_79 : decode cX3_readNumber 79 = .ok (.bipush 48, 2) := by decide +kernel
theorem dX3_readNumber_81 : decode cX3_readNumber 81 = .ok (.isub, 1) := by decide +kernel
theorem dX3_readNumber_82 : decode cX3_readNumber 82 = .ok (.invokestatic 56, 3) := by decide +kernel
theorem dX3_readNumber_85 : decode cX3_readNumber 85 = .ok (.aload_n 0, 1) := by decide +kernel
theorem dX3_readNumber_86 : decode cX3_readNumber 86 = .ok (.dup, 1) := by decide +kernel
theorem dX3_readNumber_87 : decode cX3_readNumber 87 = .ok (.getfield 26, 3) := by decide +kernel
theorem dX3_readNumber_90 : decode cX3_readNumber 90 = .ok (.iconst 1, 1) := by decide +kernel
theorem dX3_readNumber_91 : decode cX3_readNumber 91 = .ok (.iadd, 1) := by decide +kernel
theorem dX3_readNumber_92 : decode cX3_readNumber 92 = .ok (.putfield 26, 3) := by decide +kernel
theorem dX3_readNumber_95 : decode cX3_readNumber 95 = .ok (.aload_n 1, 1) := by decide +kernel
theorem dX3_readNumber_96 : decode cX3_readNumber 96 = .ok (.aload_n 0, 1) := by decide +kernel
theorem dX3_readNumber_97 : decode cX3_readNumber 97 = .ok (.getfield 26, 3) := by decide +kernel
theorem dX3_readNumber_100 : decode cX3_readNumber 100 = .ok (.invokevirtual 42, 3) := by decide +kernel
theorem dX3_readNumber_103 : decode cX3_readNumber 103 = .ok (.istore 5, 2) := by decide +kernel
theorem dX3_readNumber_105 : decode cX3_readNumber 105 = .ok (.iload_n 2, 1) := by decide +kernel
theorem dX3_readNumber_106 : decode cX3_readNumber 106 = .ok (.bipush 68, 2) := by decide +kernel
theorem dX3_readNumber_108 : decode cX3_readNumber 108 = .ok (.if_icmp .ne 43, 3) := by decide +kernel
theorem dX3_readNumber_111 : decode cX3_readNumber 111 = .ok (.iload 5, 2) := by decide +kernel
theorem dX3_readNumber_113 : decode cX3_readNumber 113 = .ok (.invokestatic 91, 3) := by decide +kernel
theorem dX3_readNumber_116 : decode cX3_readNumber 116 = .ok (.ifCond .eq 35, 3) := by decide +kernel
theorem dX3_readNumber_119 : decode cX3_readNumber 119 = .ok (.aload_n 0, 1) := by decide +kernel
theorem dX3_readNumber_120 : decode cX3_readNumber 120 = .ok (.getfield 15, 3) := by decide +kernel
theorem dX3_readNumber_123 : decode cX3_readNumber 123 = .ok (.iload_n 3, 1) := by decide +kernel
theorem dX3_readNumber_124 : decode cX3_readNumber 124 = .ok (.iload 4, 2) := by decide +kernel
theorem dX3_readNumber_126 : decode cX3_readNumber 126 = .ok (.bipush 48, 2) := by decide +kernel
theorem dX3_readNumber_128 : decode cX3_readNumber 128 = .ok (.isub, 1) := by decide +kernel
theorem dX3_readNumber_129 : decode cX3_readNumber 129 = .ok (.bipush 10, 2) := by decide +kernel
theorem dX3_readNumber_131 : decode cX3_readNumber 131 = .ok (.imul, 1) := by decide +kernel
theorem dX3_readNumber_132 : decode cX3_readNumber 132 = .ok (.iload 5, 2) := by decide +kernel
theorem dX3_readNumber_134 : decode cX3_readNumber 134 = .ok (.iadd, 1) := by decide +kernel
theorem dX3_readNumber_135 : decode cX3_readNumber 135 = .ok (.bipush 48, 2) := by decide +kernel
theorem dX3_readNumber_137 : decode cX3_readNumber 137 = .ok (.isub, 1) := by decide +kernel
theorem dX3_readNumber_138 : decode cX3_readNumber 138 = .ok (.invokestatic 56, 3) := by decide +kernel
theorem dX3_readNumber_141 : decode cX3_readNumber 141 = .ok (.aload_n 0, 1) := by decide +kernel
theorem dX3_readNumber_142 : decode cX3_readNumber 142 = .ok (.dup, 1) := by decide +kernel
theorem dX3_readNumber_143 : decode cX3_readNumber 143 = .ok (.getfield 26, 3) := by decide +kernel
theorem dX3_readNumber_146 : decode cX3_readNumber 146 = .ok (.iconst 1, 1) := by decide +kernel
theorem dX3_readNumber_147 : decode cX3_readNumber 147 = .ok (.iadd, 1) := by decide +kernel
theorem dX3_readNumber_148 : decode cX3_readNumber 148 = .ok (.putfield 26, 3) := by decide +kernel
theorem dX3_readNumber_151 : decode cX3_readNumber 151 = .ok (.iconst 1, 1) := by decide +kernel
theorem dX3_readNumber_152 : decode cX3_readNumber 152 = .ok (.ireturn, 1) := by decide +kernel
theorem dX4_init_0 : decode cX4_init 0 = .ok (.aload_n 0, 1) := by decide +kernel
theorem dX4_init_1 : decode cX4_init 1 = .ok (.invokespecial 3, 3) := by decide +kernel
theorem dX4_init_4 : decode cX4_init 4 = .ok (.aload_n 0, 1) := by decide +kernel
theorem dX4_init_5 : decode cX4_init 5 = .ok (.bipush 16, 2) := by decide +kernel
theorem dX4_init_7 : decode cX4_init 7 = .ok (.newarray .int, 2) := by decide +kernel
theorem dX4_init_9 : decode cX4_init 9 = .ok (.putfield 9, 3) := by decide +kernel
theorem dX4_init_12 : decode cX4_init 12 = .ok (.aload_n 0, 1) := by decide +kernel
theorem dX4_init_13 : decode cX4_init 13 = .ok (.bipush 16, 2) := by decide +kernel
theorem dX4_init_15 : decode cX4_init 15 = .ok (.newarray .int, 2) := by decide +kernel
theorem dX4_init_17 : decode cX4_init 17 = .ok (.putfield 15, 3) := by decide +kernel
theorem dX4_init_20 : decode cX4_init 20 = .ok (.aload_n 0, 1) := by decide +kernel
theorem dX4_init_21 : decode cX4_init 21 = .ok (.bipush 16, 2) := by decide +kernel
theorem dX4_init_23 : decode cX4_init 23 = .ok (.newarray .int, 2) := by decide +kernel
theorem dX4_init_25 : decode cX4_init 25 = .ok (.putfield 18, 3) := by decide +kernel
theorem dX4_init_28 : decode cX4_init 28 = .ok (.return_, 1) := by decide +kernel
theorem dX4_copyFrom_0 : decode cX4_copyFrom 0 = .ok (.aload_n 0, 1) := by decide +kernel
theorem dX4_copyFrom_1 : decode cX4_copyFrom 1 = .ok (.aload_n 1, 1) := by decide +kernel
theorem dX4_copyFrom_2 : decode cX4_copyFrom 2 = .ok (.getfield 21, 3) := by decide +kernel
theorem dX4_copyFrom_5 : decode cX4_copyFrom 5 = .ok (.putfield 21, 3) := by decide +kernel
theorem dX4_copyFrom_8 : decode cX4_copyFrom 8 = .ok (.aload_n 1, 1) := by decide +kernel
theorem dX4_copyFrom_9 : decode cX4_copyFrom 9 = .ok (.getfield 9, 3) := by decide +kernel
theorem dX4_copyFrom_12 : decode cX4_copyFrom 12 = .ok (.aload_n 0, 1) := by decide +kernel
theorem dX4_copyFrom_13 : decode cX4_copyFrom 13 = .ok (.getfield 9, 3) := by decide +kernel
theorem dX4_copyFrom_16 : decode cX4_copyFrom 16 = .ok (.invokestatic 25, 3) := by decide +kernel
theorem dX4_copyFrom_19 : decode cX4_copyFrom 19 = .ok (.aload_n 1, 1) := by decide +kernel
theorem dX4_copyFrom_20 : decode cX4_copyFrom 20 = .ok (.getfield 15, 3) := by decide +kernel
theorem dX4_copyFrom_23 : decode cX4_copyFrom 23 = .ok (.aload_n 0, 1) := by decide +kernel
theorem dX4_copyFrom_24 : decode cX4_copyFrom 24 = .ok (.getfield 15, 3) := by decide +kernel
theorem dX4_copyFrom_27 : decode cX4_copyFrom 27 = .ok (.invokestatic 25, 3) := by decide +kernel
theorem dX4_copyFrom_30 : decode cX4_copyFrom 30 = .ok (.aload_n 1, 1) := by decide +kernel
theorem dX4_copyFrom_31 : decode cX4_copyFrom 31 = .ok (.getfield 18, 3) := by decide +kernel
theorem dX4_copyFrom_34 : decode cX4_copyFrom 34 = .ok (.aload_n 0, 1) := by decide +kernel
theorem dX4_copyFrom_35 : decode cX4_copyFrom 35 = .ok (.getfield 18, 3) := by decide +kernel
theorem dX4_copyFrom_38 : decode cX4_copyFrom 38 = .ok (.invokestatic 25, 3) := by decide +kernel
theorem dX4_copyFrom_41 : decode cX4_copyFrom 41 = .ok (.return_, 1) := by decide +kernel
theorem dX4_has_0 : decode cX4_has 0 = .ok (.iload_n 1, 1) := by decide +kernel
theorem dX4_has_1 : decode cX4_has 1 = .ok (.ifCond .lt 15, 3) := by decide +kernel
theorem dX4_has_4 : decode cX4_has 4 = .ok (.iload_n 1, 1) := by decide +kernel
theorem dX4_has_5 : decode cX4_has 5 = .ok (.aload_n 0, 1) := by decide +kernel
theorem dX4_has_6 : decode cX4_has 6 = .ok (.getfield 21, 3) := by decide +kernel
theorem dX4_has_9 : decode cX4_has 9 = .ok (.if_icmp .ge 7, 3) := by decide +kernel
theorem dX4_has_12 : decode cX4_has 12 = .ok (.iconst 1, 1) := by decide +kernel
theorem dX4_has_13 : decode cX4_has 13 = .ok (.goto 4, 3) := by decide +kernel
theorem dX4_has_16 : decode cX4_has 16 = .ok (.iconst 0, 1) := by decide +kernel
theorem dX4_has_17 : decode cX4_has 17 = .ok (.ireturn, 1) := by decide +kernel
theorem dX4_isNextAt_0 : decode cX4_isNextAt 0 = .ok (.aload_n 0, 1) := by decide +kernel
theorem dX4_isNextAt_1 : decode cX4_isNextAt 1 = .ok (.getfield 21, 3) := by decide +kernel
theorem dX4_isNextAt_4 : decode cX4_isNextAt 4 = .ok (.ifCond .le 19, 3) := by decide +kernel
theorem dX4_isNextAt_7 : decode cX4_isNextAt 7 = .ok (.aload_n 0, 1) := by decide +kernel
theorem dX4_isNextAt_8 : decode cX4_isNextAt 8 = .ok (.getfield 15, 3) := by decide +kernel
theorem dX4_isNextAt_11 : decode cX4_isNextAt 11 = .ok (.iconst 0, 1) := by decide +kernel
theorem dX4_isNextAt_12 : decode cX4_isNextAt 12 = .ok (.invokestatic 29, 3) := by decide +kernel
theorem dX4_isNextAt_15 : decode cX4_isNextAt 15 = .ok (.iload_n 1, 1) := by decide +kernel
theorem dX4_isNextAt_16 : decode cX4_isNextAt 16 = .ok (.if_icmp .ne 7, 3) := by decide +kernel
theorem dX4_isNextAt_19 : decode cX4_isNextAt 19 = .ok (.iconst 1, 1) := by decide +kernel
theorem dX4_isNextAt_20 : decode cX4_isNextAt 20 = .ok (.goto 4, 3) := by decide +kernel
theorem dX4_isNextAt_23 : decode cX4_isNextAt 23 = .ok (.iconst 0, 1) := by decide +kernel
theorem dX4_isNextAt_24 : decode cX4_isNextAt 24 = .ok (.ireturn, 1) := by decide +kernel
theorem dX4_numberOf_0 : decode cX4_numberOf 0 = .ok (.aload_n 0, 1) := by decide +kernel
theorem dX4_numberOf_1 : decode cX4_numberOf 1 = .ok (.iload_n 1, 1) := by decide +kernel
theorem dX4_numberOf_2 : decode cX4_numberOf 2 = .ok (.invokestatic 33, 3) := by decide +kernel
theorem dX4_numberOf_5 : decode cX4_numberOf 5 = .ok (.invokevirtual 37, 3) := by decide +kernel
theorem dX4_numberOf_8 : decode cX4_numberOf 8 = .ok (.ireturn, 1) := by decide +kernel
theorem dX4_numberIn_0 : decode cX4_numberIn 0 = .ok (.iconst 0, 1) := by decide +kernel
theorem dX4_numberIn_1 : decode cX4_numberIn 1 = .ok (.istore_n 2, 1) := by decide +kernel
theorem dX4_numberIn_2 : decode cX4_numberIn 2 = .ok (.iconst 0, 1) := by decide +kernel
theorem dX4_numberIn_3 : decode cX4_numberIn 3 = .ok (.istore_n 3, 1) := by decide +kernel
theorem dX4_numberIn_4 : decode cX4_numberIn 4 = .ok (.iload_n 3, 1) := by decide +kernel
theorem dX4_numberIn_5 : decode cX4_numberIn 5 = .ok (.aload_n 0, 1) := by decide +kernel
theorem dX4_numberIn_6 : decode cX4_numberIn 6 = .ok (.getfield 21, 3) := by decide +kernel
theorem dX4_numberIn_9 : decode cX4_numberIn 9 = .ok (.if_icmp .ge 27, 3) := by decide +kernel
theorem dX4_numberIn_12 : decode cX4_numberIn 12 = .ok (.iload_n 1, 1) := by decide +kernel
theorem dX4_numberIn_13 : decode cX4_numberIn 13 = .ok (.aload_n 0, 1) := by decide +kernel
theorem dX4_numberIn_14 : decode cX4_numberIn 14 = .ok (.getfield 9, 3) := by decide +kernel
theorem dX4_numberIn_17 : decode cX4_numberIn 17 = .ok (.iload_n 3, 1) := by decide +kernel
theorem dX4_numberIn_18 : decode cX4_numberIn 18 = .ok (.invokestatic 29, 3) := by decide +kernel
theorem dX4_numberIn_21 : decode cX4_numberIn 21 = .ok (.invokestatic 40, 3) := by decide +kernel
theorem dX4_numberIn_24 : decode cX4_numberIn 24 = .ok (.ifCond .eq 6, 3) := by decide +kernel
theorem dX4_numberIn_27 : decode cX4_numberIn 27 = .ok (.iinc 2 1, 3) := by decide +kernel
theorem dX4_numberIn_30 : decode cX4_numberIn 30 = .ok (.iinc 3 1, 3) := by decide +kernel
theorem dX4_numberIn_33 : decode cX4_numberIn 33 = .ok (.goto (-29), 3) := by decide +kernel
theorem dX4_numberIn_36 : decode cX4_numberIn 36 = .ok (.iload_n 2, 1) := by decide +kernel
theorem dX4_numberIn_37 : decode cX4_numberIn 37 = .ok (.ireturn, 1) := by decide +kernel
theorem dX4_insert_0 : decode cX4_insert 0 = .ok (.aload_n 0, 1) := by decide +kernel
theorem dX4_insert_1 : decode cX4_insert 1 = .ok (.getfield 21, 3) := by decide +kernel
theorem dX4_insert_4 : decode cX4_insert 4 = .ok (.istore 4, 2) := by decide +kernel
theorem dX4_insert_6 : decode cX4_insert 6 = .ok (.aload_n 0, 1) := by decide +kernel
theorem dX4_insert_7 : decode cX4_insert 7 = .ok (.dup, 1) := by decide +kernel
theorem dX4_insert_8 : decode cX4_insert 8 = .ok (.getfield 21, 3) := by decide +kernel
theorem dX4_insert_11 : decode cX4_insert 11 = .ok (.iconst 1, 1) := by decide +kernel
theorem dX4_insert_12 : decode cX4_insert 12 = .ok (.iadd, 1) := by decide +kernel
theorem dX4_insert_13 : decode cX4_insert 13 = .ok (.putfield 21, 3) := by decide +kernel
theorem dX4_insert_16 : decode cX4_insert 16 = .ok (.iload 4, 2) := by decide +kernel
theorem dX4_insert_18 : decode cX4_insert 18 = .ok (.ifCond .le 33, 3) := by decide +kernel
theorem dX4_insert_21 : decode cX4_insert 21 = .ok (.aload_n 0, 1) := by decide +kernel
theorem dX4_insert_22 : decode cX4_insert 22 = .ok (.iload 4, 2) := by decide +kernel
theorem dX4_insert_24 : decode cX4_insert 24 = .ok (.iconst 1, 1) := by decide +kernel
theorem dX4_insert_25 : decode cX4_insert 25 = .ok (.isub, 1) := by decide +kernel
theorem dX4_insert_26 : decode cX4_insert 26 = .ok (.iload_n 1, 1) := by decide +kernel
theorem dX4_insert_27 : decode cX4_insert 27 = .ok (.iload_n 2, 1) := by decide +kernel
theorem dX4_insert_28 : decode cX4_insert 28 = .ok (.iload_n 3, 1) := by decide +kernel
theorem dX4_insert_29 : decode cX4_insert 29 = .ok (.invokevirtual 44, 3) := by decide +kernel
theorem dX4_insert_32 : decode cX4_insert 32 = .ok (.ifCond .eq 19, 3) := by decide +kernel
theorem dX4_insert_35 : decode cX4_insert 35 = .ok (.aload_n 0, 1) := by decide +kernel
theorem dX4_insert_36 : decode cX4_insert 36 = .ok (.iload 4, 2) := by decide +kernel
theorem dX4_insert_38 : decode cX4_insert 38 = .ok (.iconst 1, 1) := by decide +kernel
theorem dX4_insert_39 : decode cX4_insert 39 = .ok (.isub, 1) := by decide +kernel
theorem dX4_insert_40 : decode cX4_insert 40 = .ok (.iload 4, 2) := by decide +kernel
theorem dX4_insert_42 : decode cX4_insert 42 = .ok (.invokevirtual 48, 3) := by decide +kernel
theorem dX4_insert_45 : decode cX4_insert 45 = .ok (.iinc 4 (-1), 3) := by decide +kernel
theorem dX4_insert_48 : decode cX4_insert 48 = .ok (.goto (-32), 3) := by decide +kernel
theorem dX4_insert_51 : decode cX4_insert 51 = .ok (.aload_n 0, 1) := by decide +kernel
theorem dX4_insert_52 : decode cX4_insert 52 = .ok (.getfield 9, 3) := by decide +kernel
theorem dX4_insert_55 : decode cX4_insert 55 = .ok (.iload 4, 2) := by decide +kernel
theorem dX4_insert_57 : decode cX4_insert 57 = .ok (.iload_n 1, 1) := by decide +kernel
theorem dX4_insert_58 : decode cX4_insert 58 = .ok (.invokestatic 52, 3) := by decide +kernel
theorem dX4_insert_61 : decode cX4_insert 61 = .ok (.aload_n 0, 1) := by decide +kernel
theorem dX4_insert_62 : decode cX4_insert 62 = .ok (.getfield 15, 3) := by decide +kernel
theorem dX4_insert_65 : decode cX4_insert 65 = .ok (.iload 4, 2) := by decide +kernel
theorem dX4_insert_67 : decode cX4_insert 67 = .ok (.iload_n 2, 1) := by decide +kernel
theorem dX4_insert_68 : decode cX4_insert 68 = .ok (.invokestatic 52, 3) := by decide +kernel
theorem dX4_insert_71 : decode cX4_insert 71 = .ok (.aload_n 0, 1) := by decide +kernel
theorem dX4_insert_72 : decode cX4_insert 72 = .ok (.getfield 18, 3) := by decide +kernel
theorem dX4_insert_75 : decode cX4_insert 75 = .ok (.iload 4, 2) := by decide +kernel
theorem dX4_insert_77 : decode cX4_insert 77 = .ok (.iload_n 3, 1) := by decide +kernel
theorem dX4_insert_78 : decode cX4_insert 78 = .ok (.invokestatic 52, 3) := by decide +kernel
theorem dX4_insert_81 : decode cX4_insert 81 = .ok (.iload 4, 2) := by decide +kernel
theorem dX4_insert_83 : decode cX4_insert 83 = .ok (.ireturn, 1) := by decide +kernel
theorem dX4_isAheadOf_0 : decode cX4_isAheadOf 0 = .ok (.iload_n 3, 1) := by decide +kernel
theorem dX4_isAheadOf_1 : decode cX4_isAheadOf 1 = .ok (.aload_n 0, 1) := by decide +kernel
theorem dX4_isAheadOf_2 : decode cX4_isAheadOf 2 = .ok (.getfield 15, 3) := by decide +kernel
theorem dX4_isAheadOf_5 : decode cX4_isAheadOf 5 = .ok (.iload_n 1, 1) := by decide +kernel
theorem dX4_isAheadOf_6 : decode cX4_isAheadOf 6 = .ok (.invokestatic 29, 3) := by decide +kernel
theorem dX4_isAheadOf_9 : decode cX4_isAheadOf 9 = .ok (.if_icmp .eq 21, 3) := by decide +kernel
theorem dX4_isAheadOf_12 : decode cX4_isAheadOf 12 = .ok (.iload_n 3, 1) := by decide +kernel
theorem dX4_isAheadOf_13 : decode cX4_isAheadOf 13 = .ok (.aload_n 0, 1) := by decide +kernel
theorem dX4_isAheadOf_14 : decode cX4_isAheadOf 14 = .ok (.getfield 15, 3) := by decide +kernel
theorem dX4_isAheadOf_17 : decode cX4_isAheadOf 17 = .ok (.iload_n 1, 1) := by decide +kernel
theorem dX4_isAheadOf_18 : decode cX4_isAheadOf 18 = .ok (.invokestatic 29, 3) := by decide +kernel
theorem dX4_isAheadOf_21 : decode cX4_isAheadOf 21 = .ok (.if_icmp .ge 7, 3) := by decide +kernel
theorem dX4_isAheadOf_24 : decode cX4_isAheadOf 24 = .ok (.iconst 1, 1) := by decide +kernel
theorem dX4_isAheadOf_25 : decode cX4_isAheadOf 25 = .ok (.goto 4, 3) := by decide +kernel
theorem dX4_isAheadOf_28 : decode cX4_isAheadOf 28 = .ok (.iconst 0, 1) := by decide +kernel
theorem dX4_isAheadOf_29 : decode cX4_isAheadOf 29 = .ok (.ireturn, 1) := by decide +kernel
theorem dX4_isAheadOf_30 : decode cX4_isAheadOf 30 = .ok (.iload 4, 2) := by decide +kernel
theorem dX4_isAheadOf_32 : decode cX4_isAheadOf 32 = .ok (.aload_n 0, 1) := by decide +kernel
theorem dX4_isAheadOf_33 : decode cX4_isAheadOf 33 = .ok (.getfield 18, 3) := by decide +kernel
theorem dX4_isAheadOf_36 : decode cX4_isAheadOf 36 = .ok (.iload_n 1, 1) := by decide +kernel
theorem dX4_isAheadOf_37 : decode cX4_isAheadOf 37 = .ok (.invokestatic 29, 3) := by decide +kernel
theorem dX4_isAheadOf_40 : decode cX4_isAheadOf 40 = .ok (.if_icmp .eq 22, 3) := by decide +kernel
theorem dX4_isAheadOf_43 : decode cX4_isAheadOf 43 = .ok (.iload 4, 2) := by decide +kernel
theorem dX4_isAheadOf_45 : decode cX4_isAheadOf 45 = .ok (.aload_n 0, 1) := by decide +kernel
theorem dX4_isAheadOf_46 : decode cX4_isAheadOf 46 = .ok (.getfield 18, 3) := by decide +kernel
theorem dX4_isAheadOf_49 : decode cX4_isAheadOf 49 = .ok (.iload_n 1, 1) := by decide +kernel
theorem dX4_isAheadOf_50 : decode cX4_isAheadOf 50 = .ok (.invokestatic 29, 3) := by decide +kernel
theorem dX4_isAheadOf_53 : decode cX4_isAheadOf 53 = .ok (.if_icmp .le 7, 3) := by decide +kernel
theorem dX4_isAheadOf_56 : decode cX4_isAheadOf 56 = .ok (.iconst 1, 1) := by decide +kernel
theorem dX4_isAheadOf_57 : decode cX4_isAheadOf 57 = .ok (.goto 4, 3) := by decide +kernel
theorem dX4_isAheadOf_60 : decode cX4_isAheadOf 60 = .ok (.iconst 0, 1) := by decide +kernel
theorem dX4_isAheadOf_61 : decode cX4_isAheadOf 61 = .ok (.ireturn, 1) := by decide +kernel
theorem dX4_isAheadOf_62 : decode cX4_isAheadOf 62 = .ok (.iload_n 2, 1) := by decide +kernel
theorem dX4_isAheadOf_63 : decode cX4_isAheadOf 63 = .ok (.aload_n 0, 1) := by decide +kernel
theorem dX4_isAheadOf_64 : decode cX4_isAheadOf 64 = .ok (.getfield 9, 3) := by decide +kernel
theorem dX4_isAheadOf_67 : decode cX4_isAheadOf 67 = .ok (.iload_n 1, 1) := by decide +kernel
theorem dX4_isAheadOf_68 : decode cX4_isAheadOf 68 = .ok (.invokestatic 29, 3) := by decide +kernel
theorem dX4_isAheadOf_71 : decode cX4_isAheadOf 71 = .ok (.if_icmp .ge 7, 3) := by decide +kernel
theorem dX4_isAheadOf_74 : decode cX4_isAheadOf 74 = .ok (.iconst 1, 1) := by decide +kernel
theorem dX4_isAheadOf_75 : decode cX4_isAheadOf 75 = .ok (.goto 4, 3) := by decide +kernel
theorem dX4_isAheadOf_78 : decode cX4_isAheadOf 78 = .ok (.iconst 0, 1) := by decide +kernel
theorem dX4_isAheadOf_79 : decode cX4_isAheadOf 79 = .ok (.ireturn, 1) := by decide +kernel
theorem dX4_carry_0 : decode cX4_carry 0 = .ok (.aload_n 0, 1) := by decide +kernel
theorem dX4_carry_1 : decode cX4_carry 1 = .ok (.getfield 9, 3) := by decide +kernel
theorem dX4_carry_4 : decode cX4_carry 4 = .ok (.iload_n 2, 1) := by decide +kernel
theorem dX4_carry_5 : decode cX4_carry 5 = .ok (.aload_n 0, 1) := by decide +kernel
theorem dX4_carry_6 : decode cX4_carry 6 = .ok (.getfield 9, 3) := by decide +kernel
theorem dX4_carry_9 : decode cX4_carry 9 = .ok (.iload_n 1, 1) := by decide +kernel
theorem dX4_carry_10 : decode cX4_carry 10 = .ok (.invokestatic 29, 3) := by decide +kernel
theorem dX4_carry_13 : decode cX4_carry 13 = .ok (.invokestatic 52, 3) := by decide +kernel
theorem dX4_carry_16 : decode cX4_carry 16 = .ok (.aload_n 0, 1) := by decide +kernel
theorem dX4_carry_17 : decode cX4_carry 17 = .ok (.getfield 15, 3) := by decide +kernel
theorem dX4_carry_20 : decode cX4_carry 20 = .ok (.iload_n 2, 1) := by decide +kernel
theorem dX4_carry_21 : decode cX4_carry 21 = .ok (.aload_n 0, 1) := by decide +kernel
theorem dX4_carry_22 : decode cX4_carry 22 = .ok (.getfield 15, 3) := by decide +kernel
theorem dX4_carry_25 : decode cX4_carry 25 = .ok (.iload_n 1, 1) := by decide +kernel
theorem dX4_carry_26 : decode cX4_carry 26 = .ok (.invokestatic 29, 3) := by decide +kernel
theorem dX4_carry_29 : decode cX4_carry 29 = .ok (.invokestatic 52, 3) := by decide +kernel
theorem dX4_carry_32 : decode cX4_carry 32 = .ok (.aload_n 0, 1) := by decide +kernel
theorem dX4_carry_33 : decode cX4_carry 33 = .ok (.getfield 18, 3) := by decide +kernel
theorem dX4_carry_36 : decode cX4_carry 36 = .ok (.iload_n 2, 1) := by decide +kernel
theorem dX4_carry_37 : decode cX4_carry 37 = .ok (.aload_n 0, 1) := by decide +kernel
theorem dX4_carry_38 : decode cX4_carry 38 = .ok (.getfield 18, 3) := by decide +kernel
theorem dX4_carry_41 : decode cX4_carry 41 = .ok (.iload_n 1, 1) := by decide +kernel
theorem dX4_carry_42 : decode cX4_carry 42 = .ok (.invokestatic 29, 3) := by decide +kernel
theorem dX4_carry_45 : decode cX4_carry 45 = .ok (.invokestatic 52, 3) := by decide +kernel
theorem dX4_carry_48 : decode cX4_carry 48 = .ok (.return_, 1) := by decide +kernel
theorem dX4_removeFirst_0 : decode cX4_removeFirst 0 = .ok (.iconst 1, 1) := by decide +kernel
theorem dX4_removeFirst_1 : decode cX4_removeFirst 1 = .ok (.istore_n 1, 1) := by decide +kernel
theorem dX4_removeFirst_2 : decode cX4_removeFirst 2 = .ok (.iload_n 1, 1) := by decide +kernel
theorem dX4_removeFirst_3 : decode cX4_removeFirst 3 = .ok (.aload_n 0, 1) := by decide +kernel
theorem dX4_removeFirst_4 : decode cX4_removeFirst 4 = .ok (.getfield 21, 3) := by decide +kernel
theorem dX4_removeFirst_7 : decode cX4_removeFirst 7 = .ok (.if_icmp .ge 17, 3) := by decide +kernel
theorem dX4_removeFirst_10 : decode cX4_removeFirst 10 = .ok (.aload_n 0, 1) := by decide +kernel
theorem dX4_removeFirst_11 : decode cX4_removeFirst 11 = .ok (.iload_n 1, 1) := by decide +kernel
theorem dX4_removeFirst_12 : decode cX4_removeFirst 12 = .ok (.iload_n 1, 1) := by decide +kernel
theorem dX4_removeFirst_13 : decode cX4_removeFirst 13 = .ok (.iconst 1, 1) := by decide +kernel
theorem dX4_removeFirst_14 : decode cX4_removeFirst 14 = .ok (.isub, 1) := by decide +kernel
theorem dX4_removeFirst_15 : decode cX4_removeFirst 15 = .ok (.invokevirtual 48, 3) := by decide +kernel
theorem dX4_removeFirst_18 : decode cX4_removeFirst 18 = .ok (.iinc 1 1, 3) := by decide +kernel
theorem dX4_removeFirst_21 : decode cX4_removeFirst 21 = .ok (.goto (-19), 3) := by decide +kernel
theorem dX4_removeFirst_24 : decode cX4_removeFirst 24 = .ok (.aload_n 0, 1) := by decide +kernel
theorem dX4_removeFirst_25 : decode cX4_removeFirst 25 = .ok (.aload_n 0, 1) := by decide +kernel
theorem dX4_removeFirst_26 : decode cX4_removeFirst 26 = .ok (.getfield 21, 3) := by decide +kernel
theorem dX4_removeFirst_29 : decode cX4_removeFirst 29 = .ok (.iconst 1, 1) := by decide +kernel
theorem dX4_removeFirst_30 : decode cX4_removeFirst 30 = .ok (.isub, 1) := by decide +kernel
theorem dX4_removeFirst_31 : decode cX4_removeFirst 31 = .ok (.iconst 0, 1) := by decide +kernel
theorem dX4_removeFirst_32 : decode cX4_removeFirst 32 = .ok (.invokestatic 56, 3) := by decide +kernel
theorem dX4_removeFirst_35 : decode cX4_removeFirst 35 = .ok (.putfield 21, 3) := by decide +kernel
theorem dX4_removeFirst_38 : decode cX4_removeFirst 38 = .ok (.return_, 1) := by decide +kernel
theorem dX4_removeAllOf_0 : decode cX4_removeAllOf 0 = .ok (.iconst 0, 1) := by decide +kernel
theorem dX4_removeAllOf_1 : decode cX4_removeAllOf 1 = .ok (.istore_n 2, 1) := by decide +kernel
theorem dX4_removeAllOf_2 : decode cX4_removeAllOf 2 = .ok (.iconst 0, 1) := by decide +kernel
theorem dX4_removeAllOf_3 : decode cX4_removeAllOf 3 = .ok (.istore_n 3, 1) := by decide +kernel
theorem dX4_removeAllOf_4 : decode cX4_removeAllOf 4 = .ok (.iload_n 3, 1) := by decide +kernel
theorem dX4_removeAllOf_5 : decode cX4_removeAllOf 5 = .ok (.aload_n 0, 1) := by decide +kernel
theorem dX4_removeAllOf_6 : decode cX4_removeAllOf 6 = .ok (.getfield 21, 3) := by decide +kernel
theorem dX4_removeAllOf_9 : decode cX4_removeAllOf 9 = .ok (.if_icmp .ge 30, 3) := by decide +kernel
theorem dX4_removeAllOf_12 : decode cX4_removeAllOf 12 = .ok (.aload_n 0, 1) := by decide +kernel
theorem dX4_removeAllOf_13 : decode cX4_removeAllOf 13 = .ok (.getfield 9, 3) := by decide +kernel
theorem dX4_removeAllOf_16 : decode cX4_removeAllOf 16 = .ok (.iload_n 3, 1) := by decide +kernel
theorem dX4_removeAllOf_17 : decode cX4_removeAllOf 17 = .ok (.invokestatic 29, 3) := by decide +kernel
theorem dX4_removeAllOf_20 : decode cX4_removeAllOf 20 = .ok (.iload_n 1, 1) := by decide +kernel
theorem dX4_removeAllOf_21 : decode cX4_removeAllOf 21 = .ok (.if_icmp .eq 12, 3) := by decide +kernel
theorem dX4_removeAllOf_24 : decode cX4_removeAllOf 24 = .ok (.aload_n 0, 1) := by decide +kernel
theorem dX4_removeAllOf_25 : decode cX4_removeAllOf 25 = .ok (.iload_n 3, 1) := by decide +kernel
theorem dX4_removeAllOf_26 : decode cX4_removeAllOf 26 = .ok (.iload_n 2, 1) := by decide +kernel
theorem dX4_removeAllOf_27 : decode cX4_removeAllOf 27 = .ok (.invokevirtual 48, 3) := by decide +kernel
theorem dX4_removeAllOf_30 : decode cX4_removeAllOf 30 = .ok (.iinc 2 1, 3) := by decide +kernel
theorem dX4_removeAllOf_33 : decode cX4_removeAllOf 33 = .ok (.iinc 3 1, 3) := by decide +kernel
theorem dX4_removeAllOf_36 : decode cX4_removeAllOf 36 = .ok (.goto (-32), 3) := by decide +kernel
theorem dX4_removeAllOf_39 : decode cX4_removeAllOf 39 = .ok (.aload_n 0, 1) := by decide +kernel
theorem dX4_removeAllOf_40 : decode cX4_removeAllOf 40 = .ok (.iload_n 2, 1) := by decide +kernel
theorem dX4_removeAllOf_41 : decode cX4_removeAllOf 41 = .ok (.putfield 21, 3) := by decide +kernel
theorem dX4_removeAllOf_44 : decode cX4_removeAllOf 44 = .ok (.return_, 1) := by decide +kernel
theorem dX5_init_0 : decode cX5_init 0 = .ok (.aload_n 0, 1) := by decide +kernel
theorem dX5_init_1 : decode cX5_init 1 = .ok (.invokespecial 3, 3) := by decide +kernel
theorem dX5_init_4 : decode cX5_init 4 = .ok (.aload_n 0, 1) := by decide +kernel
theorem dX5_init_5 : decode cX5_init 5 = .ok (.bipush 12, 2) := by decide +kernel
theorem dX5_init_7 : decode cX5_init 7 = .ok (.newarray .int, 2) := by decide +kernel
theorem dX5_init_9 : decode cX5_init 9 = .ok (.putfield 9, 3) := by decide +kernel
theorem dX5_init_12 : decode cX5_init 12 = .ok (.aload_n 0, 1) := by decide +kernel
theorem dX5_init_13 : decode cX5_init 13 = .ok (.bipush 12, 2) := by decide +kernel
theorem dX5_init_15 : decode cX5_init 15 = .ok (.newarray .int, 2) := by decide +kernel
theorem dX5_init_17 : decode cX5_init 17 = .ok (.putfield 15, 3) := by decide +kernel
theorem dX5_init_20 : decode cX5_init 20 = .ok (.aload_n 0, 1) := by decide +kernel
theorem dX5_init_21 : decode cX5_init 21 = .ok (.bipush 12, 2) := by decide +kernel
theorem dX5_init_23 : decode cX5_init 23 = .ok (.newarray .int, 2) := by decide +kernel
theorem dX5_init_25 : decode cX5_init 25 = .ok (.putfield 18, 3) := by decide +kernel
theorem dX5_init_28 : decode cX5_init 28 = .ok (.aload_n 0, 1) := by decide +kernel
theorem dX5_init_29 : decode cX5_init 29 = .ok (.bipush 12, 2) := by decide +kernel
theorem dX5_init_31 : decode cX5_init 31 = .ok (.newarray .int, 2) := by decide +kernel
theorem dX5_init_33 : decode cX5_init 33 = .ok (.putfield 21, 3) := by decide +kernel
theorem dX5_init_36 : decode cX5_init 36 = .ok (.aload_n 0, 1) := by decide +kernel
theorem dX5_init_37 : decode cX5_init 37 = .ok (.bipush 12, 2) := by decide +kernel
theorem dX5_init_39 : decode cX5_init 39 = .ok (.newarray .int, 2) := by decide +kernel
theorem dX5_init_41 : decode cX5_init 41 = .ok (.putfield 24, 3) := by decide +kernel
theorem dX5_init_44 : decode cX5_init 44 = .ok (.aload_n 0, 1) := by decide +kernel
theorem dX5_init_45 : decode cX5_init 45 = .ok (.bipush 12, 2) := by decide +kernel
theorem dX5_init_47 : decode cX5_init 47 = .ok (.newarray .int, 2) := by decide +kernel
theorem dX5_init_49 : decode cX5_init 49 = .ok (.putfield 27, 3) := by decide +kernel
theorem dX5_init_52 : decode cX5_init 52 = .ok (.return_, 1) := by decide +kernel
theorem dX5_copyFrom_0 : decode cX5_copyFrom 0 = .ok (.aload_n 0, 1) := by decide +kernel
theorem dX5_copyFrom_1 : decode cX5_copyFrom 1 = .ok (.aload_n 1, 1) := by decide +kernel
theorem dX5_copyFrom_2 : decode cX5_copyFrom 2 = .ok (.getfield 30, 3) := by decide +kernel
theorem dX5_copyFrom_5 : decode cX5_copyFrom 5 = .ok (.putfield 30, 3) := by decide +kernel
theorem dX5_copyFrom_8 : decode cX5_copyFrom 8 = .ok (.aload_n 1, 1) := by decide +kernel
theorem dX5_copyFrom_9 : decode cX5_copyFrom 9 = .ok (.getfield 9, 3) := by decide +kernel
theorem dX5_copyFrom_12 : decode cX5_copyFrom 12 = .ok (.aload_n 0, 1) := by decide +kernel
theorem dX5_copyFrom_13 : decode cX5_copyFrom 13 = .ok (.getfield 9, 3) := by decide +kernel
theorem dX5_copyFrom_16 : decode cX5_copyFrom 16 = .ok (.invokestatic 34, 3) := by decide +kernel
theorem dX5_copyFrom_19 : decode cX5_copyFrom 19 = .ok (.aload_n 1, 1) := by decide +kernel
theorem dX5_copyFrom_20 : decode cX5_copyFrom 20 = .ok (.getfield 15, 3) := by decide +kernel
theorem dX5_copyFrom_23 : decode cX5_copyFrom 23 = .ok (.aload_n 0, 1) := by decide +kernel
theorem dX5_copyFrom_24 : decode cX5_copyFrom 24 = .ok (.getfield 15, 3) := by decide +kernel
theorem dX5_copyFrom_27 : decode cX5_copyFrom 27 = .ok (.invokestatic 34, 3) := by decide +kernel
theorem dX5_copyFrom_30 : decode cX5_copyFrom 30 = .ok (.aload_n 1, 1) := by decide +kernel
theorem dX5_copyFrom_31 : decode cX5_copyFrom 31 = .ok (.getfield 18, 3) := by decide +kernel
theorem dX5_copyFrom_34 : decode cX5_copyFrom 34 = .ok (.aload_n 0, 1) := by decide +kernel
theorem dX5_copyFrom_35 : decode cX5_copyFrom 35 = .ok (.getfield 18, 3) := by decide +kernel
theorem dX5_copyFrom_38 : decode cX5_copyFrom 38 = .ok (.invokestatic 34, 3) := by decide +kernel
theorem dX5_copyFrom_41 : decode cX5_copyFrom 41 = .ok (.aload_n 1, 1) := by decide +kernel
theorem dX5_copyFrom_42 : decode cX5_copyFrom 42 = .ok (.getfield 21, 3) := by decide +kernel
theorem dX5_copyFrom_45 : decode cX5_copyFrom 45 = .ok (.aload_n 0, 1) := by decide +kernel
theorem dX5_copyFrom_46 : decode cX5_copyFrom 46 = .ok (.getfield 21, 3) := by decide +kernel
theorem dX5_copyFrom_49 : decode cX5_copyFrom 49 = .ok (.invokestatic 34, 3) := by decide +kernel
theorem dX5_copyFrom_52 : decode cX5_copyFrom 52 = .ok (.aload_n 1, 1) := by decide +kernel
theorem dX5_copyFrom_53 : decode cX5_copyFrom 53 = .ok (.getfield 24, 3) := by decide +kernel
theorem dX5_copyFrom_56 : decode cX5_copyFrom 56 = .ok (.aload_n 0, 1) := by decide +kernel
theorem dX5_copyFrom_57 : decode cX5_copyFrom 57 = .ok (.getfield 24, 3) := by decide +kernel
theorem dX5_copyFrom_60 : decode cX5_copyFrom 60 = .ok (.invokestatic 34, 3) := by decide +kernel
theorem dX5_copyFrom_63 : decode cX5_copyFrom 63 = .ok (.aload_n 1, 1) := by decide +kernel
theorem dX5_copyFrom_64 : decode cX5_copyFrom 64 = .ok (.getfield 27, 3) := by decide +kernel
theorem dX5_copyFrom_67 : decode cX5_copyFrom 67 = .ok (.aload_n 0, 1) := by decide +kernel
theorem dX5_copyFrom_68 : decode cX5_copyFrom 68 = .ok (.getfield 27, 3) := by decide +kernel
theorem dX5_copyFrom_71 : decode cX5_copyFrom 71 = .ok (.invokestatic 34, 3) := by decide +kernel
theorem dX5_copyFrom_74 : decode cX5_copyFrom 74 = .ok (.return_, 1) := by decide +kernel
theorem dX5_has_0 : decode cX5_has 0 = .ok (.iload_n 1, 1) := by decide +kernel
theorem dX5_has_1 : decode cX5_has 1 = .ok (.ifCond .lt 15, 3) := by decide +kernel
theorem dX5_has_4 : decode cX5_has 4 = .ok (.iload_n 1, 1) := by decide +kernel
theorem dX5_has_5 : decode cX5_has 5 = .ok (.aload_n 0, 1) := by decide +kernel
theorem dX5_has_6 : decode cX5_has 6 = .ok (.getfield 30, 3) := by decide +kernel
theorem dX5_has_9 : decode cX5_has 9 = .ok (.if_icmp .ge 7, 3) := by decide +kernel
theorem dX5_has_12 : decode cX5_has 12 = .ok (.iconst 1, 1) := by decide +kernel
theorem dX5_has_13 : decode cX5_has 13 = .ok (.goto 4, 3) := by decide +kernel
theorem dX5_has_16 : decode cX5_has 16 = .ok (.iconst 0, 1) := by decide +kernel
theorem dX5_has_17 : decode cX5_has 17 = .ok (.ireturn, 1) := by decide +kernel
theorem dX5_bring_0 : decode cX5_bring 0 = .ok (.aload_n 0, 1) := by decide +kernel
theorem dX5_bring_1 : decode cX5_bring 1 = .ok (.getfield 30, 3) := by decide +kernel
theorem dX5_bring_4 : decode cX5_bring 4 = .ok (.istore_n 2, 1) := by decide +kernel
theorem dX5_bring_5 : decode cX5_bring 5 = .ok (.aload_n 0, 1) := by decide +kernel
theorem dX5_bring_6 : decode cX5_bring 6 = .ok (.dup, 1) := by decide +kernel
theorem dX5_bring_7 : decode cX5_bring 7 = .ok (.getfield 30, 3) := by decide +kernel
theorem dX5_bring_10 : decode cX5_bring 10 = .ok (.iconst 1, 1) := by decide +kernel
theorem dX5_bring_11 : decode cX5_bring 11 = .ok (.iadd, 1) := by decide +kernel
theorem dX5_bring_12 : decode cX5_bring 12 = .ok (.putfield 30, 3) := by decide +kernel
theorem dX5_bring_15 : decode cX5_bring 15 = .ok (.aload_n 0, 1) := by decide +kernel
theorem dX5_bring_16 : decode cX5_bring 16 = .ok (.getfield 9, 3) := by decide +kernel
theorem dX5_bring_19 : decode cX5_bring 19 = .ok (.iload_n 2, 1) := by decide +kernel
theorem dX5_bring_20 : decode cX5_bring 20 = .ok (.iload_n 1, 1) := by decide +kernel
theorem dX5_bring_21 : decode cX5_bring 21 = .ok (.invokestatic 38, 3) := by decide +kernel
theorem dX5_bring_24 : decode cX5_bring 24 = .ok (.aload_n 0, 1) := by decide +kernel
theorem dX5_bring_25 : decode cX5_bring 25 = .ok (.getfield 15, 3) := by decide +kernel
theorem dX5_bring_28 : decode cX5_bring 28 = .ok (.iload_n 2, 1) := by decide +kernel
theorem dX5_bring_29 : decode cX5_bring 29 = .ok (.iconst 1, 1) := by decide +kernel
theorem dX5_bring_30 : decode cX5_bring 30 = .ok (.invokestatic 38, 3) := by decide +kernel
theorem dX5_bring_33 : decode cX5_bring 33 = .ok (.iload_n 2, 1) := by decide +kernel
theorem dX5_bring_34 : decode cX5_bring 34 = .ok (.ireturn, 1) := by decide +kernel
theorem dX5_isEnough_0 : decode cX5_isEnough 0 = .ok (.aload_n 0, 1) := by decide +kernel
theorem dX5_isEnough_1 : decode cX5_isEnough 1 = .ok (.getfield 15, 3) := by decide +kernel
theorem dX5_isEnough_4 : decode cX5_isEnough 4 = .ok (.iload_n 1, 1) := by decide +kernel
theorem dX5_isEnough_5 : decode cX5_isEnough 5 = .ok (.invokestatic 42, 3) := by decide +kernel
theorem dX5_isEnough_8 : decode cX5_isEnough 8 = .ok (.iconst 1, 1) := by decide +kernel
theorem dX5_isEnough_9 : decode cX5_isEnough 9 = .ok (.if_icmp .ne 19, 3) := by decide +kernel
theorem dX5_isEnough_12 : decode cX5_isEnough 12 = .ok (.iload_n 2, 1) := by decide +kernel
theorem dX5_isEnough_13 : decode cX5_isEnough 13 = .ok (.aload_n 0, 1) := by decide +kernel
theorem dX5_isEnough_14 : decode cX5_isEnough 14 = .ok (.getfield 18, 3) := by decide +kernel
theorem dX5_isEnough_17 : decode cX5_isEnough 17 = .ok (.iload_n 1, 1) := by decide +kernel
theorem dX5_isEnough_18 : decode cX5_isEnough 18 = .ok (.invokestatic 42, 3) := by decide +kernel
theorem dX5_isEnough_21 : decode cX5_isEnough 21 = .ok (.if_icmp .le 7, 3) := by decide +kernel
theorem dX5_isEnough_24 : decode cX5_isEnough 24 = .ok (.iconst 1, 1) := by decide +kernel
theorem dX5_isEnough_25 : decode cX5_isEnough 25 = .ok (.goto 4, 3) := by decide +kernel
theorem dX5_isEnough_28 : decode cX5_isEnough 28 = .ok (.iconst 0, 1) := by decide +kernel
theorem dX5_isEnough_29 : decode cX5_isEnough 29 = .ok (.ireturn, 1) := by decide +kernel
theorem dX5_becomeRustier_0 : decode cX5_becomeRustier 0 = .ok (.aload_n 0, 1) := by decide +kernel
theorem dX5_becomeRustier_1 : decode cX5_becomeRustier 1 = .ok (.getfield 18, 3) := by decide +kernel
theorem dX5_becomeRustier_4 : decode cX5_becomeRustier 4 = .ok (.iload_n 1, 1) := by decide +kernel
theorem dX5_becomeRustier_5 : decode cX5_becomeRustier 5 = .ok (.aload_n 0, 1) := by decide +kernel
theorem dX5_becomeRustier_6 : decode cX5_becomeRustier 6 = .ok (.getfield 18, 3) := by decide +kernel
theorem dX5_becomeRustier_9 : decode cX5_becomeRustier 9 = .ok (.iload_n 1, 1) := by decide +kernel
theorem dX5_becomeRustier_10 : decode cX5_becomeRustier 10 = .ok (.invokestatic 42, 3) := by decide +kernel
theorem dX5_becomeRustier_13 : decode cX5_becomeRustier 13 = .ok (.iconst 1, 1) := by decide +kernel
theorem dX5_becomeRustier_14 : decode cX5_becomeRustier 14 = .ok (.iadd, 1) := by decide +kernel
theorem dX5_becomeRustier_15 : decode cX5_becomeRustier 15 = .ok (.bipush 9, 2) := by decide +kernel
theorem dX5_becomeRustier_17 : decode cX5_becomeRustier 17 = .ok (.invokestatic 46, 3) := by decide +kernel
theorem dX5_becomeRustier_20 : decode cX5_becomeRustier 20 = .ok (.invokestatic 38, 3) := by decide +kernel
theorem dX5_becomeRustier_23 : decode cX5_becomeRustier 23 = .ok (.return_, 1) := by decide +kernel
theorem dX5_loseRust_0 : decode cX5_loseRust 0 = .ok (.iconst 0, 1) := by decide +kernel
theorem dX5_loseRust_1 : decode cX5_loseRust 1 = .ok (.istore_n 2, 1) := by decide +kernel
theorem dX5_loseRust_2 : decode cX5_loseRust 2 = .ok (.iload_n 2, 1) := by decide +kernel
theorem dX5_loseRust_3 : decode cX5_loseRust 3 = .ok (.aload_n 0, 1) := by decide +kernel
theorem dX5_loseRust_4 : decode cX5_loseRust 4 = .ok (.getfield 30, 3) := by decide +kernel
theorem dX5_loseRust_7 : decode cX5_loseRust 7 = .ok (.if_icmp .ge 39, 3) := by decide +kernel
theorem dX5_loseRust_10 : decode cX5_loseRust 10 = .ok (.iload_n 1, 1) := by decide +kernel
theorem dX5_loseRust_11 : decode cX5_loseRust 11 = .ok (.iload_n 2, 1) := by decide +kernel
theorem dX5_loseRust_12 : decode cX5_loseRust 12 = .ok (.invokestatic 52, 3) := by decide +kernel
theorem dX5_loseRust_15 : decode cX5_loseRust 15 = .ok (.ifCond .ne 25, 3) := by decide +kernel
theorem dX5_loseRust_18 : decode cX5_loseRust 18 = .ok (.aload_n 0, 1) := by decide +kernel
theorem dX5_loseRust_19 : decode cX5_loseRust 19 = .ok (.getfield 18, 3) := by decide +kernel
theorem dX5_loseRust_22 : decode cX5_loseRust 22 = .ok (.iload_n 2, 1) := by decide +kernel
theorem dX5_loseRust_23 : decode cX5_loseRust 23 = .ok (.aload_n 0, 1) := by decide +kernel
theorem dX5_loseRust_24 : decode cX5_loseRust 24 = .ok (.getfield 18, 3) := by decide +kernel
theorem dX5_loseRust_27 : decode cX5_loseRust 27 = .ok (.iload_n 2, 1) := by decide +kernel
theorem dX5_loseRust_28 : decode cX5_loseRust 28 = .ok (.invokestatic 42, 3) := by decide +kernel
theorem dX5_loseRust_31 : decode cX5_loseRust 31 = .ok (.iconst 1, 1) := by decide +kernel
theorem dX5_loseRust_32 : decode cX5_loseRust 32 = .ok (.isub, 1) := by decide +kernel
theorem dX5_loseRust_33 : decode cX5_loseRust 33 = .ok (.iconst 0, 1) := by decide +kernel
theorem dX5_loseRust_34 : decode cX5_loseRust 34 = .ok (.invokestatic 56, 3) := by decide +kernel
theorem dX5_loseRust_37 : decode cX5_loseRust 37 = .ok (.invokestatic 38, 3) := by decide +kernel
theorem dX5_loseRust_40 : decode cX5_loseRust 40 = .ok (.iinc 2 1, 3) := by decide +kernel
theorem dX5_loseRust_43 : decode cX5_loseRust 43 = .ok (.goto (-41), 3) := by decide +kernel
theorem dX5_loseRust_46 : decode cX5_loseRust 46 = .ok (.return_, 1) := by decide +kernel
theorem dX5_setOfAll_0 : decode cX5_setOfAll 0 = .ok (.aload_n 0, 1) := by decide +kernel
theorem dX5_setOfAll_1 : decode cX5_setOfAll 1 = .ok (.getfield 30, 3) := by decide +kernel
theorem dX5_setOfAll_4 : decode cX5_setOfAll 4 = .ok (.invokestatic 59, 3) := by decide +kernel
theorem dX5_setOfAll_7 : decode cX5_setOfAll 7 = .ok (.iconst 1, 1) := by decide +kernel
theorem dX5_setOfAll_8 : decode cX5_setOfAll 8 = .ok (.isub, 1) := by decide +kernel
theorem dX5_setOfAll_9 : decode cX5_setOfAll 9 = .ok (.ireturn, 1) := by decide +kernel
theorem dX5_setOf_0 : decode cX5_setOf 0 = .ok (.iconst 0, 1) := by decide +kernel
theorem dX5_setOf_1 : decode cX5_setOf 1 = .ok (.istore_n 2, 1) := by decide +kernel
theorem dX5_setOf_2 : decode cX5_setOf 2 = .ok (.iconst 0, 1) := by decide +kernel
theorem dX5_setOf_3 : decode cX5_setOf 3 = .ok (.istore_n 3, 1) := by decide +kernel
theorem dX5_setOf_4 : decode cX5_setOf 4 = .ok (.iload_n 3, 1) := by decide +kernel
theorem dX5_setOf_5 : decode cX5_setOf 5 = .ok (.aload_n 0, 1) := by decide +kernel
theorem dX5_setOf_6 : decode cX5_setOf 6 = .ok (.getfield 30, 3) := by decide +kernel
theorem dX5_setOf_9 : decode cX5_setOf 9 = .ok (.if_icmp .ge 28, 3) := by decide +kernel
theorem dX5_setOf_12 : decode cX5_setOf 12 = .ok (.aload_n 0, 1) := by decide +kernel
theorem dX5_setOf_13 : decode cX5_setOf 13 = .ok (.getfield 9, 3) := by decide +kernel
theorem dX5_setOf_16 : decode cX5_setOf 16 = .ok (.iload_n 3, 1) := by decide +kernel
theorem dX5_setOf_17 : decode cX5_setOf 17 = .ok (.invokestatic 42, 3) := by decide +kernel
theorem dX5_setOf_20 : decode cX5_setOf 20 = .ok (.iload_n 1, 1) := by decide +kernel
theorem dX5_setOf_21 : decode cX5_setOf 21 = .ok (.if_icmp .ne 10, 3) := by decide +kernel
theorem dX5_setOf_24 : decode cX5_setOf 24 = .ok (.iload_n 2, 1) := by decide +kernel
theorem dX5_setOf_25 : decode cX5_setOf 25 = .ok (.iload_n 3, 1) := by decide +kernel
theorem dX5_setOf_26 : decode cX5_setOf 26 = .ok (.invokestatic 59, 3) := by decide +kernel
theorem dX5_setOf_29 : decode cX5_setOf 29 = .ok (.ior, 1) := by decide +kernel
theorem dX5_setOf_30 : decode cX5_setOf 30 = .ok (.istore_n 2, 1) := by decide +kernel
theorem dX5_setOf_31 : decode cX5_setOf 31 = .ok (.iinc 3 1, 3) := by decide +kernel
theorem dX5_setOf_34 : decode cX5_setOf 34 = .ok (.goto (-30), 3) := by decide +kernel
theorem dX5_setOf_37 : decode cX5_setOf 37 = .ok (.iload_n 2, 1) := by decide +kernel
theorem dX5_setOf_38 : decode cX5_setOf 38 = .ok (.ireturn, 1) := by decide +kernel
theorem dX5_sumOf_0 : decode cX5_sumOf 0 = .ok (.iconst 0, 1) := by decide +kernel
theorem dX5_sumOf_1 : decode cX5_sumOf 1 = .ok (.istore_n 3, 1) := by decide +kernel
theorem dX5_sumOf_2 : decode cX5_sumOf 2 = .ok (.iconst 0, 1) := by decide +kernel
theorem dX5_sumOf_3 : decode cX5_sumOf 3 = .ok (.istore 4, 2) := by decide +kernel
theorem dX5_sumOf_5 : decode cX5_sumOf 5 = .ok (.iload 4, 2) := by decide +kernel
theorem dX5_sumOf_7 : decode cX5_sumOf 7 = .ok (.aload_n 0, 1) := by decide +kernel
theorem dX5_sumOf_8 : decode cX5_sumOf 8 = .ok (.getfield 30, 3) := by decide +kernel
theorem dX5_sumOf_11 : decode cX5_sumOf 11 = .ok (.if_icmp .ge 31, 3) := by decide +kernel
theorem dX5_sumOf_14 : decode cX5_sumOf 14 = .ok (.aload_n 0, 1) := by decide +kernel
theorem dX5_sumOf_15 : decode cX5_sumOf 15 = .ok (.getfield 9, 3) := by decide +kernel
theorem dX5_sumOf_18 : decode cX5_sumOf 18 = .ok (.iload 4, 2) := by decide +kernel
theorem dX5_sumOf_20 : decode cX5_sumOf 20 = .ok (.invokestatic 42, 3) := by decide +kernel
theorem dX5_sumOf_23 : decode cX5_sumOf 23 = .ok (.iload_n 2, 1) := by decide +kernel
theorem dX5_sumOf_24 : decode cX5_sumOf 24 = .ok (.if_icmp .ne 12, 3) := by decide +kernel
theorem dX5_sumOf_27 : decode cX5_sumOf 27 = .ok (.iload_n 3, 1) := by decide +kernel
theorem dX5_sumOf_28 : decode cX5_sumOf 28 = .ok (.aload_n 1, 1) := by decide +kernel
theorem dX5_sumOf_29 : decode cX5_sumOf 29 = .ok (.iload 4, 2) := by decide +kernel
theorem dX5_sumOf_31 : decode cX5_sumOf 31 = .ok (.invokestatic 42, 3) := by decide +kernel
theorem dX5_sumOf_34 : decode cX5_sumOf 34 = .ok (.iadd, 1) := by decide +kernel
theorem dX5_sumOf_35 : decode cX5_sumOf 35 = .ok (.istore_n 3, 1) := by decide +kernel
theorem dX5_sumOf_36 : decode cX5_sumOf 36 = .ok (.iinc 4 1, 3) := by decide +kernel
theorem dX5_sumOf_39 : decode cX5_sumOf 39 = .ok (.goto (-34), 3) := by decide +kernel
theorem dX5_sumOf_42 : decode cX5_sumOf 42 = .ok (.iload_n 3, 1) := by decide +kernel
theorem dX5_sumOf_43 : decode cX5_sumOf 43 = .ok (.ireturn, 1) := by decide +kernel
theorem dX5_placeByRust_0 : decode cX5_placeByRust 0 = .ok (.iconst 0, 1) := by decide +kernel
theorem dX5_placeByRust_1 : decode cX5_placeByRust 1 = .ok (.istore_n 2, 1) := by decide +kernel
theorem dX5_placeByRust_2 : decode cX5_placeByRust 2 = .ok (.iconst 0, 1) := by decide +kernel
theorem dX5_placeByRust_3 : decode cX5_placeByRust 3 = .ok (.istore_n 3, 1) := by decide +kernel
theorem dX5_placeByRust_4 : decode cX5_placeByRust 4 = .ok (.iload_n 3, 1) := by decide +kernel
theorem dX5_placeByRust_5 : decode cX5_placeByRust 5 = .ok (.aload_n 0, 1) := by decide +kernel
theorem dX5_placeByRust_6 : decode cX5_placeByRust 6 = .ok (.getfield 30, 3) := by decide +kernel
theorem dX5_placeByRust_9 : decode cX5_placeByRust 9 = .ok (.if_icmp .ge 21, 3) := by decide +kernel
theorem dX5_placeByRust_12 : decode cX5_placeByRust 12 = .ok (.aload_n 0, 1) := by decide +kernel
theorem dX5_placeByRust_13 : decode cX5_placeByRust 13 = .ok (.iload_n 3, 1) := by decide +kernel
theorem dX5_placeByRust_14 : decode cX5_placeByRust 14 = .ok (.iload_n 1, 1) := by decide +kernel
theorem dX5_placeByRust_15 : decode cX5_placeByRust 15 = .ok (.invokevirtual 63, 3) := by decide +kernel
theorem dX5_placeByRust_18 : decode cX5_placeByRust 18 = .ok (.ifCond .eq 6, 3) := by decide +kernel
theorem dX5_placeByRust_21 : decode cX5_placeByRust 21 = .ok (.iinc 2 1, 3) := by decide +kernel
theorem dX5_placeByRust_24 : decode cX5_placeByRust 24 = .ok (.iinc 3 1, 3) := by decide +kernel
theorem dX5_placeByRust_27 : decode cX5_placeByRust 27 = .ok (.goto (-23), 3) := by decide +kernel
theorem dX5_placeByRust_30 : decode cX5_placeByRust 30 = .ok (.iload_n 2, 1) := by decide +kernel
theorem dX5_placeByRust_31 : decode cX5_placeByRust 31 = .ok (.ireturn, 1) := by decide +kernel
theorem dX5_isRustier_0 : decode cX5_isRustier 0 = .ok (.aload_n 0, 1) := by decide +kernel
theorem dX5_isRustier_1 : decode cX5_isRustier 1 = .ok (.getfield 18, 3) := by decide +kernel
theorem dX5_isRustier_4 : decode cX5_isRustier 4 = .ok (.iload_n 1, 1) := by decide +kernel
theorem dX5_isRustier_5 : decode cX5_isRustier 5 = .ok (.invokestatic 42, 3) := by decide +kernel
theorem dX5_isRustier_8 : decode cX5_isRustier 8 = .ok (.aload_n 0, 1) := by decide +kernel
theorem dX5_isRustier_9 : decode cX5_isRustier 9 = .ok (.getfield 18, 3) := by decide +kernel
theorem dX5_isRustier_12 : decode cX5_isRustier 12 = .ok (.iload_n 2, 1) := by decide +kernel
theorem dX5_isRustier_13 : decode cX5_isRustier 13 = .ok (.invokestatic 42, 3) := by decide +kernel
theorem dX5_isRustier_16 : decode cX5_isRustier 16 = .ok (.if_icmp .eq 28, 3) := by decide +kernel
theorem dX5_isRustier_19 : decode cX5_isRustier 19 = .ok (.aload_n 0, 1) := by decide +kernel
theorem dX5_isRustier_20 : decode cX5_isRustier 20 = .ok (.getfield 18, 3) := by decide +kernel
theorem dX5_isRustier_23 : decode cX5_isRustier 23 = .ok (.iload_n 1, 1) := by decide +kernel
theorem dX5_isRustier_24 : decode cX5_isRustier 24 = .ok (.invokestatic 42, 3) := by decide +kernel
theorem dX5_isRustier_27 : decode cX5_isRustier 27 = .ok (.aload_n 0, 1) := by decide +kernel
theorem dX5_isRustier_28 : decode cX5_isRustier 28 = .ok (.getfield 18, 3) := by decide +kernel
theorem dX5_isRustier_31 : decode cX5_isRustier 31 = .ok (.iload_n 2, 1) := by decide +kernel
theorem dX5_isRustier_32 : decode cX5_isRustier 32 = .ok (.invokestatic 42, 3) := by decide +kernel
theorem dX5_isRustier_35 : decode cX5_isRustier 35 = .ok (.if_icmp .le 7, 3) := by decide +kernel
theorem dX5_isRustier_38 : decode cX5_isRustier 38 = .ok (.iconst 1, 1) := by decide +kernel
theorem dX5_isRustier_39 : decode cX5_isRustier 39 = .ok (.goto 4, 3) := by decide +kernel
theorem dX5_isRustier_42 : decode cX5_isRustier 42 = .ok (.iconst 0, 1) := by decide +kernel
theorem dX5_isRustier_43 : decode cX5_isRustier 43 = .ok (.ireturn, 1) := by decide +kernel
theorem dX5_isRustier_44 : decode cX5_isRustier 44 = .ok (.aload_n 0, 1) := by decide +kernel
theorem dX5_isRustier_45 : decode cX5_isRustier 45 = .ok (.getfield 21, 3) := by decide +kernel
theorem dX5_isRustier_48 : decode cX5_isRustier 48 = .ok (.iload_n 1, 1) := by decide +kernel
theorem dX5_isRustier_49 : decode cX5_isRustier 49 = .ok (.invokestatic 42, 3) := by decide +kernel
theorem dX5_isRustier_52 : decode cX5_isRustier 52 = .ok (.aload_n 0, 1) := by decide +kernel
theorem dX5_isRustier_53 : decode cX5_isRustier 53 = .ok (.getfield 21, 3) := by decide +kernel
theorem dX5_isRustier_56 : decode cX5_isRustier 56 = .ok (.iload_n 2, 1) := by decide +kernel
theorem dX5_isRustier_57 : decode cX5_isRustier 57 = .ok (.invokestatic 42, 3) := by decide +kernel
theorem dX5_isRustier_60 : decode cX5_isRustier 60 = .ok (.if_icmp .eq 28, 3) := by decide +kernel
theorem dX5_isRustier_63 : decode cX5_isRustier 63 = .ok (.aload_n 0, 1) := by decide +kernel
theorem dX5_isRustier_64 : decode cX5_isRustier 64 = .ok (.getfield 21, 3) := by decide +kernel
theorem dX5_isRustier_67 : decode cX5_isRustier 67 = .ok (.iload_n 1, 1) := by decide +kernel
theorem dX5_isRustier_68 : decode cX5_isRustier 68 = .ok (.invokestatic 42, 3) := by decide +kernel
theorem dX5_isRustier_71 : decode cX5_isRustier 71 = .ok (.aload_n 0, 1) := by decide +kernel
theorem dX5_isRustier_72 : decode cX5_isRustier 72 = .ok (.getfield 21, 3) := by decide +kernel
theorem dX5_isRustier_75 : decode cX5_isRustier 75 = .ok (.iload_n 2, 1) := by decide +kernel
theorem dX5_isRustier_76 : decode cX5_isRustier 76 = .ok (.invokestatic 42, 3) := by decide +kernel
theorem dX5_isRustier_79 : decode cX5_isRustier 79 = .ok (.if_icmp .ge 7, 3) := by decide +kernel
theorem dX5_isRustier_82 : decode cX5_isRustier 82 = .ok (.iconst 1, 1) := by decide +kernel
theorem dX5_isRustier_83 : decode cX5_isRustier 83 = .ok (.goto 4, 3) := by decide +kernel
theorem dX5_isRustier_86 : decode cX5_isRustier 86 = .ok (.iconst 0, 1) := by decide +kernel
theorem dX5_isRustier_87 : decode cX5_isRustier 87 = .ok (.ireturn, 1) := by decide +kernel
theorem dX5_isRustier_88 : decode cX5_isRustier 88 = .ok (.iload_n 1, 1) := by decide +kernel
theorem dX5_isRustier_89 : decode cX5_isRustier 89 = .ok (.iload_n 2, 1) := by decide +kernel
theorem dX5_isRustier_90 : decode cX5_isRustier 90 = .ok (.if_icmp .ge 7, 3) := by decide +kernel
theorem dX5_isRustier_93 : decode cX5_isRustier 93 = .ok (.iconst 1, 1) := by decide +kernel
theorem dX5_isRustier_94 : decode cX5_isRustier 94 = .ok (.goto 4, 3) := by decide +kernel
theorem dX5_isRustier_97 : decode cX5_isRustier 97 = .ok (.iconst 0, 1) := by decide +kernel
theorem dX5_isRustier_98 : decode cX5_isRustier 98 = .ok (.ireturn, 1) := by decide +kernel
theorem dX5_placeByAnswers_0 : decode cX5_placeByAnswers 0 = .ok (.iconst 0, 1) := by decide +kernel
theorem dX5_placeByAnswers_1 : decode cX5_placeByAnswers 1 = .ok (.istore_n 2, 1) := by decide +kernel
theorem dX5_placeByAnswers_2 : decode cX5_placeByAnswers 2 = .ok (.iconst 0, 1) := by decide +kernel
theorem dX5_placeByAnswers_3 : decode cX5_placeByAnswers 3 = .ok (.istore_n 3, 1) := by decide +kernel
theorem dX5_placeByAnswers_4 : decode cX5_placeByAnswers 4 = .ok (.iload_n 3, 1) := by decide +kernel
theorem dX5_placeByAnswers_5 : decode cX5_placeByAnswers 5 = .ok (.iconst 4, 1) := by decide +kernel
theorem dX5_placeByAnswers_6 : decode cX5_placeByAnswers 6 = .ok (.if_icmp .ge 21, 3) := by decide +kernel
theorem dX5_placeByAnswers_9 : decode cX5_placeByAnswers 9 = .ok (.aload_n 0, 1) := by decide +kernel
theorem dX5_placeByAnswers_10 : decode cX5_placeByAnswers 10 = .ok (.iload_n 3, 1) := by decide +kernel
theorem dX5_placeByAnswers_11 : decode cX5_placeByAnswers 11 = .ok (.iload_n 1, 1) := by decide +kernel
theorem dX5_placeByAnswers_12 : decode cX5_placeByAnswers 12 = .ok (.invokevirtual 66, 3) := by decide +kernel
theorem dX5_placeByAnswers_15 : decode cX5_placeByAnswers 15 = .ok (.ifCond .eq 6, 3) := by decide +kernel
theorem dX5_placeByAnswers_18 : decode cX5_placeByAnswers 18 = .ok (.iinc 2 1, 3) := by decide +kernel
theorem dX5_placeByAnswers_21 : decode cX5_placeByAnswers 21 = .ok (.iinc 3 1, 3) := by decide +kernel
theorem dX5_placeByAnswers_24 : decode cX5_placeByAnswers 24 = .ok (.goto (-20), 3) := by decide +kernel
theorem dX5_placeByAnswers_27 : decode cX5_placeByAnswers 27 = .ok (.iload_n 2, 1) := by decide +kernel
theorem dX5_placeByAnswers_28 : decode cX5_placeByAnswers 28 = .ok (.ireturn, 1) := by decide +kernel
theorem dX5_isAhead_0 : decode cX5_isAhead 0 = .ok (.aload_n 0, 1) := by decide +kernel
theorem dX5_isAhead_1 : decode cX5_isAhead 1 = .ok (.aload_n 0, 1) := by decide +kernel
theorem dX5_isAhead_2 : decode cX5_isAhead 2 = .ok (.getfield 21, 3) := by decide +kernel
theorem dX5_isAhead_5 : decode cX5_isAhead 5 = .ok (.iload_n 1, 1) := by decide +kernel
theorem dX5_isAhead_6 : decode cX5_isAhead 6 = .ok (.invokevirtual 69, 3) := by decide +kernel
theorem dX5_isAhead_9 : decode cX5_isAhead 9 = .ok (.aload_n 0, 1) := by decide +kernel
theorem dX5_isAhead_10 : decode cX5_isAhead 10 = .ok (.aload_n 0, 1) := by decide +kernel
theorem dX5_isAhead_11 : decode cX5_isAhead 11 = .ok (.getfield 21, 3) := by decide +kernel
theorem dX5_isAhead_14 : decode cX5_isAhead 14 = .ok (.iload_n 2, 1) := by decide +kernel
theorem dX5_isAhead_15 : decode cX5_isAhead 15 = .ok (.invokevirtual 69, 3) := by decide +kernel
theorem dX5_isAhead_18 : decode cX5_isAhead 18 = .ok (.isub, 1) := by decide +kernel
theorem dX5_isAhead_19 : decode cX5_isAhead 19 = .ok (.istore_n 3, 1) := by decide +kernel
theorem dX5_isAhead_20 : decode cX5_isAhead 20 = .ok (.iload_n 3, 1) := by decide +kernel
theorem dX5_isAhead_21 : decode cX5_isAhead 21 = .ok (.ifCond .eq 13, 3) := by decide +kernel
theorem dX5_isAhead_24 : decode cX5_isAhead 24 = .ok (.iload_n 3, 1) := by decide +kernel
theorem dX5_isAhead_25 : decode cX5_isAhead 25 = .ok (.ifCond .le 7, 3) := by decide +kernel
theorem dX5_isAhead_28 : decode cX5_isAhead 28 = .ok (.iconst 1, 1) := by decide +kernel
theorem dX5_isAhead_29 : decode cX5_isAhead 29 = .ok (.goto 4, 3) := by decide +kernel
theorem dX5_isAhead_32 : decode cX5_isAhead 32 = .ok (.iconst 0, 1) := by decide +kernel
theorem dX5_isAhead_33 : decode cX5_isAhead 33 = .ok (.ireturn, 1) := by decide +kernel
theorem dX5_isAhead_34 : decode cX5_isAhead 34 = .ok (.aload_n 0, 1) := by decide +kernel
theorem dX5_isAhead_35 : decode cX5_isAhead 35 = .ok (.iload_n 1, 1) := by decide +kernel
theorem dX5_isAhead_36 : decode cX5_isAhead 36 = .ok (.invokevirtual 72, 3) := by decide +kernel
theorem dX5_isAhead_39 : decode cX5_isAhead 39 = .ok (.invokestatic 75, 3) := by decide +kernel
theorem dX5_isAhead_42 : decode cX5_isAhead 42 = .ok (.aload_n 0, 1) := by decide +kernel
theorem dX5_isAhead_43 : decode cX5_isAhead 43 = .ok (.iload_n 2, 1) := by decide +kernel
theorem dX5_isAhead_44 : decode cX5_isAhead 44 = .ok (.invokevirtual 72, 3) := by decide +kernel
theorem dX5_isAhead_47 : decode cX5_isAhead 47 = .ok (.invokestatic 75, 3) := by decide +kernel
theorem dX5_isAhead_50 : decode cX5_isAhead 50 = .ok (.isub, 1) := by decide +kernel
theorem dX5_isAhead_51 : decode cX5_isAhead 51 = .ok (.istore 4, 2) := by decide +kernel
theorem dX5_isAhead_53 : decode cX5_isAhead 53 = .ok (.iload 4, 2) := by decide +kernel
theorem dX5_isAhead_55 : decode cX5_isAhead 55 = .ok (.ifCond .eq 14, 3) := by decide +kernel
theorem dX5_isAhead_58 : decode cX5_isAhead 58 = .ok (.iload 4, 2) := by decide +kernel
theorem dX5_isAhead_60 : decode cX5_isAhead 60 = .ok (.ifCond .le 7, 3) := by decide +kernel
theorem dX5_isAhead_63 : decode cX5_isAhead 63 = .ok (.iconst 1, 1) := by decide +kernel
theorem dX5_isAhead_64 : decode cX5_isAhead 64 = .ok (.goto 4, 3) := by decide +kernel
theorem dX5_isAhead_67 : decode cX5_isAhead 67 = .ok (.iconst 0, 1) := by decide +kernel
theorem dX5_isAhead_68 : decode cX5_isAhead 68 = .ok (.ireturn, 1) := by decide +kernel
theorem dX5_isAhead_69 : decode cX5_isAhead 69 = .ok (.iload_n 1, 1) := by decide +kernel
theorem dX5_isAhead_70 : decode cX5_isAhead 70 = .ok (.iload_n 2, 1) := by decide +kernel
theorem dX5_isAhead_71 : decode cX5_isAhead 71 = .ok (.if_icmp .ge 7, 3) := by decide +kernel
theorem dX5_isAhead_74 : decode cX5_isAhead 74 = .ok (.iconst 1, 1) := by decide +kernel
theorem dX5_isAhead_75 : decode cX5_isAhead 75 = .ok (.goto 4, 3) := by decide +kernel
theorem dX5_isAhead_78 : decode cX5_isAhead 78 = .ok (.iconst 0, 1) := by decide +kernel
theorem dX5_isAhead_79 : decode cX5_isAhead 79 = .ok (.ireturn, 1) := by decide +kernel
theorem dX5_guessByParishes_0 : decode cX5_guessByParishes 0 = .ok (.sipush (-1015), 3) := by decide +kernel
theorem dX5_guessByParishes_3 : decode cX5_guessByParishes 3 = .ok (.istore_n 2, 1) := by decide +kernel
theorem dX5_guessByParishes_4 : decode cX5_guessByParishes 4 = .ok (.iconst 0, 1) := by decide +kernel
theorem dX5_guessByParishes_5 : decode cX5_guessByParishes 5 = .ok (.istore_n 3, 1) := by decide +kernel
theorem dX5_guessByParishes_6 : decode cX5_guessByParishes 6 = .ok (.iconst 1, 1) := by decide +kernel
theorem dX5_guessByParishes_7 : decode cX5_guessByParishes 7 = .ok (.istore 4, 2) := by decide +kernel
theorem dX5_guessByParishes_9 : decode cX5_guessByParishes 9 = .ok (.iconst 0, 1) := by decide +kernel
theorem dX5_guessByParishes_10 : decode cX5_guessByParishes 10 = .ok (.istore 5, 2) := by decide +kernel
theorem dX5_guessByParishes_12 : decode cX5_guessByParishes 12 = .ok (.iload 5, 2) := by decide +kernel
theorem dX5_guessByParishes_14 : decode cX5_guessByParishes 14 = .ok (.iconst 4, 1) := by decide +kernel
theorem dX5_guessByParishes_15 : decode cX5_guessByParishes 15 = .ok (.if_icmp .ge 75, 3) := by decide +kernel
theorem dX5_guessByParishes_18 : decode cX5_guessByParishes 18 = .ok (.iload_n 1, 1) := by decide +kernel
theorem dX5_guessByParishes_19 : decode cX5_guessByParishes 19 = .ok (.ifCond .eq 71, 3) := by decide +kernel
theorem dX5_guessByParishes_22 : decode cX5_guessByParishes 22 = .ok (.aload_n 0, 1) := by decide +kernel
theorem dX5_guessByParishes_23 : decode cX5_guessByParishes 23 = .ok (.iload 5, 2) := by decide +kernel
theorem dX5_guessByParishes_25 : decode cX5_guessByParishes 25 = .ok (.invokevirtual 72, 3) := by decide +kernel
theorem dX5_guessByParishes_28 : decode cX5_guessByParishes 28 = .ok (.istore 6, 2) := by decide +kernel
theorem dX5_guessByParishes_30 : decode cX5_guessByParishes 30 = .ok (.iload 6, 2) := by decide +kernel
theorem dX5_guessByParishes_32 : decode cX5_guessByParishes 32 = .ok (.invokestatic 75, 3) := by decide +kernel
theorem dX5_guessByParishes_35 : decode cX5_guessByParishes 35 = .ok (.istore 7, 2) := by decide +kernel
theorem dX5_guessByParishes_37 : decode cX5_guessByParishes 37 = .ok (.iload 6, 2) := by decide +kernel
theorem dX5_guessByParishes_39 : decode cX5_guessByParishes 39 = .ok (.iload_n 1, 1) := by decide +kernel
theorem dX5_guessByParishes_40 : decode cX5_guessByParishes 40 = .ok (.iand, 1) := by decide +kernel
theorem dX5_guessByParishes_41 : decode cX5_guessByParishes 41 = .ok (.invokestatic 75, 3) := by decide +kernel
theorem dX5_guessByParishes_44 : decode cX5_guessByParishes 44 = .ok (.istore 8, 2) := by decide +kernel
theorem dX5_guessByParishes_46 : decode cX5_guessByParishes 46 = .ok (.iload 8, 2) := by decide +kernel
theorem dX5_guessByParishes_48 : decode cX5_guessByParishes 48 = .ok (.iload 4, 2) := by decide +kernel
theorem dX5_guessByParishes_50 : decode cX5_guessByParishes 50 = .ok (.imul, 1) := by decide +kernel
theorem dX5_guessByParishes_51 : decode cX5_guessByParishes 51 = .ok (.iload_n 3, 1) := by decide +kernel
theorem dX5_guessByParishes_52 : decode cX5_guessByParishes 52 = .ok (.iload 7, 2) := by decide +kernel
theorem dX5_guessByParishes_54 : decode cX5_guessByParishes 54 = .ok (.imul, 1) := by decide +kernel
theorem dX5_guessByParishes_55 : decode cX5_guessByParishes 55 = .ok (.isub, 1) := by decide +kernel
theorem dX5_guessByParishes_56 : decode cX5_guessByParishes 56 = .ok (.istore 9, 2) := by decide +kernel
theorem dX5_guessByParishes_58 : decode cX5_guessByParishes 58 = .ok (.iload 9, 2) := by decide +kernel
theorem dX5_guessByParishes_60 : decode cX5_guessByParishes 60 = .ok (.ifCond .gt 14, 3) := by decide +kernel
theorem dX5_guessByParishes_63 : decode cX5_guessByParishes 63 = .ok (.iload 9, 2) := by decide +kernel
theorem dX5_guessByParishes_65 : decode cX5_guessByParishes 65 = .ok (.ifCond .ne 19, 3) := by decide +kernel
theorem dX5_guessByParishes_68 : decode cX5_guessByParishes 68 = .ok (.iload 8, 2) := by decide +kernel
theorem dX5_guessByParishes_70 : decode cX5_guessByParishes 70 = .ok (.iload_n 3, 1) := by decide +kernel
theorem dX5_guessByParishes_71 : decode cX5_guessByParishes 71 = .ok (.if_icmp .le 13, 3) := by decide +kernel
theorem dX5_guessByParishes_74 : decode cX5_guessByParishes 74 = .ok (.iload 5, 2) := by decide +kernel
theorem dX5_guessByParishes_76 : decode cX5_guessByParishes 76 = .ok (.istore_n 2, 1) := by decide +kernel
theorem dX5_guessByParishes_77 : decode cX5_guessByParishes 77 = .ok (.iload 8, 2) := by decide +kernel
theorem dX5_guessByParishes_79 : decode cX5_guessByParishes 79 = .ok (.istore_n 3, 1) := by decide +kernel
theorem dX5_guessByParishes_80 : decode cX5_guessByParishes 80 = .ok (.iload 7, 2) := by decide +kernel
theorem dX5_guessByParishes_82 : decode cX5_guessByParishes 82 = .ok (.istore 4, 2) := by decide +kernel
theorem dX5_guessByParishes_84 : decode cX5_guessByParishes 84 = .ok (.iinc 5 1, 3) := by decide +kernel
theorem dX5_guessByParishes_87 : decode cX5_guessByParishes 87 = .ok (.goto (-75), 3) := by decide +kernel
theorem dX5_guessByParishes_90 : decode cX5_guessByParishes 90 = .ok (.iload_n 2, 1) := by decide +kernel
theorem dX5_guessByParishes_91 : decode cX5_guessByParishes 91 = .ok (.ireturn, 1) := by decide +kernel
theorem dX5_guessByRopes_0 : decode cX5_guessByRopes 0 = .ok (.sipush (-1011), 3) := by decide +kernel
theorem dX5_guessByRopes_3 : decode cX5_guessByRopes 3 = .ok (.istore_n 2, 1) := by decide +kernel
theorem dX5_guessByRopes_4 : decode cX5_guessByRopes 4 = .ok (.iconst 0, 1) := by decide +kernel
theorem dX5_guessByRopes_5 : decode cX5_guessByRopes 5 = .ok (.istore_n 3, 1) := by decide +kernel
theorem dX5_guessByRopes_6 : decode cX5_guessByRopes 6 = .ok (.iload_n 3, 1) := by decide +kernel
theorem dX5_guessByRopes_7 : decode cX5_guessByRopes 7 = .ok (.aload_n 0, 1) := by decide +kernel
theorem dX5_guessByRopes_8 : decode cX5_guessByRopes 8 = .ok (.getfield 30, 3) := by decide +kernel
theorem dX5_guessByRopes_11 : decode cX5_guessByRopes 11 = .ok (.if_icmp .ge 36, 3) := by decide +kernel
theorem dX5_guessByRopes_14 : decode cX5_guessByRopes 14 = .ok (.iload_n 1, 1) := by decide +kernel
theorem dX5_guessByRopes_15 : decode cX5_guessByRopes 15 = .ok (.iload_n 3, 1) := by decide +kernel
theorem dX5_guessByRopes_16 : decode cX5_guessByRopes 16 = .ok (.invokestatic 52, 3) := by decide +kernel
theorem dX5_guessByRopes_19 : decode cX5_guessByRopes 19 = .ok (.ifCond .eq 22, 3) := by decide +kernel
theorem dX5_guessByRopes_22 : decode cX5_guessByRopes 22 = .ok (.iload_n 2, 1) := by decide +kernel
theorem dX5_guessByRopes_23 : decode cX5_guessByRopes 23 = .ok (.sipush (-1011), 3) := by decide +kernel
theorem dX5_guessByRopes_26 : decode cX5_guessByRopes 26 = .ok (.if_icmp .eq 13, 3) := by decide +kernel
theorem dX5_guessByRopes_29 : decode cX5_guessByRopes 29 = .ok (.aload_n 0, 1) := by decide +kernel
theorem dX5_guessByRopes_30 : decode cX5_guessByRopes 30 = .ok (.iload_n 3, 1) := by decide +kernel
theorem dX5_guessByRopes_31 : decode cX5_guessByRopes 31 = .ok (.iload_n 2, 1) := by decide +kernel
theorem dX5_guessByRopes_32 : decode cX5_guessByRopes 32 = .ok (.iload_n 1, 1) := by decide +kernel
theorem dX5_guessByRopes_33 : decode cX5_guessByRopes 33 = .ok (.invokevirtual 80, 3) := by decide +kernel
theorem dX5_guessByRopes_36 : decode cX5_guessByRopes 36 = .ok (.ifCond .eq 5, 3) := by decide +kernel
theorem dX5_guessByRopes_39 : decode cX5_guessByRopes 39 = .ok (.iload_n 3, 1) := by decide +kernel
theorem dX5_guessByRopes_40 : decode cX5_guessByRopes 40 = .ok (.istore_n 2, 1) := by decide +kernel
theorem dX5_guessByRopes_41 : decode cX5_guessByRopes 41 = .ok (.iinc 3 1, 3) := by decide +kernel
theorem dX5_guessByRopes_44 : decode cX5_guessByRopes 44 = .ok (.goto (-38), 3) := by decide +kernel
theorem dX5_guessByRopes_47 : decode cX5_guessByRopes 47 = .ok (.iload_n 2, 1) := by decide +kernel
theorem dX5_guessByRopes_48 : decode cX5_guessByRopes 48 = .ok (.sipush (-1011), 3) := by decide +kernel
theorem dX5_guessByRopes_51 : decode cX5_guessByRopes 51 = .ok (.if_icmp .ne 9, 3) := by decide +kernel
theorem dX5_guessByRopes_54 : decode cX5_guessByRopes 54 = .ok (.sipush (-1015), 3) := by decide +kernel
theorem dX5_guessByRopes_57 : decode cX5_guessByRopes 57 = .ok (.goto 11, 3) := by decide +kernel
theorem dX5_guessByRopes_60 : decode cX5_guessByRopes 60 = .ok (.aload_n 0, 1) := by decide +kernel
theorem dX5_guessByRopes_61 : decode cX5_guessByRopes 61 = .ok (.getfield 9, 3) := by decide +kernel
theorem dX5_guessByRopes_64 : decode cX5_guessByRopes 64 = .ok (.iload_n 2, 1) := by decide +kernel
theorem dX5_guessByRopes_65 : decode cX5_guessByRopes 65 = .ok (.invokestatic 42, 3) := by decide +kernel
theorem dX5_guessByRopes_68 : decode cX5_guessByRopes 68 = .ok (.ireturn, 1) := by decide +kernel
theorem dX5_isGreaterShare_0 : decode cX5_isGreaterShare 0 = .ok (.aload_n 0, 1) := by decide +kernel
theorem dX5_isGreaterShare_1 : decode cX5_isGreaterShare 1 = .ok (.getfield 9, 3) := by decide +kernel
theorem dX5_isGreaterShare_4 : decode cX5_isGreaterShare 4 = .ok (.iload_n 1, 1) := by decide +kernel
theorem dX5_isGreaterShare_5 : decode cX5_isGreaterShare 5 = .ok (.invokestatic 42, 3) := by decide +kernel
theorem dX5_isGreaterShare_8 : decode cX5_isGreaterShare 8 = .ok (.istore 4, 2) := by decide +kernel
theorem dX5_isGreaterShare_10 : decode cX5_isGreaterShare 10 = .ok (.aload_n 0, 1) := by decide +kernel
theorem dX5_isGreaterShare_11 : decode cX5_isGreaterShare 11 = .ok (.getfield 9, 3) := by decide +kernel
theorem dX5_isGreaterShare_14 : decode cX5_isGreaterShare 14 = .ok (.iload_n 2, 1) := by decide +kernel
theorem dX5_isGreaterShare_15 : decode cX5_isGreaterShare 15 = .ok (.invokestatic 42, 3) := by decide +kernel
theorem dX5_isGreaterShare_18 : decode cX5_isGreaterShare 18 = .ok (.istore 5, 2) := by decide +kernel
theorem dX5_isGreaterShare_20 : decode cX5_isGreaterShare 20 = .ok (.aload_n 0, 1) := by decide +kernel
theorem dX5_isGreaterShare_21 : decode cX5_isGreaterShare 21 = .ok (.iload 4, 2) := by decide +kernel
theorem dX5_isGreaterShare_23 : decode cX5_isGreaterShare 23 = .ok (.iload_n 3, 1) := by decide +kernel
theorem dX5_isGreaterShare_24 : decode cX5_isGreaterShare 24 = .ok (.invokevirtual 84, 3) := by decide +kernel
theorem dX5_isGreaterShare_27 : decode cX5_isGreaterShare 27 = .ok (.istore 6, 2) := by decide +kernel
theorem dX5_isGreaterShare_29 : decode cX5_isGreaterShare 29 = .ok (.aload_n 0, 1) := by decide +kernel
theorem dX5_isGreaterShare_30 : decode cX5_isGreaterShare 30 = .ok (.iload 5, 2) := by decide +kernel
theorem dX5_isGreaterShare_32 : decode cX5_isGreaterShare 32 = .ok (.iload_n 3, 1) := by decide +kernel
theorem dX5_isGreaterShare_33 : decode cX5_isGreaterShare 33 = .ok (.invokevirtual 84, 3) := by decide +kernel
theorem dX5_isGreaterShare_36 : decode cX5_isGreaterShare 36 = .ok (.istore 7, 2) := by decide +kernel
theorem dX5_isGreaterShare_38 : decode cX5_isGreaterShare 38 = .ok (.iload 6, 2) := by decide +kernel
theorem dX5_isGreaterShare_40 : decode cX5_isGreaterShare 40 = .ok (.aload_n 0, 1) := by decide +kernel
theorem dX5_isGreaterShare_41 : decode cX5_isGreaterShare 41 = .ok (.iload 5, 2) := by decide +kernel
theorem dX5_isGreaterShare_43 : decode cX5_isGreaterShare 43 = .ok (.aload_n 0, 1) := by decide +kernel
theorem dX5_isGreaterShare_44 : decode cX5_isGreaterShare 44 = .ok (.invokevirtual 87, 3) := by decide +kernel
theorem dX5_isGreaterShare_47 : decode cX5_isGreaterShare 47 = .ok (.invokevirtual 84, 3) := by decide +kernel
theorem dX5_isGreaterShare_50 : decode cX5_isGreaterShare 50 = .ok (.imul, 1) := by decide +kernel
theorem dX5_isGreaterShare_51 : decode cX5_isGreaterShare 51 = .ok (.istore 8, 2) := by decide +kernel
theorem dX5_isGreaterShare_53 : decode cX5_isGreaterShare 53 = .ok (.iload 7, 2) := by decide +kernel
theorem dX5_isGreaterShare_55 : decode cX5_isGreaterShare 55 = .ok (.aload_n 0, 1) := by decide +kernel
theorem dX5_isGreaterShare_56 : decode cX5_isGreaterShare 56 = .ok (.iload 4, 2) := by decide +kernel
theorem dX5_isGreaterShare_58 : decode cX5_isGreaterShare 58 = .ok (.aload_n 0, 1) := by decide +kernel
theorem dX5_isGreaterShare_59 : decode cX5_isGreaterShare 59 = .ok (.invokevirtual 87, 3) := by decide +kernel
theorem dX5_isGreaterShare_62 : decode cX5_isGreaterShare 62 = .ok (.invokevirtual 84, 3) := by decide +kernel
theorem dX5_isGreaterShare_65 : decode cX5_isGreaterShare 65 = .ok (.imul, 1) := by decide +kernel
theorem dX5_isGreaterShare_66 : decode cX5_isGreaterShare 66 = .ok (.istore 9, 2) := by decide +kernel
theorem dX5_isGreaterShare_68 : decode cX5_isGreaterShare 68 = .ok (.iload 8, 2) := by decide +kernel
theorem dX5_isGreaterShare_70 : decode cX5_isGreaterShare 70 = .ok (.iload 9, 2) := by decide +kernel
theorem dX5_isGreaterShare_72 : decode cX5_isGreaterShare 72 = .ok (.if_icmp .eq 16, 3) := by decide +kernel
theorem dX5_isGreaterShare_75 : decode cX5_isGreaterShare 75 = .ok (.iload 8, 2) := by decide +kernel
theorem dX5_isGreaterShare_77 : decode cX5_isGreaterShare 77 = .ok (.iload 9, 2) := by decide +kernel
theorem dX5_isGreaterShare_79 : decode cX5_isGreaterShare 79 = .ok (.if_icmp .le 7, 3) := by decide +kernel
theorem dX5_isGreaterShare_82 : decode cX5_isGreaterShare 82 = .ok (.iconst 1, 1) := by decide +kernel
theorem dX5_isGreaterShare_83 : decode cX5_isGreaterShare 83 = .ok (.goto 4, 3) := by decide +kernel
theorem dX5_isGreaterShare_86 : decode cX5_isGreaterShare 86 = .ok (.iconst 0, 1) := by decide +kernel
theorem dX5_isGreaterShare_87 : decode cX5_isGreaterShare 87 = .ok (.ireturn, 1) := by decide +kernel
theorem dX5_isGreaterShare_88 : decode cX5_isGreaterShare 88 = .ok (.iload 6, 2) := by decide +kernel
theorem dX5_isGreaterShare_90 : decode cX5_isGreaterShare 90 = .ok (.iload 7, 2) := by decide +kernel
theorem dX5_isGreaterShare_92 : decode cX5_isGreaterShare 92 = .ok (.if_icmp .eq 16, 3) := by decide +kernel
theorem dX5_isGreaterShare_95 : decode cX5_isGreaterShare 95 = .ok (.iload 6, 2) := by decide +kernel
theorem dX5_isGreaterShare_97 : decode cX5_isGreaterShare 97 = .ok (.iload 7, 2) := by decide +kernel
theorem dX5_isGreaterShare_99 : decode cX5_isGreaterShare 99 = .ok (.if_icmp .le 7, 3) := by decide +kernel
theorem dX5_isGreaterShare_102 : decode cX5_isGreaterShare 102 = .ok (.iconst 1, 1) := by decide +kernel
theorem dX5_isGreaterShare_103 : decode cX5_isGreaterShare 103 = .ok (.goto 4, 3) := by decide +kernel
theorem dX5_isGreaterShare_106 : decode cX5_isGreaterShare 106 = .ok (.iconst 0, 1) := by decide +kernel
theorem dX5_isGreaterShare_107 : decode cX5_isGreaterShare 107 = .ok (.ireturn, 1) := by decide +kernel
theorem dX5_isGreaterShare_108 : decode cX5_isGreaterShare 108 = .ok (.iload 4, 2) := by decide +kernel
theorem dX5_isGreaterShare_110 : decode cX5_isGreaterShare 110 = .ok (.iload 5, 2) := by decide +kernel
theorem dX5_isGreaterShare_112 : decode cX5_isGreaterShare 112 = .ok (.if_icmp .ge 7, 3) := by decide +kernel
theorem dX5_isGreaterShare_115 : decode cX5_isGreaterShare 115 = .ok (.iconst 1, 1) := by decide +kernel
theorem dX5_isGreaterShare_116 : decode cX5_isGreaterShare 116 = .ok (.goto 4, 3) := by decide +kernel
theorem dX5_isGreaterShare_119 : decode cX5_isGreaterShare 119 = .ok (.iconst 0, 1) := by decide +kernel
theorem dX5_isGreaterShare_120 : decode cX5_isGreaterShare 120 = .ok (.ireturn, 1) := by decide +kernel
theorem dX5_neighbours_0 : decode cX5_neighbours 0 = .ok (.iconst 0, 1) := by decide +kernel
theorem dX5_neighbours_1 : decode cX5_neighbours 1 = .ok (.istore_n 3, 1) := by decide +kernel
theorem dX5_neighbours_2 : decode cX5_neighbours 2 = .ok (.iconst 0, 1) := by decide +kernel
theorem dX5_neighbours_3 : decode cX5_neighbours 3 = .ok (.istore 4, 2) := by decide +kernel
theorem dX5_neighbours_5 : decode cX5_neighbours 5 = .ok (.iload 4, 2) := by decide +kernel
theorem dX5_neighbours_7 : decode cX5_neighbours 7 = .ok (.aload_n 0, 1) := by decide +kernel
theorem dX5_neighbours_8 : decode cX5_neighbours 8 = .ok (.getfield 30, 3) := by decide +kernel
theorem dX5_neighbours_11 : decode cX5_neighbours 11 = .ok (.if_icmp .ge 34, 3) := by decide +kernel
theorem dX5_neighbours_14 : decode cX5_neighbours 14 = .ok (.iload_n 2, 1) := by decide +kernel
theorem dX5_neighbours_15 : decode cX5_neighbours 15 = .ok (.iload 4, 2) := by decide +kernel
theorem dX5_neighbours_17 : decode cX5_neighbours 17 = .ok (.invokestatic 52, 3) := by decide +kernel
theorem dX5_neighbours_20 : decode cX5_neighbours 20 = .ok (.ifCond .eq 19, 3) := by decide +kernel
theorem dX5_neighbours_23 : decode cX5_neighbours 23 = .ok (.aload_n 0, 1) := by decide +kernel
theorem dX5_neighbours_24 : decode cX5_neighbours 24 = .ok (.getfield 9, 3) := by decide +kernel
theorem dX5_neighbours_27 : decode cX5_neighbours 27 = .ok (.iload 4, 2) := by decide +kernel
theorem dX5_neighbours_29 : decode cX5_neighbours 29 = .ok (.invokestatic 42, 3) := by decide +kernel
theorem dX5_neighbours_32 : decode cX5_neighbours 32 = .ok (.iload_n 1, 1) := by decide +kernel
theorem dX5_neighbours_33 : decode cX5_neighbours 33 = .ok (.if_icmp .ne 6, 3) := by decide +kernel
theorem dX5_neighbours_36 : decode cX5_neighbours 36 = .ok (.iinc 3 1, 3) := by decide +kernel
theorem dX5_neighbours_39 : decode cX5_neighbours 39 = .ok (.iinc 4 1, 3) := by decide +kernel
theorem dX5_neighbours_42 : decode cX5_neighbours 42 = .ok (.goto (-37), 3) := by decide +kernel
theorem dX5_neighbours_45 : decode cX5_neighbours 45 = .ok (.iload_n 3, 1) := by decide +kernel
theorem dX5_neighbours_46 : decode cX5_neighbours 46 = .ok (.ireturn, 1) := by decide +kernel
theorem dX6_init_0 : decode cX6_init 0 = .ok (.aload_n 0, 1) := by decide +kernel
theorem dX6_init_1 : decode cX6_init 1 = .ok (.invokespecial 3, 3) := by decide +kernel
theorem dX6_init_4 : decode cX6_init 4 = .ok (.aload_n 0, 1) := by decide +kernel
theorem dX6_init_5 : decode cX6_init 5 = .ok (.bipush 60, 2) := by decide +kernel
theorem dX6_init_7 : decode cX6_init 7 = .ok (.newarray .int, 2) := by decide +kernel
theorem dX6_init_9 : decode cX6_init 9 = .ok (.putfield 9, 3) := by decide +kernel
theorem dX6_init_12 : decode cX6_init 12 = .ok (.return_, 1) := by decide +kernel
theorem dX6_codeAt_0 : decode cX6_codeAt 0 = .ok (.iload_n 1, 1) := by decide +kernel
theorem dX6_codeAt_1 : decode cX6_codeAt 1 = .ok (.ifCond .lt 22, 3) := by decide +kernel
theorem dX6_codeAt_4 : decode cX6_codeAt 4 = .ok (.iload_n 1, 1) := by decide +kernel
theorem dX6_codeAt_5 : decode cX6_codeAt 5 = .ok (.aload_n 0, 1) := by decide +kernel
theorem dX6_codeAt_6 : decode cX6_codeAt 6 = .ok (.getfield 15, 3) := by decide +kernel
theorem dX6_codeAt_9 : decode cX6_codeAt 9 = .ok (.if_icmp .ge 14, 3) := by decide +kernel
theorem dX6_codeAt_12 : decode cX6_codeAt 12 = .ok (.aload_n 0, 1) := by decide +kernel
theorem dX6_codeAt_13 : decode cX6_codeAt 13 = .ok (.getfield 9, 3) := by decide +kernel
theorem dX6_codeAt_16 : decode cX6_codeAt 16 = .ok (.iload_n 1, 1) := by decide +kernel
theorem dX6_codeAt_17 : decode cX6_codeAt 17 = .ok (.invokestatic 29, 3) := by decide +kernel
theorem dX6_codeAt_20 : decode cX6_codeAt 20 = .ok (.goto 6, 3) := by decide +kernel
theorem dX6_codeAt_23 : decode cX6_codeAt 23 = .ok (.sipush (-1011), 3) := by decide +kernel
theorem dX6_codeAt_26 : decode cX6_codeAt 26 = .ok (.ireturn, 1) := by decide +kernel
theorem dX7_init_0 : decode cX7_init 0 = .ok (.aload_n 0, 1) := by decide +kernel
theorem dX7_init_1 : decode cX7_init 1 = .ok (.invokespecial 3, 3) := by decide +kernel
theorem dX7_init_4 : decode cX7_init 4 = .ok (.aload_n 0, 1) := by decide +kernel
theorem dX7_init_5 : decode cX7_init 5 = .ok (.new 9, 3) := by decide +kernel
theorem dX7_init_8 : decode cX7_init 8 = .ok (.dup, 1) := by decide +kernel
theorem dX7_init_9 : decode cX7_init 9 = .ok (.invokespecial 11, 3) := by decide +kernel
theorem dX7_init_12 : decode cX7_init 12 = .ok (.putfield 12, 3) := by decide +kernel
theorem dX7_init_15 : decode cX7_init 15 = .ok (.aload_n 0, 1) := by decide +kernel
theorem dX7_init_16 : decode cX7_init 16 = .ok (.new 18, 3) := by decide +kernel
theorem dX7_init_19 : decode cX7_init 19 = .ok (.dup, 1) := by decide +kernel
theorem dX7_init_20 : decode cX7_init 20 = .ok (.invokespecial 20, 3) := by decide +kernel
theorem dX7_init_23 : decode cX7_init 23 = .ok (.putfield 21, 3) := by decide +kernel
theorem dX7_init_26 : decode cX7_init 26 = .ok (.aload_n 0, 1) := by decide +kernel
theorem dX7_init_27 : decode cX7_init 27 = .ok (.new 25, 3) := by decide +kernel
theorem dX7_init_30 : decode cX7_init 30 = .ok (.dup, 1) := by decide +kernel
theorem dX7_init_31 : decode cX7_init 31 = .ok (.invokespecial 27, 3) := by decide +kernel
theorem dX7_init_34 : decode cX7_init 34 = .ok (.putfield 28, 3) := by decide +kernel
theorem dX7_init_37 : decode cX7_init 37 = .ok (.aload_n 0, 1) := by decide +kernel
theorem dX7_init_38 : decode cX7_init 38 = .ok (.bipush 24, 2) := by decide +kernel
theorem dX7_init_40 : decode cX7_init 40 = .ok (.newarray .int, 2) := by decide +kernel
theorem dX7_init_42 : decode cX7_init 42 = .ok (.putfield 32, 3) := by decide +kernel
theorem dX7_init_45 : decode cX7_init 45 = .ok (.return_, 1) := by decide +kernel
theorem dX7_copyFrom_0 : decode cX7_copyFrom 0 = .ok (.aload_n 0, 1) := by decide +kernel
theorem dX7_copyFrom_1 : decode cX7_copyFrom 1 = .ok (.getfield 12, 3) := by decide +kernel
theorem dX7_copyFrom_4 : decode cX7_copyFrom 4 = .ok (.aload_n 1, 1) := by decide +kernel
theorem dX7_copyFrom_5 : decode cX7_copyFrom 5 = .ok (.getfield 12, 3) := by decide +kernel
theorem dX7_copyFrom_8 : decode cX7_copyFrom 8 = .ok (.invokevirtual 36, 3) := by decide +kernel
theorem dX7_copyFrom_11 : decode cX7_copyFrom 11 = .ok (.aload_n 0, 1) := by decide +kernel
theorem dX7_copyFrom_12 : decode cX7_copyFrom 12 = .ok (.getfield 21, 3) := by decide +kernel
theorem dX7_copyFrom_15 : decode cX7_copyFrom 15 = .ok (.aload_n 1, 1) := by decide +kernel
theorem dX7_copyFrom_16 : decode cX7_copyFrom 16 = .ok (.getfield 21, 3) := by decide +kernel
theorem dX7_copyFrom_19 : decode cX7_copyFrom 19 = .ok (.invokevirtual 40, 3) := by decide +kernel
theorem dX7_copyFrom_22 : decode cX7_copyFrom 22 = .ok (.aload_n 0, 1) := by decide +kernel
theorem dX7_copyFrom_23 : decode cX7_copyFrom 23 = .ok (.getfield 28, 3) := by decide +kernel
theorem dX7_copyFrom_26 : decode cX7_copyFrom 26 = .ok (.aload_n 1, 1) := by decide +kernel
theorem dX7_copyFrom_27 : decode cX7_copyFrom 27 = .ok (.getfield 28, 3) := by decide +kernel
theorem dX7_copyFrom_30 : decode cX7_copyFrom 30 = .ok (.invokevirtual 43, 3) := by decide +kernel
theorem dX7_copyFrom_33 : decode cX7_copyFrom 33 = .ok (.aload_n 1, 1) := by decide +kernel
theorem dX7_copyFrom_34 : decode cX7_copyFrom 34 = .ok (.getfield 32, 3) := by decide +kernel
theorem dX7_copyFrom_37 : decode cX7_copyFrom 37 = .ok (.aload_n 0, 1) := by decide +kernel
theorem dX7_copyFrom_38 : decode cX7_copyFrom 38 = .ok (.getfield 32, 3) := by decide +kernel
theorem dX7_copyFrom_41 : decode cX7_copyFrom 41 = .ok (.invokestatic 46, 3) := by decide +kernel
theorem dX7_copyFrom_44 : decode cX7_copyFrom 44 = .ok (.aload_n 0, 1) := by decide +kernel
theorem dX7_copyFrom_45 : decode cX7_copyFrom 45 = .ok (.aload_n 1, 1) := by decide +kernel
theorem dX7_copyFrom_46 : decode cX7_copyFrom 46 = .ok (.getfield 50, 3) := by decide +kernel
theorem dX7_copyFrom_49 : decode cX7_copyFrom 49 = .ok (.putfield 50, 3) := by decide +kernel
theorem dX7_copyFrom_52 : decode cX7_copyFrom 52 = .ok (.aload_n 0, 1) := by decide +kernel
theorem dX7_copyFrom_53 : decode cX7_copyFrom 53 = .ok (.aload_n 1, 1) := by decide +kernel
theorem dX7_copyFrom_54 : decode cX7_copyFrom 54 = .ok (.getfield 54, 3) := by decide +kernel
