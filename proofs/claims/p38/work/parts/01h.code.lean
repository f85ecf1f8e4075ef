theorem dX8_letWait_41 : decode cX8_letWait 41 = .ok (.getfield 252, 3) := by decide +kernel
theorem dX8_letWait_44 : decode cX8_letWait 44 = .ok (.if_icmp .ge 16, 3) := by decide +kernel
theorem dX8_letWait_47 : decode cX8_letWait 47 = .ok (.aload_n 0, 1) := by decide +kernel
theorem dX8_letWait_48 : decode cX8_letWait 48 = .ok (.iconst 2, 1) := by decide +kernel
theorem dX8_letWait_49 : decode cX8_letWait 49 = .ok (.aload_n 0, 1) := by decide +kernel
theorem dX8_letWait_50 : decode cX8_letWait 50 = .ok (.getfield 12, 3) := by decide +kernel
theorem dX8_letWait_53 : decode cX8_letWait 53 = .ok (.getfield 252, 3) := by decide +kernel
theorem dX8_letWait_56 : decode cX8_letWait 56 = .ok (.invokevirtual 235, 3) := by decide +kernel
theorem dX8_letWait_59 : decode cX8_letWait 59 = .ok (.ireturn, 1) := by decide +kernel
theorem dX8_letWait_60 : decode cX8_letWait 60 = .ok (.aload_n 0, 1) := by decide +kernel
theorem dX8_letWait_61 : decode cX8_letWait 61 = .ok (.getfield 12, 3) := by decide +kernel
theorem dX8_letWait_64 : decode cX8_letWait 64 = .ok (.getfield 108, 3) := by decide +kernel
theorem dX8_letWait_67 : decode cX8_letWait 67 = .ok (.getfield 154, 3) := by decide +kernel
theorem dX8_letWait_70 : decode cX8_letWait 70 = .ok (.bipush 16, 2) := by decide +kernel
theorem dX8_letWait_72 : decode cX8_letWait 72 = .ok (.if_icmp .lt 11, 3) := by decide +kernel
theorem dX8_letWait_75 : decode cX8_letWait 75 = .ok (.aload_n 0, 1) := by decide +kernel
theorem dX8_letWait_76 : decode cX8_letWait 76 = .ok (.iconst 1, 1) := by decide +kernel
theorem dX8_letWait_77 : decode cX8_letWait 77 = .ok (.bipush 16, 2) := by decide +kernel
theorem dX8_letWait_79 : decode cX8_letWait 79 = .ok (.invokevirtual 235, 3) := by decide +kernel
theorem dX8_letWait_82 : decode cX8_letWait 82 = .ok (.ireturn, 1) := by decide +kernel
theorem dX8_letWait_83 : decode cX8_letWait 83 = .ok (.aload_n 0, 1) := by decide +kernel
theorem dX8_letWait_84 : decode cX8_letWait 84 = .ok (.getfield 12, 3) := by decide +kernel
theorem dX8_letWait_87 : decode cX8_letWait 87 = .ok (.dup, 1) := by decide +kernel
theorem dX8_letWait_88 : decode cX8_letWait 88 = .ok (.getfield 256, 3) := by decide +kernel
theorem dX8_letWait_91 : decode cX8_letWait 91 = .ok (.iconst 1, 1) := by decide +kernel
theorem dX8_letWait_92 : decode cX8_letWait 92 = .ok (.iadd, 1) := by decide +kernel
theorem dX8_letWait_93 : decode cX8_letWait 93 = .ok (.putfield 256, 3) := by decide +kernel
theorem dX8_letWait_96 : decode cX8_letWait 96 = .ok (.aload_n 0, 1) := by decide +kernel
theorem dX8_letWait_97 : decode cX8_letWait 97 = .ok (.getfield 12, 3) := by decide +kernel
theorem dX8_letWait_100 : decode cX8_letWait 100 = .ok (.getfield 108, 3) := by decide +kernel
theorem dX8_letWait_103 : decode cX8_letWait 103 = .ok (.iload_n 1, 1) := by decide +kernel
theorem dX8_letWait_104 : decode cX8_letWait 104 = .ok (.iload_n 2, 1) := by decide +kernel
theorem dX8_letWait_105 : decode cX8_letWait 105 = .ok (.iload_n 3, 1) := by decide +kernel
theorem dX8_letWait_106 : decode cX8_letWait 106 = .ok (.invokevirtual 307, 3) := by decide +kernel
theorem dX8_letWait_109 : decode cX8_letWait 109 = .ok (.ireturn, 1) := by decide +kernel
theorem dX8_takeAway_0 : decode cX8_takeAway 0 = .ok (.aload_n 0, 1) := by decide +kernel
theorem dX8_takeAway_1 : decode cX8_takeAway 1 = .ok (.getfield 12, 3) := by decide +kernel
theorem dX8_takeAway_4 : decode cX8_takeAway 4 = .ok (.getfield 75, 3) := by decide +kernel
theorem dX8_takeAway_7 : decode cX8_takeAway 7 = .ok (.iload_n 1, 1) := by decide +kernel
theorem dX8_takeAway_8 : decode cX8_takeAway 8 = .ok (.invokevirtual 79, 3) := by decide +kernel
theorem dX8_takeAway_11 : decode cX8_takeAway 11 = .ok (.ifCond .ne 7, 3) := by decide +kernel
theorem dX8_takeAway_14 : decode cX8_takeAway 14 = .ok (.sipush (-1011), 3) := by decide +kernel
theorem dX8_takeAway_17 : decode cX8_takeAway 17 = .ok (.ireturn, 1) := by decide +kernel
theorem dX8_takeAway_18 : decode cX8_takeAway 18 = .ok (.aload_n 0, 1) := by decide +kernel
theorem dX8_takeAway_19 : decode cX8_takeAway 19 = .ok (.getfield 12, 3) := by decide +kernel
theorem dX8_takeAway_22 : decode cX8_takeAway 22 = .ok (.getfield 108, 3) := by decide +kernel
theorem dX8_takeAway_25 : decode cX8_takeAway 25 = .ok (.iload_n 1, 1) := by decide +kernel
theorem dX8_takeAway_26 : decode cX8_takeAway 26 = .ok (.invokevirtual 112, 3) := by decide +kernel
theorem dX8_takeAway_29 : decode cX8_takeAway 29 = .ok (.istore_n 2, 1) := by decide +kernel
theorem dX8_takeAway_30 : decode cX8_takeAway 30 = .ok (.iload_n 2, 1) := by decide +kernel
theorem dX8_takeAway_31 : decode cX8_takeAway 31 = .ok (.ifCond .ne 20, 3) := by decide +kernel
theorem dX8_takeAway_34 : decode cX8_takeAway 34 = .ok (.aload_n 0, 1) := by decide +kernel
theorem dX8_takeAway_35 : decode cX8_takeAway 35 = .ok (.bipush 6, 2) := by decide +kernel
theorem dX8_takeAway_37 : decode cX8_takeAway 37 = .ok (.aload_n 0, 1) := by decide +kernel
theorem dX8_takeAway_38 : decode cX8_takeAway 38 = .ok (.getfield 12, 3) := by decide +kernel
theorem dX8_takeAway_41 : decode cX8_takeAway 41 = .ok (.getfield 108, 3) := by decide +kernel
theorem dX8_takeAway_44 : decode cX8_takeAway 44 = .ok (.getfield 154, 3) := by decide +kernel
theorem dX8_takeAway_47 : decode cX8_takeAway 47 = .ok (.invokevirtual 235, 3) := by decide +kernel
theorem dX8_takeAway_50 : decode cX8_takeAway 50 = .ok (.ireturn, 1) := by decide +kernel
theorem dX8_takeAway_51 : decode cX8_takeAway 51 = .ok (.aload_n 0, 1) := by decide +kernel
theorem dX8_takeAway_52 : decode cX8_takeAway 52 = .ok (.getfield 12, 3) := by decide +kernel
theorem dX8_takeAway_55 : decode cX8_takeAway 55 = .ok (.getfield 108, 3) := by decide +kernel
theorem dX8_takeAway_58 : decode cX8_takeAway 58 = .ok (.iload_n 1, 1) := by decide +kernel
theorem dX8_takeAway_59 : decode cX8_takeAway 59 = .ok (.invokevirtual 310, 3) := by decide +kernel
theorem dX8_takeAway_62 : decode cX8_takeAway 62 = .ok (.aload_n 0, 1) := by decide +kernel
theorem dX8_takeAway_63 : decode cX8_takeAway 63 = .ok (.getfield 12, 3) := by decide +kernel
theorem dX8_takeAway_66 : decode cX8_takeAway 66 = .ok (.dup, 1) := by decide +kernel
theorem dX8_takeAway_67 : decode cX8_takeAway 67 = .ok (.getfield 265, 3) := by decide +kernel
theorem dX8_takeAway_70 : decode cX8_takeAway 70 = .ok (.iload_n 2, 1) := by decide +kernel
theorem dX8_takeAway_71 : decode cX8_takeAway 71 = .ok (.iadd, 1) := by decide +kernel
theorem dX8_takeAway_72 : decode cX8_takeAway 72 = .ok (.putfield 265, 3) := by decide +kernel
theorem dX8_takeAway_75 : decode cX8_takeAway 75 = .ok (.aload_n 0, 1) := by decide +kernel
theorem dX8_takeAway_76 : decode cX8_takeAway 76 = .ok (.getfield 12, 3) := by decide +kernel
theorem dX8_takeAway_79 : decode cX8_takeAway 79 = .ok (.getfield 108, 3) := by decide +kernel
theorem dX8_takeAway_82 : decode cX8_takeAway 82 = .ok (.getfield 154, 3) := by decide +kernel
theorem dX8_takeAway_85 : decode cX8_takeAway 85 = .ok (.ireturn, 1) := by decide +kernel
theorem dX8_ringNext_0 : decode cX8_ringNext 0 = .ok (.aload_n 0, 1) := by decide +kernel
theorem dX8_ringNext_1 : decode cX8_ringNext 1 = .ok (.getfield 12, 3) := by decide +kernel
theorem dX8_ringNext_4 : decode cX8_ringNext 4 = .ok (.getfield 108, 3) := by decide +kernel
theorem dX8_ringNext_7 : decode cX8_ringNext 7 = .ok (.getfield 154, 3) := by decide +kernel
theorem dX8_ringNext_10 : decode cX8_ringNext 10 = .ok (.ifCond .le 13, 3) := by decide +kernel
theorem dX8_ringNext_13 : decode cX8_ringNext 13 = .ok (.aload_n 0, 1) := by decide +kernel
theorem dX8_ringNext_14 : decode cX8_ringNext 14 = .ok (.getfield 12, 3) := by decide +kernel
theorem dX8_ringNext_17 : decode cX8_ringNext 17 = .ok (.invokevirtual 157, 3) := by decide +kernel
theorem dX8_ringNext_20 : decode cX8_ringNext 20 = .ok (.goto 15, 3) := by decide +kernel
theorem dX8_ringNext_23 : decode cX8_ringNext 23 = .ok (.aload_n 0, 1) := by decide +kernel
theorem dX8_ringNext_24 : decode cX8_ringNext 24 = .ok (.iconst 3, 1) := by decide +kernel
theorem dX8_ringNext_25 : decode cX8_ringNext 25 = .ok (.aload_n 0, 1) := by decide +kernel
theorem dX8_ringNext_26 : decode cX8_ringNext 26 = .ok (.getfield 12, 3) := by decide +kernel
theorem dX8_ringNext_29 : decode cX8_ringNext 29 = .ok (.getfield 313, 3) := by decide +kernel
theorem dX8_ringNext_32 : decode cX8_ringNext 32 = .ok (.invokevirtual 235, 3) := by decide +kernel
theorem dX8_ringNext_35 : decode cX8_ringNext 35 = .ok (.ireturn, 1) := by decide +kernel
theorem dX8_ringHour_0 : decode cX8_ringHour 0 = .ok (.aload_n 0, 1) := by decide +kernel
theorem dX8_ringHour_1 : decode cX8_ringHour 1 = .ok (.getfield 12, 3) := by decide +kernel
theorem dX8_ringHour_4 : decode cX8_ringHour 4 = .ok (.getfield 108, 3) := by decide +kernel
theorem dX8_ringHour_7 : decode cX8_ringHour 7 = .ok (.getfield 154, 3) := by decide +kernel
theorem dX8_ringHour_10 : decode cX8_ringHour 10 = .ok (.ifCond .ne 16, 3) := by decide +kernel
theorem dX8_ringHour_13 : decode cX8_ringHour 13 = .ok (.aload_n 0, 1) := by decide +kernel
theorem dX8_ringHour_14 : decode cX8_ringHour 14 = .ok (.iconst 3, 1) := by decide +kernel
theorem dX8_ringHour_15 : decode cX8_ringHour 15 = .ok (.aload_n 0, 1) := by decide +kernel
theorem dX8_ringHour_16 : decode cX8_ringHour 16 = .ok (.getfield 12, 3) := by decide +kernel
theorem dX8_ringHour_19 : decode cX8_ringHour 19 = .ok (.getfield 313, 3) := by decide +kernel
theorem dX8_ringHour_22 : decode cX8_ringHour 22 = .ok (.invokevirtual 235, 3) := by decide +kernel
theorem dX8_ringHour_25 : decode cX8_ringHour 25 = .ok (.ireturn, 1) := by decide +kernel
theorem dX8_ringHour_26 : decode cX8_ringHour 26 = .ok (.aload_n 0, 1) := by decide +kernel
theorem dX8_ringHour_27 : decode cX8_ringHour 27 = .ok (.getfield 12, 3) := by decide +kernel
theorem dX8_ringHour_30 : decode cX8_ringHour 30 = .ok (.getfield 108, 3) := by decide +kernel
theorem dX8_ringHour_33 : decode cX8_ringHour 33 = .ok (.getfield 138, 3) := by decide +kernel
theorem dX8_ringHour_36 : decode cX8_ringHour 36 = .ok (.iconst 0, 1) := by decide +kernel
theorem dX8_ringHour_37 : decode cX8_ringHour 37 = .ok (.invokestatic 89, 3) := by decide +kernel
theorem dX8_ringHour_40 : decode cX8_ringHour 40 = .ok (.istore_n 1, 1) := by decide +kernel
theorem dX8_ringHour_41 : decode cX8_ringHour 41 = .ok (.iconst 0, 1) := by decide +kernel
theorem dX8_ringHour_42 : decode cX8_ringHour 42 = .ok (.istore_n 2, 1) := by decide +kernel
theorem dX8_ringHour_43 : decode cX8_ringHour 43 = .ok (.iconst 0, 1) := by decide +kernel
theorem dX8_ringHour_44 : decode cX8_ringHour 44 = .ok (.istore_n 3, 1) := by decide +kernel
theorem dX8_ringHour_45 : decode cX8_ringHour 45 = .ok (.iload_n 3, 1) := by decide +kernel
theorem dX8_ringHour_46 : decode cX8_ringHour 46 = .ok (.bipush 16, 2) := by decide +kernel
theorem dX8_ringHour_48 : decode cX8_ringHour 48 = .ok (.if_icmp .ge 37, 3) := by decide +kernel
theorem dX8_ringHour_51 : decode cX8_ringHour 51 = .ok (.aload_n 0, 1) := by decide +kernel
theorem dX8_ringHour_52 : decode cX8_ringHour 52 = .ok (.getfield 12, 3) := by decide +kernel
theorem dX8_ringHour_55 : decode cX8_ringHour 55 = .ok (.getfield 108, 3) := by decide +kernel
theorem dX8_ringHour_58 : decode cX8_ringHour 58 = .ok (.iload_n 1, 1) := by decide +kernel
theorem dX8_ringHour_59 : decode cX8_ringHour 59 = .ok (.invokevirtual 316, 3) := by decide +kernel
theorem dX8_ringHour_62 : decode cX8_ringHour 62 = .ok (.ifCond .eq 23, 3) := by decide +kernel
theorem dX8_ringHour_65 : decode cX8_ringHour 65 = .ok (.aload_n 0, 1) := by decide +kernel
theorem dX8_ringHour_66 : decode cX8_ringHour 66 = .ok (.getfield 12, 3) := by decide +kernel
theorem dX8_ringHour_69 : decode cX8_ringHour 69 = .ok (.invokevirtual 157, 3) := by decide +kernel
theorem dX8_ringHour_72 : decode cX8_ringHour 72 = .ok (.iconst 1, 1) := by decide +kernel
theorem dX8_ringHour_73 : decode cX8_ringHour 73 = .ok (.if_icmp .ne 6, 3) := by decide +kernel
theorem dX8_ringHour_76 : decode cX8_ringHour 76 = .ok (.iinc 2 1, 3) := by decide +kernel
theorem dX8_ringHour_79 : decode cX8_ringHour 79 = .ok (.iinc 3 1, 3) := by decide +kernel
theorem dX8_ringHour_82 : decode cX8_ringHour 82 = .ok (.goto (-37), 3) := by decide +kernel
theorem dX8_ringHour_85 : decode cX8_ringHour 85 = .ok (.iload_n 2, 1) := by decide +kernel
theorem dX8_ringHour_86 : decode cX8_ringHour 86 = .ok (.ireturn, 1) := by decide +kernel
theorem dX8_carryOut_0 : decode cX8_carryOut 0 = .ok (.aload_n 0, 1) := by decide +kernel
theorem dX8_carryOut_1 : decode cX8_carryOut 1 = .ok (.getfield 36, 3) := by decide +kernel
theorem dX8_carryOut_4 : decode cX8_carryOut 4 = .ok (.iload_n 1, 1) := by decide +kernel
theorem dX8_carryOut_5 : decode cX8_carryOut 5 = .ok (.iconst 0, 1) := by decide +kernel
theorem dX8_carryOut_6 : decode cX8_carryOut 6 = .ok (.invokevirtual 319, 3) := by decide +kernel
theorem dX8_carryOut_9 : decode cX8_carryOut 9 = .ok (.istore_n 2, 1) := by decide +kernel
theorem dX8_carryOut_10 : decode cX8_carryOut 10 = .ok (.aload_n 0, 1) := by decide +kernel
theorem dX8_carryOut_11 : decode cX8_carryOut 11 = .ok (.getfield 36, 3) := by decide +kernel
theorem dX8_carryOut_14 : decode cX8_carryOut 14 = .ok (.iload_n 1, 1) := by decide +kernel
theorem dX8_carryOut_15 : decode cX8_carryOut 15 = .ok (.iconst 1, 1) := by decide +kernel
theorem dX8_carryOut_16 : decode cX8_carryOut 16 = .ok (.invokevirtual 319, 3) := by decide +kernel
theorem dX8_carryOut_19 : decode cX8_carryOut 19 = .ok (.istore_n 3, 1) := by decide +kernel
theorem dX8_carryOut_20 : decode cX8_carryOut 20 = .ok (.aload_n 0, 1) := by decide +kernel
theorem dX8_carryOut_21 : decode cX8_carryOut 21 = .ok (.getfield 36, 3) := by decide +kernel
theorem dX8_carryOut_24 : decode cX8_carryOut 24 = .ok (.getfield 322, 3) := by decide +kernel
theorem dX8_carryOut_27 : decode cX8_carryOut 27 = .ok (.iload_n 1, 1) := by decide +kernel
theorem dX8_carryOut_28 : decode cX8_carryOut 28 = .ok (.invokestatic 89, 3) := by decide +kernel
theorem dX8_carryOut_31 : decode cX8_carryOut 31 = .ok (.tableswitch 152 99 118 #[129, 152, 152, 152, 152, 140, 152, 152, 152, 152, 152, 135, 145, 113, 152, 93, 106, 152, 152, 99], 93) := by decide +kernel
theorem dX8_carryOut_124 : decode cX8_carryOut 124 = .ok (.aload_n 0, 1) := by decide +kernel
theorem dX8_carryOut_125 : decode cX8_carryOut 125 = .ok (.iload_n 2, 1) := by decide +kernel
theorem dX8_carryOut_126 : decode cX8_carryOut 126 = .ok (.invokevirtual 58, 3) := by decide +kernel
theorem dX8_carryOut_129 : decode cX8_carryOut 129 = .ok (.ireturn, 1) := by decide +kernel
theorem dX8_carryOut_130 : decode cX8_carryOut 130 = .ok (.aload_n 0, 1) := by decide +kernel
theorem dX8_carryOut_131 : decode cX8_carryOut 131 = .ok (.iload_n 2, 1) := by decide +kernel
theorem dX8_carryOut_132 : decode cX8_carryOut 132 = .ok (.iload_n 3, 1) := by decide +kernel
theorem dX8_carryOut_133 : decode cX8_carryOut 133 = .ok (.invokevirtual 65, 3) := by decide +kernel
theorem dX8_carryOut_136 : decode cX8_carryOut 136 = .ok (.ireturn, 1) := by decide +kernel
theorem dX8_carryOut_137 : decode cX8_carryOut 137 = .ok (.aload_n 0, 1) := by decide +kernel
theorem dX8_carryOut_138 : decode cX8_carryOut 138 = .ok (.iload_n 2, 1) := by decide +kernel
theorem dX8_carryOut_139 : decode cX8_carryOut 139 = .ok (.iload_n 3, 1) := by decide +kernel
theorem dX8_carryOut_140 : decode cX8_carryOut 140 = .ok (.invokevirtual 69, 3) := by decide +kernel
theorem dX8_carryOut_143 : decode cX8_carryOut 143 = .ok (.ireturn, 1) := by decide +kernel
theorem dX8_carryOut_144 : decode cX8_carryOut 144 = .ok (.aload_n 0, 1) := by decide +kernel
theorem dX8_carryOut_145 : decode cX8_carryOut 145 = .ok (.iload_n 2, 1) := by decide +kernel
theorem dX8_carryOut_146 : decode cX8_carryOut 146 = .ok (.iload_n 3, 1) := by decide +kernel
theorem dX8_carryOut_147 : decode cX8_carryOut 147 = .ok (.aload_n 0, 1) := by decide +kernel
theorem dX8_carryOut_148 : decode cX8_carryOut 148 = .ok (.getfield 36, 3) := by decide +kernel
theorem dX8_carryOut_151 : decode cX8_carryOut 151 = .ok (.iload_n 1, 1) := by decide +kernel
theorem dX8_carryOut_152 : decode cX8_carryOut 152 = .ok (.iconst 2, 1) := by decide +kernel
theorem dX8_carryOut_153 : decode cX8_carryOut 153 = .ok (.invokevirtual 319, 3) := by decide +kernel
theorem dX8_carryOut_156 : decode cX8_carryOut 156 = .ok (.invokevirtual 117, 3) := by decide +kernel
theorem dX8_carryOut_159 : decode cX8_carryOut 159 = .ok (.ireturn, 1) := by decide +kernel
theorem dX8_carryOut_160 : decode cX8_carryOut 160 = .ok (.aload_n 0, 1) := by decide +kernel
theorem dX8_carryOut_161 : decode cX8_carryOut 161 = .ok (.iload_n 2, 1) := by decide +kernel
theorem dX8_carryOut_162 : decode cX8_carryOut 162 = .ok (.invokevirtual 121, 3) := by decide +kernel
theorem dX8_carryOut_165 : decode cX8_carryOut 165 = .ok (.ireturn, 1) := by decide +kernel
theorem dX8_carryOut_166 : decode cX8_carryOut 166 = .ok (.aload_n 0, 1) := by decide +kernel
theorem dX8_carryOut_167 : decode cX8_carryOut 167 = .ok (.invokevirtual 124, 3) := by decide +kernel
theorem dX8_carryOut_170 : decode cX8_carryOut 170 = .ok (.ireturn, 1) := by decide +kernel
theorem dX8_carryOut_171 : decode cX8_carryOut 171 = .ok (.aload_n 0, 1) := by decide +kernel
theorem dX8_carryOut_172 : decode cX8_carryOut 172 = .ok (.invokevirtual 128, 3) := by decide +kernel
theorem dX8_carryOut_175 : decode cX8_carryOut 175 = .ok (.ireturn, 1) := by decide +kernel
theorem dX8_carryOut_176 : decode cX8_carryOut 176 = .ok (.aload_n 0, 1) := by decide +kernel
theorem dX8_carryOut_177 : decode cX8_carryOut 177 = .ok (.iload_n 2, 1) := by decide +kernel
theorem dX8_carryOut_178 : decode cX8_carryOut 178 = .ok (.iload_n 3, 1) := by decide +kernel
theorem dX8_carryOut_179 : decode cX8_carryOut 179 = .ok (.invokevirtual 72, 3) := by decide +kernel
theorem dX8_carryOut_182 : decode cX8_carryOut 182 = .ok (.ireturn, 1) := by decide +kernel
theorem dX8_carryOut_183 : decode cX8_carryOut 183 = .ok (.aload_n 0, 1) := by decide +kernel
theorem dX8_carryOut_184 : decode cX8_carryOut 184 = .ok (.getfield 12, 3) := by decide +kernel
theorem dX8_carryOut_187 : decode cX8_carryOut 187 = .ok (.invokevirtual 131, 3) := by decide +kernel
theorem dX8_carryOut_190 : decode cX8_carryOut 190 = .ok (.ireturn, 1) := by decide +kernel
theorem dX8_hoursGuessed_0 : decode cX8_hoursGuessed 0 = .ok (.iconst 0, 1) := by decide +kernel
theorem dX8_hoursGuessed_1 : decode cX8_hoursGuessed 1 = .ok (.istore_n 2, 1) := by decide +kernel
theorem dX8_hoursGuessed_2 : decode cX8_hoursGuessed 2 = .ok (.iconst 0, 1) := by decide +kernel
theorem dX8_hoursGuessed_3 : decode cX8_hoursGuessed 3 = .ok (.istore_n 3, 1) := by decide +kernel
theorem dX8_hoursGuessed_4 : decode cX8_hoursGuessed 4 = .ok (.iload_n 3, 1) := by decide +kernel
theorem dX8_hoursGuessed_5 : decode cX8_hoursGuessed 5 = .ok (.bipush 24, 2) := by decide +kernel
theorem dX8_hoursGuessed_7 : decode cX8_hoursGuessed 7 = .ok (.if_icmp .ge 21, 3) := by decide +kernel
theorem dX8_hoursGuessed_10 : decode cX8_hoursGuessed 10 = .ok (.aload_n 0, 1) := by decide +kernel
theorem dX8_hoursGuessed_11 : decode cX8_hoursGuessed 11 = .ok (.iload_n 3, 1) := by decide +kernel
theorem dX8_hoursGuessed_12 : decode cX8_hoursGuessed 12 = .ok (.invokevirtual 325, 3) := by decide +kernel
theorem dX8_hoursGuessed_15 : decode cX8_hoursGuessed 15 = .ok (.iload_n 1, 1) := by decide +kernel
theorem dX8_hoursGuessed_16 : decode cX8_hoursGuessed 16 = .ok (.if_icmp .ne 6, 3) := by decide +kernel
theorem dX8_hoursGuessed_19 : decode cX8_hoursGuessed 19 = .ok (.iinc 2 1, 3) := by decide +kernel
theorem dX8_hoursGuessed_22 : decode cX8_hoursGuessed 22 = .ok (.iinc 3 1, 3) := by decide +kernel
theorem dX8_hoursGuessed_25 : decode cX8_hoursGuessed 25 = .ok (.goto (-21), 3) := by decide +kernel
theorem dX8_hoursGuessed_28 : decode cX8_hoursGuessed 28 = .ok (.iload_n 2, 1) := by decide +kernel
theorem dX8_hoursGuessed_29 : decode cX8_hoursGuessed 29 = .ok (.ireturn, 1) := by decide +kernel
theorem dX8_arePullsAccountedFor_0 : decode cX8_arePullsAccountedFor 0 = .ok (.aload_n 0, 1) := by decide +kernel
theorem dX8_arePullsAccountedFor_1 : decode cX8_arePullsAccountedFor 1 = .ok (.getfield 12, 3) := by decide +kernel
theorem dX8_arePullsAccountedFor_4 : decode cX8_arePullsAccountedFor 4 = .ok (.getfield 256, 3) := by decide +kernel
theorem dX8_arePullsAccountedFor_7 : decode cX8_arePullsAccountedFor 7 = .ok (.aload_n 0, 1) := by decide +kernel
theorem dX8_arePullsAccountedFor_8 : decode cX8_arePullsAccountedFor 8 = .ok (.getfield 12, 3) := by decide +kernel
theorem dX8_arePullsAccountedFor_11 : decode cX8_arePullsAccountedFor 11 = .ok (.getfield 108, 3) := by decide +kernel
theorem dX8_arePullsAccountedFor_14 : decode cX8_arePullsAccountedFor 14 = .ok (.getfield 154, 3) := by decide +kernel
theorem dX8_arePullsAccountedFor_17 : decode cX8_arePullsAccountedFor 17 = .ok (.aload_n 0, 1) := by decide +kernel
theorem dX8_arePullsAccountedFor_18 : decode cX8_arePullsAccountedFor 18 = .ok (.getfield 12, 3) := by decide +kernel
theorem dX8_arePullsAccountedFor_21 : decode cX8_arePullsAccountedFor 21 = .ok (.getfield 259, 3) := by decide +kernel
theorem dX8_arePullsAccountedFor_24 : decode cX8_arePullsAccountedFor 24 = .ok (.iadd, 1) := by decide +kernel
theorem dX8_arePullsAccountedFor_25 : decode cX8_arePullsAccountedFor 25 = .ok (.aload_n 0, 1) := by decide +kernel
theorem dX8_arePullsAccountedFor_26 : decode cX8_arePullsAccountedFor 26 = .ok (.getfield 12, 3) := by decide +kernel
theorem dX8_arePullsAccountedFor_29 : decode cX8_arePullsAccountedFor 29 = .ok (.getfield 261, 3) := by decide +kernel
theorem dX8_arePullsAccountedFor_32 : decode cX8_arePullsAccountedFor 32 = .ok (.iadd, 1) := by decide +kernel
theorem dX8_arePullsAccountedFor_33 : decode cX8_arePullsAccountedFor 33 = .ok (.aload_n 0, 1) := by decide +kernel
theorem dX8_arePullsAccountedFor_34 : decode cX8_arePullsAccountedFor 34 = .ok (.getfield 12, 3) := by decide +kernel
theorem dX8_arePullsAccountedFor_37 : decode cX8_arePullsAccountedFor 37 = .ok (.getfield 263, 3) := by decide +kernel
theorem dX8_arePullsAccountedFor_40 : decode cX8_arePullsAccountedFor 40 = .ok (.iadd, 1) := by decide +kernel
theorem dX8_arePullsAccountedFor_41 : decode cX8_arePullsAccountedFor 41 = .ok (.aload_n 0, 1) := by decide +kernel
theorem dX8_arePullsAccountedFor_42 : decode cX8_arePullsAccountedFor 42 = .ok (.getfield 12, 3) := by decide +kernel
theorem dX8_arePullsAccountedFor_45 : decode cX8_arePullsAccountedFor 45 = .ok (.getfield 265, 3) := by decide +kernel
theorem dX8_arePullsAccountedFor_48 : decode cX8_arePullsAccountedFor 48 = .ok (.iadd, 1) := by decide +kernel
theorem dX8_arePullsAccountedFor_49 : decode cX8_arePullsAccountedFor 49 = .ok (.if_icmp .ne 7, 3) := by decide +kernel
theorem dX8_arePullsAccountedFor_52 : decode cX8_arePullsAccountedFor 52 = .ok (.iconst 1, 1) := by decide +kernel
theorem dX8_arePullsAccountedFor_53 : decode cX8_arePullsAccountedFor 53 = .ok (.goto 4, 3) := by decide +kernel
theorem dX8_arePullsAccountedFor_56 : decode cX8_arePullsAccountedFor 56 = .ok (.iconst 0, 1) := by decide +kernel
theorem dX8_arePullsAccountedFor_57 : decode cX8_arePullsAccountedFor 57 = .ok (.ireturn, 1) := by decide +kernel
theorem dX8_areRopesAccountedFor_0 : decode cX8_areRopesAccountedFor 0 = .ok (.aload_n 0, 1) := by decide +kernel
theorem dX8_areRopesAccountedFor_1 : decode cX8_areRopesAccountedFor 1 = .ok (.getfield 12, 3) := by decide +kernel
theorem dX8_areRopesAccountedFor_4 : decode cX8_areRopesAccountedFor 4 = .ok (.getfield 75, 3) := by decide +kernel
theorem dX8_areRopesAccountedFor_7 : decode cX8_areRopesAccountedFor 7 = .ok (.getfield 99, 3) := by decide +kernel
theorem dX8_areRopesAccountedFor_10 : decode cX8_areRopesAccountedFor 10 = .ok (.invokestatic 268, 3) := by decide +kernel
theorem dX8_areRopesAccountedFor_13 : decode cX8_areRopesAccountedFor 13 = .ok (.aload_n 0, 1) := by decide +kernel
theorem dX8_areRopesAccountedFor_14 : decode cX8_areRopesAccountedFor 14 = .ok (.getfield 12, 3) := by decide +kernel
theorem dX8_areRopesAccountedFor_17 : decode cX8_areRopesAccountedFor 17 = .ok (.getfield 259, 3) := by decide +kernel
theorem dX8_areRopesAccountedFor_20 : decode cX8_areRopesAccountedFor 20 = .ok (.if_icmp .ne 86, 3) := by decide +kernel
theorem dX8_areRopesAccountedFor_23 : decode cX8_areRopesAccountedFor 23 = .ok (.aload_n 0, 1) := by decide +kernel
theorem dX8_areRopesAccountedFor_24 : decode cX8_areRopesAccountedFor 24 = .ok (.getfield 12, 3) := by decide +kernel
theorem dX8_areRopesAccountedFor_27 : decode cX8_areRopesAccountedFor 27 = .ok (.getfield 75, 3) := by decide +kernel
theorem dX8_areRopesAccountedFor_30 : decode cX8_areRopesAccountedFor 30 = .ok (.getfield 102, 3) := by decide +kernel
theorem dX8_areRopesAccountedFor_33 : decode cX8_areRopesAccountedFor 33 = .ok (.invokestatic 268, 3) := by decide +kernel
theorem dX8_areRopesAccountedFor_36 : decode cX8_areRopesAccountedFor 36 = .ok (.aload_n 0, 1) := by decide +kernel
theorem dX8_areRopesAccountedFor_37 : decode cX8_areRopesAccountedFor 37 = .ok (.getfield 12, 3) := by decide +kernel
theorem dX8_areRopesAccountedFor_40 : decode cX8_areRopesAccountedFor 40 = .ok (.getfield 261, 3) := by decide +kernel
theorem dX8_areRopesAccountedFor_43 : decode cX8_areRopesAccountedFor 43 = .ok (.if_icmp .ne 63, 3) := by decide +kernel
theorem dX8_areRopesAccountedFor_46 : decode cX8_areRopesAccountedFor 46 = .ok (.aload_n 0, 1) := by decide +kernel
theorem dX8_areRopesAccountedFor_47 : decode cX8_areRopesAccountedFor 47 = .ok (.getfield 12, 3) := by decide +kernel
theorem dX8_areRopesAccountedFor_50 : decode cX8_areRopesAccountedFor 50 = .ok (.getfield 75, 3) := by decide +kernel
theorem dX8_areRopesAccountedFor_53 : decode cX8_areRopesAccountedFor 53 = .ok (.getfield 105, 3) := by decide +kernel
theorem dX8_areRopesAccountedFor_56 : decode cX8_areRopesAccountedFor 56 = .ok (.invokestatic 268, 3) := by decide +kernel
theorem dX8_areRopesAccountedFor_59 : decode cX8_areRopesAccountedFor 59 = .ok (.aload_n 0, 1) := by decide +kernel
theorem dX8_areRopesAccountedFor_60 : decode cX8_areRopesAccountedFor 60 = .ok (.getfield 12, 3) := by decide +kernel
theorem dX8_areRopesAccountedFor_63 : decode cX8_areRopesAccountedFor 63 = .ok (.getfield 263, 3) := by decide +kernel
theorem dX8_areRopesAccountedFor_66 : decode cX8_areRopesAccountedFor 66 = .ok (.if_icmp .ne 40, 3) := by decide +kernel
theorem dX8_areRopesAccountedFor_69 : decode cX8_areRopesAccountedFor 69 = .ok (.aload_n 0, 1) := by decide +kernel
theorem dX8_areRopesAccountedFor_70 : decode cX8_areRopesAccountedFor 70 = .ok (.getfield 12, 3) := by decide +kernel
theorem dX8_areRopesAccountedFor_73 : decode cX8_areRopesAccountedFor 73 = .ok (.getfield 108, 3) := by decide +kernel
theorem dX8_areRopesAccountedFor_76 : decode cX8_areRopesAccountedFor 76 = .ok (.aload_n 0, 1) := by decide +kernel
theorem dX8_areRopesAccountedFor_77 : decode cX8_areRopesAccountedFor 77 = .ok (.getfield 12, 3) := by decide +kernel
theorem dX8_areRopesAccountedFor_80 : decode cX8_areRopesAccountedFor 80 = .ok (.getfield 75, 3) := by decide +kernel
theorem dX8_areRopesAccountedFor_83 : decode cX8_areRopesAccountedFor 83 = .ok (.invokevirtual 328, 3) := by decide +kernel
theorem dX8_areRopesAccountedFor_86 : decode cX8_areRopesAccountedFor 86 = .ok (.invokevirtual 209, 3) := by decide +kernel
theorem dX8_areRopesAccountedFor_89 : decode cX8_areRopesAccountedFor 89 = .ok (.aload_n 0, 1) := by decide +kernel
theorem dX8_areRopesAccountedFor_90 : decode cX8_areRopesAccountedFor 90 = .ok (.getfield 12, 3) := by decide +kernel
theorem dX8_areRopesAccountedFor_93 : decode cX8_areRopesAccountedFor 93 = .ok (.getfield 108, 3) := by decide +kernel
theorem dX8_areRopesAccountedFor_96 : decode cX8_areRopesAccountedFor 96 = .ok (.getfield 154, 3) := by decide +kernel
theorem dX8_areRopesAccountedFor_99 : decode cX8_areRopesAccountedFor 99 = .ok (.if_icmp .ne 7, 3) := by decide +kernel
theorem dX8_areRopesAccountedFor_102 : decode cX8_areRopesAccountedFor 102 = .ok (.iconst 1, 1) := by decide +kernel
theorem dX8_areRopesAccountedFor_103 : decode cX8_areRopesAccountedFor 103 = .ok (.goto 4, 3) := by decide +kernel
theorem dX8_areRopesAccountedFor_106 : decode cX8_areRopesAccountedFor 106 = .ok (.iconst 0, 1) := by decide +kernel
theorem dX8_areRopesAccountedFor_107 : decode cX8_areRopesAccountedFor 107 = .ok (.ireturn, 1) := by decide +kernel
theorem dX8_areGuessesTheSame_0 : decode cX8_areGuessesTheSame 0 = .ok (.iconst 0, 1) := by decide +kernel
theorem dX8_areGuessesTheSame_1 : decode cX8_areGuessesTheSame 1 = .ok (.istore_n 1, 1) := by decide +kernel
theorem dX8_areGuessesTheSame_2 : decode cX8_areGuessesTheSame 2 = .ok (.iload_n 1, 1) := by decide +kernel
theorem dX8_areGuessesTheSame_3 : decode cX8_areGuessesTheSame 3 = .ok (.bipush 24, 2) := by decide +kernel
theorem dX8_areGuessesTheSame_5 : decode cX8_areGuessesTheSame 5 = .ok (.if_icmp .ge 24, 3) := by decide +kernel
theorem dX8_areGuessesTheSame_8 : decode cX8_areGuessesTheSame 8 = .ok (.aload_n 0, 1) := by decide +kernel
theorem dX8_areGuessesTheSame_9 : decode cX8_areGuessesTheSame 9 = .ok (.iload_n 1, 1) := by decide +kernel
theorem dX8_areGuessesTheSame_10 : decode cX8_areGuessesTheSame 10 = .ok (.invokevirtual 325, 3) := by decide +kernel
theorem dX8_areGuessesTheSame_13 : decode cX8_areGuessesTheSame 13 = .ok (.aload_n 0, 1) := by decide +kernel
theorem dX8_areGuessesTheSame_14 : decode cX8_areGuessesTheSame 14 = .ok (.iload_n 1, 1) := by decide +kernel
theorem dX8_areGuessesTheSame_15 : decode cX8_areGuessesTheSame 15 = .ok (.invokevirtual 331, 3) := by decide +kernel
theorem dX8_areGuessesTheSame_18 : decode cX8_areGuessesTheSame 18 = .ok (.if_icmp .eq 5, 3) := by decide +kernel
theorem dX8_areGuessesTheSame_21 : decode cX8_areGuessesTheSame 21 = .ok (.iconst 0, 1) := by decide +kernel
theorem dX8_areGuessesTheSame_22 : decode cX8_areGuessesTheSame 22 = .ok (.ireturn, 1) := by decide +kernel
theorem dX8_areGuessesTheSame_23 : decode cX8_areGuessesTheSame 23 = .ok (.iinc 1 1, 3) := by decide +kernel
theorem dX8_areGuessesTheSame_26 : decode cX8_areGuessesTheSame 26 = .ok (.goto (-24), 3) := by decide +kernel
theorem dX8_areGuessesTheSame_29 : decode cX8_areGuessesTheSame 29 = .ok (.iconst 1, 1) := by decide +kernel
theorem dX8_areGuessesTheSame_30 : decode cX8_areGuessesTheSame 30 = .ok (.ireturn, 1) := by decide +kernel
theorem dX8_tellRope_0 : decode cX8_tellRope 0 = .ok (.aload_n 0, 1) := by decide +kernel
theorem dX8_tellRope_1 : decode cX8_tellRope 1 = .ok (.getfield 43, 3) := by decide +kernel
theorem dX8_tellRope_4 : decode cX8_tellRope 4 = .ok (.iload_n 1, 1) := by decide +kernel
theorem dX8_tellRope_5 : decode cX8_tellRope 5 = .ok (.invokevirtual 334, 3) := by decide +kernel
theorem dX8_tellRope_8 : decode cX8_tellRope 8 = .ok (.aload_n 0, 1) := by decide +kernel
theorem dX8_tellRope_9 : decode cX8_tellRope 9 = .ok (.getfield 43, 3) := by decide +kernel
theorem dX8_tellRope_12 : decode cX8_tellRope 12 = .ok (.bipush 58, 2) := by decide +kernel
theorem dX8_tellRope_14 : decode cX8_tellRope 14 = .ok (.invokevirtual 337, 3) := by decide +kernel
theorem dX8_tellRope_17 : decode cX8_tellRope 17 = .ok (.aload_n 0, 1) := by decide +kernel
theorem dX8_tellRope_18 : decode cX8_tellRope 18 = .ok (.getfield 43, 3) := by decide +kernel
theorem dX8_tellRope_21 : decode cX8_tellRope 21 = .ok (.aload_n 0, 1) := by decide +kernel
theorem dX8_tellRope_22 : decode cX8_tellRope 22 = .ok (.getfield 12, 3) := by decide +kernel
theorem dX8_tellRope_25 : decode cX8_tellRope 25 = .ok (.getfield 75, 3) := by decide +kernel
theorem dX8_tellRope_28 : decode cX8_tellRope 28 = .ok (.getfield 85, 3) := by decide +kernel
theorem dX8_tellRope_31 : decode cX8_tellRope 31 = .ok (.iload_n 1, 1) := by decide +kernel
theorem dX8_tellRope_32 : decode cX8_tellRope 32 = .ok (.invokestatic 89, 3) := by decide +kernel
theorem dX8_tellRope_35 : decode cX8_tellRope 35 = .ok (.invokevirtual 334, 3) := by decide +kernel
theorem dX8_tellRope_38 : decode cX8_tellRope 38 = .ok (.aload_n 0, 1) := by decide +kernel
theorem dX8_tellRope_39 : decode cX8_tellRope 39 = .ok (.getfield 12, 3) := by decide +kernel
theorem dX8_tellRope_42 : decode cX8_tellRope 42 = .ok (.getfield 75, 3) := by decide +kernel
theorem dX8_tellRope_45 : decode cX8_tellRope 45 = .ok (.getfield 93, 3) := by decide +kernel
theorem dX8_tellRope_48 : decode cX8_tellRope 48 = .ok (.iload_n 1, 1) := by decide +kernel
theorem dX8_tellRope_49 : decode cX8_tellRope 49 = .ok (.invokestatic 89, 3) := by decide +kernel
theorem dX8_tellRope_52 : decode cX8_tellRope 52 = .ok (.ifCond .ne 12, 3) := by decide +kernel
theorem dX8_tellRope_55 : decode cX8_tellRope 55 = .ok (.aload_n 0, 1) := by decide +kernel
theorem dX8_tellRope_56 : decode cX8_tellRope 56 = .ok (.getfield 43, 3) := by decide +kernel
theorem dX8_tellRope_59 : decode cX8_tellRope 59 = .ok (.bipush 35, 2) := by decide +kernel
theorem dX8_tellRope_61 : decode cX8_tellRope 61 = .ok (.invokevirtual 337, 3) := by decide +kernel
theorem dX8_tellRope_64 : decode cX8_tellRope 64 = .ok (.aload_n 0, 1) := by decide +kernel
theorem dX8_tellRope_65 : decode cX8_tellRope 65 = .ok (.getfield 12, 3) := by decide +kernel
theorem dX8_tellRope_68 : decode cX8_tellRope 68 = .ok (.getfield 75, 3) := by decide +kernel
theorem dX8_tellRope_71 : decode cX8_tellRope 71 = .ok (.getfield 96, 3) := by decide +kernel
theorem dX8_tellRope_74 : decode cX8_tellRope 74 = .ok (.iload_n 1, 1) := by decide +kernel
theorem dX8_tellRope_75 : decode cX8_tellRope 75 = .ok (.invokestatic 89, 3) := by decide +kernel
theorem dX8_tellRope_78 : decode cX8_tellRope 78 = .ok (.istore_n 2, 1) := by decide +kernel
theorem dX8_tellRope_79 : decode cX8_tellRope 79 = .ok (.iconst 0, 1) := by decide +kernel
theorem dX8_tellRope_80 : decode cX8_tellRope 80 = .ok (.istore_n 3, 1) := by decide +kernel
theorem dX8_tellRope_81 : decode cX8_tellRope 81 = .ok (.iload_n 3, 1) := by decide +kernel
theorem dX8_tellRope_82 : decode cX8_tellRope 82 = .ok (.iload_n 2, 1) := by decide +kernel
theorem dX8_tellRope_83 : decode cX8_tellRope 83 = .ok (.if_icmp .ge 18, 3) := by decide +kernel
theorem dX8_tellRope_86 : decode cX8_tellRope 86 = .ok (.aload_n 0, 1) := by decide +kernel
theorem dX8_tellRope_87 : decode cX8_tellRope 87 = .ok (.getfield 43, 3) := by decide +kernel
theorem dX8_tellRope_90 : decode cX8_tellRope 90 = .ok (.bipush 126, 2) := by decide +kernel
theorem dX8_tellRope_92 : decode cX8_tellRope 92 = .ok (.invokevirtual 337, 3) := by decide +kernel
theorem dX8_tellRope_95 : decode cX8_tellRope 95 = .ok (.iinc 3 1, 3) := by decide +kernel
theorem dX8_tellRope_98 : decode cX8_tellRope 98 = .ok (.goto (-17), 3) := by decide +kernel
theorem dX8_tellRope_101 : decode cX8_tellRope 101 = .ok (.return_, 1) := by decide +kernel
theorem dX8_tellPulls_0 : decode cX8_tellPulls 0 = .ok (.iconst 0, 1) := by decide +kernel
theorem dX8_tellPulls_1 : decode cX8_tellPulls 1 = .ok (.istore_n 2, 1) := by decide +kernel
theorem dX8_tellPulls_2 : decode cX8_tellPulls 2 = .ok (.iload_n 2, 1) := by decide +kernel
theorem dX8_tellPulls_3 : decode cX8_tellPulls 3 = .ok (.aload_n 0, 1) := by decide +kernel
theorem dX8_tellPulls_4 : decode cX8_tellPulls 4 = .ok (.getfield 12, 3) := by decide +kernel
theorem dX8_tellPulls_7 : decode cX8_tellPulls 7 = .ok (.getfield 108, 3) := by decide +kernel
theorem dX8_tellPulls_10 : decode cX8_tellPulls 10 = .ok (.getfield 154, 3) := by decide +kernel
theorem dX8_tellPulls_13 : decode cX8_tellPulls 13 = .ok (.if_icmp .ge 87, 3) := by decide +kernel
theorem dX8_tellPulls_16 : decode cX8_tellPulls 16 = .ok (.aload_n 0, 1) := by decide +kernel
theorem dX8_tellPulls_17 : decode cX8_tellPulls 17 = .ok (.getfield 12, 3) := by decide +kernel
theorem dX8_tellPulls_20 : decode cX8_tellPulls 20 = .ok (.getfield 108, 3) := by decide +kernel
theorem dX8_tellPulls_23 : decode cX8_tellPulls 23 = .ok (.getfield 135, 3) := by decide +kernel
theorem dX8_tellPulls_26 : decode cX8_tellPulls 26 = .ok (.iload_n 2, 1) := by decide +kernel
theorem dX8_tellPulls_27 : decode cX8_tellPulls 27 = .ok (.invokestatic 89, 3) := by decide +kernel
theorem dX8_tellPulls_30 : decode cX8_tellPulls 30 = .ok (.iload_n 1, 1) := by decide +kernel
theorem dX8_tellPulls_31 : decode cX8_tellPulls 31 = .ok (.if_icmp .ne 63, 3) := by decide +kernel
theorem dX8_tellPulls_34 : decode cX8_tellPulls 34 = .ok (.aload_n 0, 1) := by decide +kernel
theorem dX8_tellPulls_35 : decode cX8_tellPulls 35 = .ok (.getfield 43, 3) := by decide +kernel
theorem dX8_tellPulls_38 : decode cX8_tellPulls 38 = .ok (.bipush 64, 2) := by decide +kernel
theorem dX8_tellPulls_40 : decode cX8_tellPulls 40 = .ok (.invokevirtual 337, 3) := by decide +kernel
theorem dX8_tellPulls_43 : decode cX8_tellPulls 43 = .ok (.aload_n 0, 1) := by decide +kernel
theorem dX8_tellPulls_44 : decode cX8_tellPulls 44 = .ok (.getfield 43, 3) := by decide +kernel
theorem dX8_tellPulls_47 : decode cX8_tellPulls 47 = .ok (.aload_n 0, 1) := by decide +kernel
theorem dX8_tellPulls_48 : decode cX8_tellPulls 48 = .ok (.getfield 12, 3) := by decide +kernel
theorem dX8_tellPulls_51 : decode cX8_tellPulls 51 = .ok (.getfield 108, 3) := by decide +kernel
theorem dX8_tellPulls_54 : decode cX8_tellPulls 54 = .ok (.getfield 138, 3) := by decide +kernel
theorem dX8_tellPulls_57 : decode cX8_tellPulls 57 = .ok (.iload_n 2, 1) := by decide +kernel
theorem dX8_tellPulls_58 : decode cX8_tellPulls 58 = .ok (.invokestatic 89, 3) := by decide +kernel
theorem dX8_tellPulls_61 : decode cX8_tellPulls 61 = .ok (.invokevirtual 334, 3) := by decide +kernel
theorem dX8_tellPulls_64 : decode cX8_tellPulls 64 = .ok (.aload_n 0, 1) := by decide +kernel
theorem dX8_tellPulls_65 : decode cX8_tellPulls 65 = .ok (.getfield 43, 3) := by decide +kernel
theorem dX8_tellPulls_68 : decode cX8_tellPulls 68 = .ok (.bipush 42, 2) := by decide +kernel
theorem dX8_tellPulls_70 : decode cX8_tellPulls 70 = .ok (.invokevirtual 337, 3) := by decide +kernel
theorem dX8_tellPulls_73 : decode cX8_tellPulls 73 = .ok (.aload_n 0, 1) := by decide +kernel
theorem dX8_tellPulls_74 : decode cX8_tellPulls 74 = .ok (.getfield 43, 3) := by decide +kernel
theorem dX8_tellPulls_77 : decode cX8_tellPulls 77 = .ok (.aload_n 0, 1) := by decide +kernel
theorem dX8_tellPulls_78 : decode cX8_tellPulls 78 = .ok (.getfield 12, 3) := by decide +kernel
theorem dX8_tellPulls_81 : decode cX8_tellPulls 81 = .ok (.getfield 108, 3) := by decide +kernel
theorem dX8_tellPulls_84 : decode cX8_tellPulls 84 = .ok (.getfield 141, 3) := by decide +kernel
theorem dX8_tellPulls_87 : decode cX8_tellPulls 87 = .ok (.iload_n 2, 1) := by decide +kernel
theorem dX8_tellPulls_88 : decode cX8_tellPulls 88 = .ok (.invokestatic 89, 3) := by decide +kernel
theorem dX8_tellPulls_91 : decode cX8_tellPulls 91 = .ok (.invokevirtual 334, 3) := by decide +kernel
theorem dX8_tellPulls_94 : decode cX8_tellPulls 94 = .ok (.iinc 2 1, 3) := by decide +kernel
theorem dX8_tellPulls_97 : decode cX8_tellPulls 97 = .ok (.goto (-95), 3) := by decide +kernel
theorem dX8_tellPulls_100 : decode cX8_tellPulls 100 = .ok (.return_, 1) := by decide +kernel
theorem dX8_tellHour_0 : decode cX8_tellHour 0 = .ok (.aload_n 0, 1) := by decide +kernel
theorem dX8_tellHour_1 : decode cX8_tellHour 1 = .ok (.getfield 43, 3) := by decide +kernel
theorem dX8_tellHour_4 : decode cX8_tellHour 4 = .ok (.getfield 238, 3) := by decide +kernel
theorem dX8_tellHour_7 : decode cX8_tellHour 7 = .ok (.ifCond .le 12, 3) := by decide +kernel
theorem dX8_tellHour_10 : decode cX8_tellHour 10 = .ok (.aload_n 0, 1) := by decide +kernel
theorem dX8_tellHour_11 : decode cX8_tellHour 11 = .ok (.getfield 43, 3) := by decide +kernel
theorem dX8_tellHour_14 : decode cX8_tellHour 14 = .ok (.bipush 32, 2) := by decide +kernel
theorem dX8_tellHour_16 : decode cX8_tellHour 16 = .ok (.invokevirtual 337, 3) := by decide +kernel
theorem dX8_tellHour_19 : decode cX8_tellHour 19 = .ok (.aload_n 0, 1) := by decide +kernel
theorem dX8_tellHour_20 : decode cX8_tellHour 20 = .ok (.getfield 43, 3) := by decide +kernel
theorem dX8_tellHour_23 : decode cX8_tellHour 23 = .ok (.iload_n 1, 1) := by decide +kernel
theorem dX8_tellHour_24 : decode cX8_tellHour 24 = .ok (.invokevirtual 334, 3) := by decide +kernel
theorem dX8_tellHour_27 : decode cX8_tellHour 27 = .ok (.aload_n 0, 1) := by decide +kernel
theorem dX8_tellHour_28 : decode cX8_tellHour 28 = .ok (.getfield 43, 3) := by decide +kernel
theorem dX8_tellHour_31 : decode cX8_tellHour 31 = .ok (.bipush 61, 2) := by decide +kernel
theorem dX8_tellHour_33 : decode cX8_tellHour 33 = .ok (.invokevirtual 337, 3) := by decide +kernel
theorem dX8_tellHour_36 : decode cX8_tellHour 36 = .ok (.aload_n 0, 1) := by decide +kernel
theorem dX8_tellHour_37 : decode cX8_tellHour 37 = .ok (.getfield 43, 3) := by decide +kernel
theorem dX8_tellHour_40 : decode cX8_tellHour 40 = .ok (.aload_n 0, 1) := by decide +kernel
theorem dX8_tellHour_41 : decode cX8_tellHour 41 = .ok (.iload_n 1, 1) := by decide +kernel
theorem dX8_tellHour_42 : decode cX8_tellHour 42 = .ok (.invokevirtual 325, 3) := by decide +kernel
theorem dX8_tellHour_45 : decode cX8_tellHour 45 = .ok (.invokevirtual 334, 3) := by decide +kernel
theorem dX8_tellHour_48 : decode cX8_tellHour 48 = .ok (.return_, 1) := by decide +kernel
theorem dX8_isParish_0 : decode cX8_isParish 0 = .ok (.iload_n 0, 1) := by decide +kernel
theorem dX8_isParish_1 : decode cX8_isParish 1 = .ok (.ifCond .lt 12, 3) := by decide +kernel
theorem dX8_isParish_4 : decode cX8_isParish 4 = .ok (.iload_n 0, 1) := by decide +kernel
theorem dX8_isParish_5 : decode cX8_isParish 5 = .ok (.iconst 4, 1) := by decide +kernel
theorem dX8_isParish_6 : decode cX8_isParish 6 = .ok (.if_icmp .ge 7, 3) := by decide +kernel
theorem dX8_isParish_9 : decode cX8_isParish 9 = .ok (.iconst 1, 1) := by decide +kernel
theorem dX8_isParish_10 : decode cX8_isParish 10 = .ok (.goto 4, 3) := by decide +kernel
theorem dX8_isParish_13 : decode cX8_isParish 13 = .ok (.iconst 0, 1) := by decide +kernel
theorem dX8_isParish_14 : decode cX8_isParish 14 = .ok (.ireturn, 1) := by decide +kernel
theorem dX8_isHour_0 : decode cX8_isHour 0 = .ok (.iload_n 0, 1) := by decide +kernel
theorem dX8_isHour_1 : decode cX8_isHour 1 = .ok (.ifCond .lt 13, 3) := by decide +kernel
theorem dX8_isHour_4 : decode cX8_isHour 4 = .ok (.iload_n 0, 1) := by decide +kernel
theorem dX8_isHour_5 : decode cX8_isHour 5 = .ok (.bipush 24, 2) := by decide +kernel
theorem dX8_isHour_7 : decode cX8_isHour 7 = .ok (.if_icmp .ge 7, 3) := by decide +kernel
theorem dX8_isHour_10 : decode cX8_isHour 10 = .ok (.iconst 1, 1) := by decide +kernel
theorem dX8_isHour_11 : decode cX8_isHour 11 = .ok (.goto 4, 3) := by decide +kernel
theorem dX8_isHour_14 : decode cX8_isHour 14 = .ok (.iconst 0, 1) := by decide +kernel
theorem dX8_isHour_15 : decode cX8_isHour 15 = .ok (.ireturn, 1) := by decide +kernel
theorem dX8_isStrength_0 : decode cX8_isStrength 0 = .ok (.iload_n 0, 1) := by decide +kernel
theorem dX8_isStrength_1 : decode cX8_isStrength 1 = .ok (.iconst 1, 1) := by decide +kernel
theorem dX8_isStrength_2 : decode cX8_isStrength 2 = .ok (.if_icmp .lt 13, 3) := by decide +kernel
theorem dX8_isStrength_5 : decode cX8_isStrength 5 = .ok (.iload_n 0, 1) := by decide +kernel
theorem dX8_isStrength_6 : decode cX8_isStrength 6 = .ok (.bipush 9, 2) := by decide +kernel
theorem dX8_isStrength_8 : decode cX8_isStrength 8 = .ok (.if_icmp .gt 7, 3) := by decide +kernel
theorem dX8_isStrength_11 : decode cX8_isStrength 11 = .ok (.iconst 1, 1) := by decide +kernel
theorem dX8_isStrength_12 : decode cX8_isStrength 12 = .ok (.goto 4, 3) := by decide +kernel
theorem dX8_isStrength_15 : decode cX8_isStrength 15 = .ok (.iconst 0, 1) := by decide +kernel
theorem dX8_isStrength_16 : decode cX8_isStrength 16 = .ok (.ireturn, 1) := by decide +kernel
theorem dX8_isDigit_0 : decode cX8_isDigit 0 = .ok (.iload_n 0, 1) := by decide +kernel
theorem dX8_isDigit_1 : decode cX8_isDigit 1 = .ok (.bipush 48, 2) := by decide +kernel
theorem dX8_isDigit_3 : decode cX8_isDigit 3 = .ok (.if_icmp .lt 13, 3) := by decide +kernel
theorem dX8_isDigit_6 : decode cX8_isDigit 6 = .ok (.iload_n 0, 1) := by decide +kernel
theorem dX8_isDigit_7 : decode cX8_isDigit 7 = .ok (.bipush 57, 2) := by decide +kernel
theorem dX8_isDigit_9 : decode cX8_isDigit 9 = .ok (.if_icmp .gt 7, 3) := by decide +kernel
theorem dX8_isDigit_12 : decode cX8_isDigit 12 = .ok (.iconst 1, 1) := by decide +kernel
theorem dX8_isDigit_13 : decode cX8_isDigit 13 = .ok (.goto 4, 3) := by decide +kernel
theorem dX8_isDigit_16 : decode cX8_isDigit 16 = .ok (.iconst 0, 1) := by decide +kernel
theorem dX8_isDigit_17 : decode cX8_isDigit 17 = .ok (.ireturn, 1) := by decide +kernel
theorem dX8_bit_0 : decode cX8_bit 0 = .ok (.iconst 1, 1) := by decide +kernel
theorem dX8_bit_1 : decode cX8_bit 1 = .ok (.iload_n 0, 1) := by decide +kernel
theorem dX8_bit_2 : decode cX8_bit 2 = .ok (.ishl, 1) := by decide +kernel
theorem dX8_bit_3 : decode cX8_bit 3 = .ok (.ireturn, 1) := by decide +kernel
theorem dX8_isIn_0 : decode cX8_isIn 0 = .ok (.iload_n 0, 1) := by decide +kernel
theorem dX8_isIn_1 : decode cX8_isIn 1 = .ok (.iload_n 1, 1) := by decide +kernel
theorem dX8_isIn_2 : decode cX8_isIn 2 = .ok (.ishr, 1) := by decide +kernel
theorem dX8_isIn_3 : decode cX8_isIn 3 = .ok (.iconst 1, 1) := by decide +kernel
theorem dX8_isIn_4 : decode cX8_isIn 4 = .ok (.iand, 1) := by decide +kernel
theorem dX8_isIn_5 : decode cX8_isIn 5 = .ok (.ifCond .eq 7, 3) := by decide +kernel
theorem dX8_isIn_8 : decode cX8_isIn 8 = .ok (.iconst 1, 1) := by decide +kernel
theorem dX8_isIn_9 : decode cX8_isIn 9 = .ok (.goto 4, 3) := by decide +kernel
theorem dX8_isIn_12 : decode cX8_isIn 12 = .ok (.iconst 0, 1) := by decide +kernel
theorem dX8_isIn_13 : decode cX8_isIn 13 = .ok (.ireturn, 1) := by decide +kernel
theorem dX8_at_0 : decode cX8_at 0 = .ok (.iload_n 1, 1) := by decide +kernel
theorem dX8_at_1 : decode cX8_at 1 = .ok (.ifCond .lt 15, 3) := by decide +kernel
theorem dX8_at_4 : decode cX8_at 4 = .ok (.iload_n 1, 1) := by decide +kernel
theorem dX8_at_5 : decode cX8_at 5 = .ok (.aload_n 0, 1) := by decide +kernel
theorem dX8_at_6 : decode cX8_at 6 = .ok (.arraylength, 1) := by decide +kernel
theorem dX8_at_7 : decode cX8_at 7 = .ok (.if_icmp .ge 9, 3) := by decide +kernel
theorem dX8_at_10 : decode cX8_at 10 = .ok (.aload_n 0, 1) := by decide +kernel
theorem dX8_at_11 : decode cX8_at 11 = .ok (.iload_n 1, 1) := by decide +kernel
theorem dX8_at_12 : decode cX8_at 12 = .ok (.iaload, 1) := by decide +kernel
theorem dX8_at_13 : decode cX8_at 13 = .ok (.goto 4, 3) := by decide +kernel
theorem dX8_at_16 : decode cX8_at 16 = .ok (.iconst 0, 1) := by decide +kernel
theorem dX8_at_17 : decode cX8_at 17 = .ok (.ireturn, 1) := by decide +kernel
theorem dX8_put_0 : decode cX8_put 0 = .ok (.iload_n 1, 1) := by decide +kernel
theorem dX8_put_1 : decode cX8_put 1 = .ok (.ifCond .lt 13, 3) := by decide +kernel
theorem dX8_put_4 : decode cX8_put 4 = .ok (.iload_n 1, 1) := by decide +kernel
theorem dX8_put_5 : decode cX8_put 5 = .ok (.aload_n 0, 1) := by decide +kernel
theorem dX8_put_6 : decode cX8_put 6 = .ok (.arraylength, 1) := by decide +kernel
theorem dX8_put_7 : decode cX8_put 7 = .ok (.if_icmp .ge 7, 3) := by decide +kernel
theorem dX8_put_10 : decode cX8_put 10 = .ok (.aload_n 0, 1) := by decide +kernel
theorem dX8_put_11 : decode cX8_put 11 = .ok (.iload_n 1, 1) := by decide +kernel
theorem dX8_put_12 : decode cX8_put 12 = .ok (.iload_n 2, 1) := by decide +kernel
theorem dX8_put_13 : decode cX8_put 13 = .ok (.iastore, 1) := by decide +kernel
theorem dX8_put_14 : decode cX8_put 14 = .ok (.return_, 1) := by decide +kernel
theorem dX8_add_0 : decode cX8_add 0 = .ok (.aload_n 0, 1) := by decide +kernel
theorem dX8_add_1 : decode cX8_add 1 = .ok (.iload_n 1, 1) := by decide +kernel
theorem dX8_add_2 : decode cX8_add 2 = .ok (.aload_n 0, 1) := by decide +kernel
theorem dX8_add_3 : decode cX8_add 3 = .ok (.iload_n 1, 1) := by decide +kernel
theorem dX8_add_4 : decode cX8_add 4 = .ok (.invokestatic 89, 3) := by decide +kernel
theorem dX8_add_7 : decode cX8_add 7 = .ok (.iload_n 2, 1) := by decide +kernel
theorem dX8_add_8 : decode cX8_add 8 = .ok (.iadd, 1) := by decide +kernel
theorem dX8_add_9 : decode cX8_add 9 = .ok (.invokestatic 303, 3) := by decide +kernel
theorem dX8_add_12 : decode cX8_add 12 = .ok (.return_, 1) := by decide +kernel
theorem dX8_sum_0 : decode cX8_sum 0 = .ok (.iconst 0, 1) := by decide +kernel
theorem dX8_sum_1 : decode cX8_sum 1 = .ok (.istore_n 1, 1) := by decide +kernel
theorem dX8_sum_2 : decode cX8_sum 2 = .ok (.aload_n 0, 1) := by decide +kernel
theorem dX8_sum_3 : decode cX8_sum 3 = .ok (.astore_n 2, 1) := by decide +kernel
theorem dX8_sum_4 : decode cX8_sum 4 = .ok (.aload_n 2, 1) := by decide +kernel
theorem dX8_sum_5 : decode cX8_sum 5 = .ok (.arraylength, 1) := by decide +kernel
theorem dX8_sum_6 : decode cX8_sum 6 = .ok (.istore_n 3, 1) := by decide +kernel
theorem dX8_sum_7 : decode cX8_sum 7 = .ok (.iconst 0, 1) := by decide +kernel
theorem dX8_sum_8 : decode cX8_sum 8 = .ok (.istore 4, 2) := by decide +kernel
theorem dX8_sum_10 : decode cX8_sum 10 = .ok (.iload 4, 2) := by decide +kernel
theorem dX8_sum_12 : decode cX8_sum 12 = .ok (.iload_n 3, 1) := by decide +kernel
theorem dX8_sum_13 : decode cX8_sum 13 = .ok (.if_icmp .ge 20, 3) := by decide +kernel
theorem dX8_sum_16 : decode cX8_sum 16 = .ok (.aload_n 2, 1) := by decide +kernel
theorem dX8_sum_17 : decode cX8_sum 17 = .ok (.iload 4, 2) := by decide +kernel
theorem dX8_sum_19 : decode cX8_sum 19 = .ok (.iaload, 1) := by decide +kernel
theorem dX8_sum_20 : decode cX8_sum 20 = .ok (.istore 5, 2) := by decide +kernel
theorem dX8_sum_22 : decode cX8_sum 22 = .ok (.iload_n 1, 1) := by decide +kernel
theorem dX8_sum_23 : decode cX8_sum 23 = .ok (.iload 5, 2) := by decide +kernel
theorem dX8_sum_25 : decode cX8_sum 25 = .ok (.iadd, 1) := by decide +kernel
theorem dX8_sum_26 : decode cX8_sum 26 = .ok (.istore_n 1, 1) := by decide +kernel
theorem dX8_sum_27 : decode cX8_sum 27 = .ok (.iinc 4 1, 3) := by decide +kernel
theorem dX8_sum_30 : decode cX8_sum 30 = .ok (.goto (-20), 3) := by decide +kernel
theorem dX8_sum_33 : decode cX8_sum 33 = .ok (.iload_n 1, 1) := by decide +kernel
theorem dX8_sum_34 : decode cX8_sum 34 = .ok (.ireturn, 1) := by decide +kernel
theorem dX8_copy_0 : decode cX8_copy 0 = .ok (.aload_n 0, 1) := by decide +kernel
theorem dX8_copy_1 : decode cX8_copy 1 = .ok (.iconst 0, 1) := by decide +kernel
theorem dX8_copy_2 : decode cX8_copy 2 = .ok (.aload_n 1, 1) := by decide +kernel
theorem dX8_copy_3 : decode cX8_copy 3 = .ok (.iconst 0, 1) := by decide +kernel
theorem dX8_copy_4 : decode cX8_copy 4 = .ok (.aload_n 0, 1) := by decide +kernel
theorem dX8_copy_5 : decode cX8_copy 5 = .ok (.arraylength, 1) := by decide +kernel
theorem dX8_copy_6 : decode cX8_copy 6 = .ok (.aload_n 1, 1) := by decide +kernel
theorem dX8_copy_7 : decode cX8_copy 7 = .ok (.arraylength, 1) := by decide +kernel
theorem dX8_copy_8 : decode cX8_copy 8 = .ok (.invokestatic 340, 3) := by decide +kernel
theorem dX8_copy_11 : decode cX8_copy 11 = .ok (.invokestatic 345, 3) := by decide +kernel
theorem dX8_copy_14 : decode cX8_copy 14 = .ok (.return_, 1) := by decide +kernel
theorem dX9_init_0 : decode cX9_init 0 = .ok (.aload_n 0, 1) := by decide +kernel
theorem dX9_init_1 : decode cX9_init 1 = .ok (.invokespecial 1, 3) := by decide +kernel
theorem dX9_init_4 : decode cX9_init 4 = .ok (.aload_n 0, 1) := by decide +kernel
theorem dX9_init_5 : decode cX9_init 5 = .ok (.iload_n 1, 1) := by decide +kernel
theorem dX9_init_6 : decode cX9_init 6 = .ok (.putfield 7, 3) := by decide +kernel
theorem dX9_init_9 : decode cX9_init 9 = .ok (.return_, 1) := by decide +kernel
theorem dX9_next_0 : decode cX9_next 0 = .ok (.aload_n 0, 1) := by decide +kernel
theorem dX9_next_1 : decode cX9_next 1 = .ok (.aload_n 0, 1) := by decide +kernel
theorem dX9_next_2 : decode cX9_next 2 = .ok (.getfield 7, 3) := by decide +kernel
theorem dX9_next_5 : decode cX9_next 5 = .ok (.ldc 13, 2) := by decide +kernel
theorem dX9_next_7 : decode cX9_next 7 = .ok (.imul, 1) := by decide +kernel
theorem dX9_next_8 : decode cX9_next 8 = .ok (.sipush 12345, 3) := by decide +kernel
theorem dX9_next_11 : decode cX9_next 11 = .ok (.iadd, 1) := by decide +kernel
theorem dX9_next_12 : decode cX9_next 12 = .ok (.putfield 7, 3) := by decide +kernel
theorem dX9_next_15 : decode cX9_next 15 = .ok (.aload_n 0, 1) := by decide +kernel
theorem dX9_next_16 : decode cX9_next 16 = .ok (.getfield 7, 3) := by decide +kernel
theorem dX9_next_19 : decode cX9_next 19 = .ok (.bipush 16, 2) := by decide +kernel
theorem dX9_next_21 : decode cX9_next 21 = .ok (.iushr, 1) := by decide +kernel
theorem dX9_next_22 : decode cX9_next 22 = .ok (.iload_n 1, 1) := by decide +kernel
theorem dX9_next_23 : decode cX9_next 23 = .ok (.irem, 1) := by decide +kernel
theorem dX9_next_24 : decode cX9_next 24 = .ok (.ireturn, 1) := by decide +kernel
theorem dJ5_init_d00df_0 : decode cJ5_init_d00df 0 = .ok (.aload_n 0, 1) := by decide +kernel
theorem dJ5_init_d00df_1 : decode cJ5_init_d00df 1 = .ok (.invokespecial 3, 3) := by decide +kernel
theorem dJ5_init_d00df_4 : decode cJ5_init_d00df 4 = .ok (.getstatic 18, 3) := by decide +kernel
theorem dJ5_init_d00df_7 : decode cJ5_init_d00df 7 = .ok (.ifCond .eq 18, 3) := by decide +kernel
theorem dJ5_init_d00df_10 : decode cJ5_init_d00df 10 = .ok (.aload_n 0, 1) := by decide +kernel
theorem dJ5_init_d00df_11 : decode cJ5_init_d00df 11 = .ok (.iload_n 1, 1) := by decide +kernel
theorem dJ5_init_d00df_12 : decode cJ5_init_d00df 12 = .ok (.newarray .byte, 2) := by decide +kernel
theorem dJ5_init_d00df_14 : decode cJ5_init_d00df 14 = .ok (.putfield 15, 3) := by decide +kernel
theorem dJ5_init_d00df_17 : decode cJ5_init_d00df 17 = .ok (.aload_n 0, 1) := by decide +kernel
theorem dJ5_init_d00df_18 : decode cJ5_init_d00df 18 = .ok (.iconst 0, 1) := by decide +kernel
theorem dJ5_init_d00df_19 : decode cJ5_init_d00df 19 = .ok (.putfield 22, 3) := by decide +kernel
theorem dJ5_init_d00df_22 : decode cJ5_init_d00df 22 = .ok (.goto 16, 3) := by decide +kernel
theorem dJ5_init_d00df_25 : decode cJ5_init_d00df 25 = .ok (.aload_n 0, 1) := by decide +kernel
theorem dJ5_init_d00df_26 : decode cJ5_init_d00df 26 = .ok (.iload_n 1, 1) := by decide +kernel
theorem dJ5_init_d00df_27 : decode cJ5_init_d00df 27 = .ok (.invokestatic 26, 3) := by decide +kernel
theorem dJ5_init_d00df_30 : decode cJ5_init_d00df 30 = .ok (.putfield 15, 3) := by decide +kernel
theorem dJ5_init_d00df_33 : decode cJ5_init_d00df 33 = .ok (.aload_n 0, 1) := by decide +kernel
theorem dJ5_init_d00df_34 : decode cJ5_init_d00df 34 = .ok (.iconst 1, 1) := by decide +kernel
theorem dJ5_init_d00df_35 : decode cJ5_init_d00df 35 = .ok (.putfield 22, 3) := by decide +kernel
theorem dJ5_init_d00df_38 : decode cJ5_init_d00df 38 = .ok (.return_, 1) := by decide +kernel
theorem dJ5_length_8abf5_0 : decode cJ5_length_8abf5 0 = .ok (.aload_n 0, 1) := by decide +kernel
theorem dJ5_length_8abf5_1 : decode cJ5_length_8abf5 1 = .ok (.getfield 79, 3) := by decide +kernel
theorem dJ5_length_8abf5_4 : decode cJ5_length_8abf5 4 = .ok (.ireturn, 1) := by decide +kernel
theorem dJ5_ensureCapacityInternal_d00df_0 : decode cJ5_ensureCapacityInternal_d00df 0 = .ok (.aload_n 0, 1) := by decide +kernel
theorem dJ5_ensureCapacityInternal_d00df_1 : decode cJ5_ensureCapacityInternal_d00df 1 = .ok (.getfield 15, 3) := by decide +kernel
theorem dJ5_ensureCapacityInternal_d00df_4 : decode cJ5_ensureCapacityInternal_d00df 4 = .ok (.arraylength, 1) := by decide +kernel
theorem dJ5_ensureCapacityInternal_d00df_5 : decode cJ5_ensureCapacityInternal_d00df 5 = .ok (.aload_n 0, 1) := by decide +kernel
theorem dJ5_ensureCapacityInternal_d00df_6 : decode cJ5_ensureCapacityInternal_d00df 6 = .ok (.getfield 22, 3) := by decide +kernel
theorem dJ5_ensureCapacityInternal_d00df_9 : decode cJ5_ensureCapacityInternal_d00df 9 = .ok (.ishr, 1) := by decide +kernel
theorem dJ5_ensureCapacityInternal_d00df_10 : decode cJ5_ensureCapacityInternal_d00df 10 = .ok (.istore_n 2, 1) := by decide +kernel
theorem dJ5_ensureCapacityInternal_d00df_11 : decode cJ5_ensureCapacityInternal_d00df 11 = .ok (.iload_n 1, 1) := by decide +kernel
theorem dJ5_ensureCapacityInternal_d00df_12 : decode cJ5_ensureCapacityInternal_d00df 12 = .ok (.iload_n 2, 1) := by decide +kernel
theorem dJ5_ensureCapacityInternal_d00df_13 : decode cJ5_ensureCapacityInternal_d00df 13 = .ok (.isub, 1) := by decide +kernel
theorem dJ5_ensureCapacityInternal_d00df_14 : decode cJ5_ensureCapacityInternal_d00df 14 = .ok (.ifCond .le 24, 3) := by decide +kernel
theorem dJ5_ensureCapacityInternal_d00df_17 : decode cJ5_ensureCapacityInternal_d00df 17 = .ok (.aload_n 0, 1) := by decide +kernel
theorem dJ5_ensureCapacityInternal_d00df_18 : decode cJ5_ensureCapacityInternal_d00df 18 = .ok (.aload_n 0, 1) := by decide +kernel
theorem dJ5_ensureCapacityInternal_d00df_19 : decode cJ5_ensureCapacityInternal_d00df 19 = .ok (.getfield 15, 3) := by decide +kernel
theorem dJ5_ensureCapacityInternal_d00df_22 : decode cJ5_ensureCapacityInternal_d00df 22 = .ok (.aload_n 0, 1) := by decide +kernel
theorem dJ5_ensureCapacityInternal_d00df_23 : decode cJ5_ensureCapacityInternal_d00df 23 = .ok (.iload_n 1, 1) := by decide +kernel
theorem dJ5_ensureCapacityInternal_d00df_24 : decode cJ5_ensureCapacityInternal_d00df 24 = .ok (.invokevirtual 104, 3) := by decide +kernel
theorem dJ5_ensureCapacityInternal_d00df_27 : decode cJ5_ensureCapacityInternal_d00df 27 = .ok (.aload_n 0, 1) := by decide +kernel
theorem dJ5_ensureCapacityInternal_d00df_28 : decode cJ5_ensureCapacityInternal_d00df 28 = .ok (.getfield 22, 3) := by decide +kernel
theorem dJ5_ensureCapacityInternal_d00df_31 : decode cJ5_ensureCapacityInternal_d00df 31 = .ok (.ishl, 1) := by decide +kernel
theorem dJ5_ensureCapacityInternal_d00df_32 : decode cJ5_ensureCapacityInternal_d00df 32 = .ok (.invokestatic 108, 3) := by decide +kernel
theorem dJ5_ensureCapacityInternal_d00df_35 : decode cJ5_ensureCapacityInternal_d00df 35 = .ok (.putfield 15, 3) := by decide +kernel
theorem dJ5_ensureCapacityInternal_d00df_38 : decode cJ5_ensureCapacityInternal_d00df 38 = .ok (.return_, 1) := by decide +kernel
theorem dJ5_newCapacity_0f7a4_0 : decode cJ5_newCapacity_0f7a4 0 = .ok (.aload_n 0, 1) := by decide +kernel
theorem dJ5_newCapacity_0f7a4_1 : decode cJ5_newCapacity_0f7a4 1 = .ok (.getfield 15, 3) := by decide +kernel
theorem dJ5_newCapacity_0f7a4_4 : decode cJ5_newCapacity_0f7a4 4 = .ok (.arraylength, 1) := by decide +kernel
theorem dJ5_newCapacity_0f7a4_5 : decode cJ5_newCapacity_0f7a4 5 = .ok (.istore_n 2, 1) := by decide +kernel
theorem dJ5_newCapacity_0f7a4_6 : decode cJ5_newCapacity_0f7a4 6 = .ok (.iload_n 1, 1) := by decide +kernel
theorem dJ5_newCapacity_0f7a4_7 : decode cJ5_newCapacity_0f7a4 7 = .ok (.aload_n 0, 1) := by decide +kernel
theorem dJ5_newCapacity_0f7a4_8 : decode cJ5_newCapacity_0f7a4 8 = .ok (.getfield 22, 3) := by decide +kernel
theorem dJ5_newCapacity_0f7a4_11 : decode cJ5_newCapacity_0f7a4 11 = .ok (.ishl, 1) := by decide +kernel
theorem dJ5_newCapacity_0f7a4_12 : decode cJ5_newCapacity_0f7a4 12 = .ok (.istore_n 3, 1) := by decide +kernel
theorem dJ5_newCapacity_0f7a4_13 : decode cJ5_newCapacity_0f7a4 13 = .ok (.iload_n 3, 1) := by decide +kernel
theorem dJ5_newCapacity_0f7a4_14 : decode cJ5_newCapacity_0f7a4 14 = .ok (.iload_n 2, 1) := by decide +kernel
theorem dJ5_newCapacity_0f7a4_15 : decode cJ5_newCapacity_0f7a4 15 = .ok (.isub, 1) := by decide +kernel
theorem dJ5_newCapacity_0f7a4_16 : decode cJ5_newCapacity_0f7a4 16 = .ok (.istore 4, 2) := by decide +kernel
theorem dJ5_newCapacity_0f7a4_18 : decode cJ5_newCapacity_0f7a4 18 = .ok (.iload_n 2, 1) := by decide +kernel
theorem dJ5_newCapacity_0f7a4_19 : decode cJ5_newCapacity_0f7a4 19 = .ok (.iload 4, 2) := by decide +kernel
theorem dJ5_newCapacity_0f7a4_21 : decode cJ5_newCapacity_0f7a4 21 = .ok (.iload_n 2, 1) := by decide +kernel
theorem dJ5_newCapacity_0f7a4_22 : decode cJ5_newCapacity_0f7a4 22 = .ok (.iconst 2, 1) := by decide +kernel
theorem dJ5_newCapacity_0f7a4_23 : decode cJ5_newCapacity_0f7a4 23 = .ok (.aload_n 0, 1) := by decide +kernel
theorem dJ5_newCapacity_0f7a4_24 : decode cJ5_newCapacity_0f7a4 24 = .ok (.getfield 22, 3) := by decide +kernel
theorem dJ5_newCapacity_0f7a4_27 : decode cJ5_newCapacity_0f7a4 27 = .ok (.ishl, 1) := by decide +kernel
theorem dJ5_newCapacity_0f7a4_28 : decode cJ5_newCapacity_0f7a4 28 = .ok (.iadd, 1) := by decide +kernel
theorem dJ5_newCapacity_0f7a4_29 : decode cJ5_newCapacity_0f7a4 29 = .ok (.invokestatic 114, 3) := by decide +kernel
theorem dJ5_newCapacity_0f7a4_32 : decode cJ5_newCapacity_0f7a4 32 = .ok (.istore 5, 2) := by decide +kernel
theorem dJ5_newCapacity_0f7a4_34 : decode cJ5_newCapacity_0f7a4 34 = .ok (.iload 5, 2) := by decide +kernel
theorem dJ5_newCapacity_0f7a4_36 : decode cJ5_newCapacity_0f7a4 36 = .ok (.ldc 39, 2) := by decide +kernel
theorem dJ5_newCapacity_0f7a4_38 : decode cJ5_newCapacity_0f7a4 38 = .ok (.if_icmp .ne 13, 3) := by decide +kernel
theorem dJ5_newCapacity_0f7a4_41 : decode cJ5_newCapacity_0f7a4 41 = .ok (.new 120, 3) := by decide +kernel
theorem dJ5_newCapacity_0f7a4_44 : decode cJ5_newCapacity_0f7a4 44 = .ok (.dup, 1) := by decide +kernel
theorem dJ5_newCapacity_0f7a4_45 : decode cJ5_newCapacity_0f7a4 45 = .ok (.ldc 122, 2) := by decide +kernel
theorem dJ5_newCapacity_0f7a4_47 : decode cJ5_newCapacity_0f7a4 47 = .ok (.invokespecial 124, 3) := by decide +kernel
theorem dJ5_newCapacity_0f7a4_50 : decode cJ5_newCapacity_0f7a4 50 = .ok (.athrow, 1) := by decide +kernel
theorem dJ5_newCapacity_0f7a4_51 : decode cJ5_newCapacity_0f7a4 51 = .ok (.iload 5, 2) := by decide +kernel
theorem dJ5_newCapacity_0f7a4_53 : decode cJ5_newCapacity_0f7a4 53 = .ok (.aload_n 0, 1) := by decide +kernel
theorem dJ5_newCapacity_0f7a4_54 : decode cJ5_newCapacity_0f7a4 54 = .ok (.getfield 22, 3) := by decide +kernel
theorem dJ5_newCapacity_0f7a4_57 : decode cJ5_newCapacity_0f7a4 57 = .ok (.ishr, 1) := by decide +kernel
theorem dJ5_newCapacity_0f7a4_58 : decode cJ5_newCapacity_0f7a4 58 = .ok (.ireturn, 1) := by decide +kernel
theorem dJ5_append_cf1ce_0 : decode cJ5_append_cf1ce 0 = .ok (.aload_n 1, 1) := by decide +kernel
theorem dJ5_append_cf1ce_1 : decode cJ5_append_cf1ce 1 = .ok (.ifnonnull 8, 3) := by decide +kernel
theorem dJ5_append_cf1ce_4 : decode cJ5_append_cf1ce 4 = .ok (.aload_n 0, 1) := by decide +kernel
theorem dJ5_append_cf1ce_5 : decode cJ5_append_cf1ce 5 = .ok (.invokevirtual 204, 3) := by decide +kernel
theorem dJ5_append_cf1ce_8 : decode cJ5_append_cf1ce 8 = .ok (.areturn, 1) := by decide +kernel
theorem dJ5_append_cf1ce_9 : decode cJ5_append_cf1ce 9 = .ok (.aload_n 1, 1) := by decide +kernel
theorem dJ5_append_cf1ce_10 : decode cJ5_append_cf1ce 10 = .ok (.invokevirtual 32, 3) := by decide +kernel
theorem dJ5_append_cf1ce_13 : decode cJ5_append_cf1ce 13 = .ok (.istore_n 2, 1) := by decide +kernel
theorem dJ5_append_cf1ce_14 : decode cJ5_append_cf1ce 14 = .ok (.aload_n 0, 1) := by decide +kernel
theorem dJ5_append_cf1ce_15 : decode cJ5_append_cf1ce 15 = .ok (.aload_n 0, 1) := by decide +kernel
theorem dJ5_append_cf1ce_16 : decode cJ5_append_cf1ce 16 = .ok (.getfield 79, 3) := by decide +kernel
theorem dJ5_append_cf1ce_19 : decode cJ5_append_cf1ce 19 = .ok (.iload_n 2, 1) := by decide +kernel
theorem dJ5_append_cf1ce_20 : decode cJ5_append_cf1ce 20 = .ok (.iadd, 1) := by decide +kernel
theorem dJ5_append_cf1ce_21 : decode cJ5_append_cf1ce 21 = .ok (.invokevirtual 100, 3) := by decide +kernel
theorem dJ5_append_cf1ce_24 : decode cJ5_append_cf1ce 24 = .ok (.aload_n 0, 1) := by decide +kernel
theorem dJ5_append_cf1ce_25 : decode cJ5_append_cf1ce 25 = .ok (.aload_n 0, 1) := by decide +kernel
theorem dJ5_append_cf1ce_26 : decode cJ5_append_cf1ce 26 = .ok (.getfield 79, 3) := by decide +kernel
theorem dJ5_append_cf1ce_29 : decode cJ5_append_cf1ce 29 = .ok (.aload_n 1, 1) := by decide +kernel
theorem dJ5_append_cf1ce_30 : decode cJ5_append_cf1ce 30 = .ok (.invokevirtual 208, 3) := by decide +kernel
theorem dJ5_append_cf1ce_33 : decode cJ5_append_cf1ce 33 = .ok (.aload_n 0, 1) := by decide +kernel
theorem dJ5_append_cf1ce_34 : decode cJ5_append_cf1ce 34 = .ok (.dup, 1) := by decide +kernel
theorem dJ5_append_cf1ce_35 : decode cJ5_append_cf1ce 35 = .ok (.getfield 79, 3) := by decide +kernel
theorem dJ5_append_cf1ce_38 : decode cJ5_append_cf1ce 38 = .ok (.iload_n 2, 1) := by decide +kernel
theorem dJ5_append_cf1ce_39 : decode cJ5_append_cf1ce 39 = .ok (.iadd, 1) := by decide +kernel
theorem dJ5_append_cf1ce_40 : decode cJ5_append_cf1ce 40 = .ok (.putfield 79, 3) := by decide +kernel
theorem dJ5_append_cf1ce_43 : decode cJ5_append_cf1ce 43 = .ok (.aload_n 0, 1) := by decide +kernel
theorem dJ5_append_cf1ce_44 : decode cJ5_append_cf1ce 44 = .ok (.areturn, 1) := by decide +kernel
theorem dJ5_append_3fe6f_0 : decode cJ5_append_3fe6f 0 = .ok (.aload_n 0, 1) := by decide +kernel
theorem dJ5_append_3fe6f_1 : decode cJ5_append_3fe6f 1 = .ok (.aload_n 0, 1) := by decide +kernel
theorem dJ5_append_3fe6f_2 : decode cJ5_append_3fe6f 2 = .ok (.getfield 79, 3) := by decide +kernel
theorem dJ5_append_3fe6f_5 : decode cJ5_append_3fe6f 5 = .ok (.iconst 1, 1) := by decide +kernel
theorem dJ5_append_3fe6f_6 : decode cJ5_append_3fe6f 6 = .ok (.iadd, 1) := by decide +kernel
theorem dJ5_append_3fe6f_7 : decode cJ5_append_3fe6f 7 = .ok (.invokevirtual 100, 3) := by decide +kernel
theorem dJ5_append_3fe6f_10 : decode cJ5_append_3fe6f 10 = .ok (.aload_n 0, 1) := by decide +kernel
theorem dJ5_append_3fe6f_11 : decode cJ5_append_3fe6f 11 = .ok (.invokevirtual 83, 3) := by decide +kernel
theorem dJ5_append_3fe6f_14 : decode cJ5_append_3fe6f 14 = .ok (.ifCond .eq 31, 3) := by decide +kernel
theorem dJ5_append_3fe6f_17 : decode cJ5_append_3fe6f 17 = .ok (.iload_n 1, 1) := by decide +kernel
theorem dJ5_append_3fe6f_18 : decode cJ5_append_3fe6f 18 = .ok (.invokestatic 191, 3) := by decide +kernel
theorem dJ5_append_3fe6f_21 : decode cJ5_append_3fe6f 21 = .ok (.ifCond .eq 24, 3) := by decide +kernel
theorem dJ5_append_3fe6f_24 : decode cJ5_append_3fe6f 24 = .ok (.aload_n 0, 1) := by decide +kernel
theorem dJ5_append_3fe6f_25 : decode cJ5_append_3fe6f 25 = .ok (.getfield 15, 3) := by decide +kernel
theorem dJ5_append_3fe6f_28 : decode cJ5_append_3fe6f 28 = .ok (.aload_n 0, 1) := by decide +kernel
theorem dJ5_append_3fe6f_29 : decode cJ5_append_3fe6f 29 = .ok (.dup, 1) := by decide +kernel
theorem dJ5_append_3fe6f_30 : decode cJ5_append_3fe6f 30 = .ok (.getfield 79, 3) := by decide +kernel
theorem dJ5_append_3fe6f_33 : decode cJ5_append_3fe6f 33 = .ok (.dup_x1, 1) := by decide +kernel
theorem dJ5_append_3fe6f_34 : decode cJ5_append_3fe6f 34 = .ok (.iconst 1, 1) := by decide +kernel
theorem dJ5_append_3fe6f_35 : decode cJ5_append_3fe6f 35 = .ok (.iadd, 1) := by decide +kernel
theorem dJ5_append_3fe6f_36 : decode cJ5_append_3fe6f 36 = .ok (.putfield 79, 3) := by decide +kernel
theorem dJ5_append_3fe6f_39 : decode cJ5_append_3fe6f 39 = .ok (.iload_n 1, 1) := by decide +kernel
theorem dJ5_append_3fe6f_40 : decode cJ5_append_3fe6f 40 = .ok (.i2b, 1) := by decide +kernel
theorem dJ5_append_3fe6f_41 : decode cJ5_append_3fe6f 41 = .ok (.bastore, 1) := by decide +kernel
theorem dJ5_append_3fe6f_42 : decode cJ5_append_3fe6f 42 = .ok (.goto 33, 3) := by decide +kernel
theorem dJ5_append_3fe6f_45 : decode cJ5_append_3fe6f 45 = .ok (.aload_n 0, 1) := by decide +kernel
theorem dJ5_append_3fe6f_46 : decode cJ5_append_3fe6f 46 = .ok (.invokevirtual 83, 3) := by decide +kernel
theorem dJ5_append_3fe6f_49 : decode cJ5_append_3fe6f 49 = .ok (.ifCond .eq 7, 3) := by decide +kernel
theorem dJ5_append_3fe6f_52 : decode cJ5_append_3fe6f 52 = .ok (.aload_n 0, 1) := by decide +kernel
theorem dJ5_append_3fe6f_53 : decode cJ5_append_3fe6f 53 = .ok (.invokevirtual 195, 3) := by decide +kernel
theorem dJ5_append_3fe6f_56 : decode cJ5_append_3fe6f 56 = .ok (.aload_n 0, 1) := by decide +kernel
theorem dJ5_append_3fe6f_57 : decode cJ5_append_3fe6f 57 = .ok (.getfield 15, 3) := by decide +kernel
theorem dJ5_append_3fe6f_60 : decode cJ5_append_3fe6f 60 = .ok (.aload_n 0, 1) := by decide +kernel
theorem dJ5_append_3fe6f_61 : decode cJ5_append_3fe6f 61 = .ok (.dup, 1) := by decide +kernel
theorem dJ5_append_3fe6f_62 : decode cJ5_append_3fe6f 62 = .ok (.getfield 79, 3) := by decide +kernel
theorem dJ5_append_3fe6f_65 : decode cJ5_append_3fe6f 65 = .ok (.dup_x1, 1) := by decide +kernel
theorem dJ5_append_3fe6f_66 : decode cJ5_append_3fe6f 66 = .ok (.iconst 1, 1) := by decide +kernel
theorem dJ5_append_3fe6f_67 : decode cJ5_append_3fe6f 67 = .ok (.iadd, 1) := by decide +kernel
theorem dJ5_append_3fe6f_68 : decode cJ5_append_3fe6f 68 = .ok (.putfield 79, 3) := by decide +kernel
theorem dJ5_append_3fe6f_71 : decode cJ5_append_3fe6f 71 = .ok (.iload_n 1, 1) := by decide +kernel
theorem dJ5_append_3fe6f_72 : decode cJ5_append_3fe6f 72 = .ok (.invokestatic 197, 3) := by decide +kernel
theorem dJ5_append_3fe6f_75 : decode cJ5_append_3fe6f 75 = .ok (.aload_n 0, 1) := by decide +kernel
theorem dJ5_append_3fe6f_76 : decode cJ5_append_3fe6f 76 = .ok (.areturn, 1) := by decide +kernel
theorem dJ5_append_c97b9_0 : decode cJ5_append_c97b9 0 = .ok (.aload_n 0, 1) := by decide +kernel
theorem dJ5_append_c97b9_1 : decode cJ5_append_c97b9 1 = .ok (.getfield 79, 3) := by decide +kernel
theorem dJ5_append_c97b9_4 : decode cJ5_append_c97b9 4 = .ok (.istore_n 2, 1) := by decide +kernel
theorem dJ5_append_c97b9_5 : decode cJ5_append_c97b9 5 = .ok (.iload_n 2, 1) := by decide +kernel
theorem dJ5_append_c97b9_6 : decode cJ5_append_c97b9 6 = .ok (.iload_n 1, 1) := by decide +kernel
theorem dJ5_append_c97b9_7 : decode cJ5_append_c97b9 7 = .ok (.invokestatic 245, 3) := by decide +kernel
theorem dJ5_append_c97b9_10 : decode cJ5_append_c97b9 10 = .ok (.iadd, 1) := by decide +kernel
theorem dJ5_append_c97b9_11 : decode cJ5_append_c97b9 11 = .ok (.istore_n 3, 1) := by decide +kernel
theorem dJ5_append_c97b9_12 : decode cJ5_append_c97b9 12 = .ok (.aload_n 0, 1) := by decide +kernel
theorem dJ5_append_c97b9_13 : decode cJ5_append_c97b9 13 = .ok (.iload_n 3, 1) := by decide +kernel
theorem dJ5_append_c97b9_14 : decode cJ5_append_c97b9 14 = .ok (.invokevirtual 100, 3) := by decide +kernel
theorem dJ5_append_c97b9_17 : decode cJ5_append_c97b9 17 = .ok (.aload_n 0, 1) := by decide +kernel
theorem dJ5_append_c97b9_18 : decode cJ5_append_c97b9 18 = .ok (.invokevirtual 83, 3) := by decide +kernel
theorem dJ5_append_c97b9_21 : decode cJ5_append_c97b9 21 = .ok (.ifCond .eq 16, 3) := by decide +kernel
theorem dJ5_append_c97b9_24 : decode cJ5_append_c97b9 24 = .ok (.iload_n 1, 1) := by decide +kernel
theorem dJ5_append_c97b9_25 : decode cJ5_append_c97b9 25 = .ok (.iload_n 3, 1) := by decide +kernel
theorem dJ5_append_c97b9_26 : decode cJ5_append_c97b9 26 = .ok (.aload_n 0, 1) := by decide +kernel
theorem dJ5_append_c97b9_27 : decode cJ5_append_c97b9 27 = .ok (.getfield 15, 3) := by decide +kernel
theorem dJ5_append_c97b9_30 : decode cJ5_append_c97b9 30 = .ok (.invokestatic 248, 3) := by decide +kernel
theorem dJ5_append_c97b9_33 : decode cJ5_append_c97b9 33 = .ok (.pop, 1) := by decide +kernel
theorem dJ5_append_c97b9_34 : decode cJ5_append_c97b9 34 = .ok (.goto 14, 3) := by decide +kernel
theorem dJ5_append_c97b9_37 : decode cJ5_append_c97b9 37 = .ok (.iload_n 1, 1) := by decide +kernel
theorem dJ5_append_c97b9_38 : decode cJ5_append_c97b9 38 = .ok (.iload_n 2, 1) := by decide +kernel
theorem dJ5_append_c97b9_39 : decode cJ5_append_c97b9 39 = .ok (.iload_n 3, 1) := by decide +kernel
theorem dJ5_append_c97b9_40 : decode cJ5_append_c97b9 40 = .ok (.aload_n 0, 1) := by decide +kernel
theorem dJ5_append_c97b9_41 : decode cJ5_append_c97b9 41 = .ok (.getfield 15, 3) := by decide +kernel
theorem dJ5_append_c97b9_44 : decode cJ5_append_c97b9 44 = .ok (.invokestatic 251, 3) := by decide +kernel
theorem dJ5_append_c97b9_47 : decode cJ5_append_c97b9 47 = .ok (.pop, 1) := by decide +kernel
theorem dJ5_append_c97b9_48 : decode cJ5_append_c97b9 48 = .ok (.aload_n 0, 1) := by decide +kernel
theorem dJ5_append_c97b9_49 : decode cJ5_append_c97b9 49 = .ok (.iload_n 3, 1) := by decide +kernel
theorem dJ5_append_c97b9_50 : decode cJ5_append_c97b9 50 = .ok (.putfield 79, 3) := by decide +kernel
theorem dJ5_append_c97b9_53 : decode cJ5_append_c97b9 53 = .ok (.aload_n 0, 1) := by decide +kernel
theorem dJ5_append_c97b9_54 : decode cJ5_append_c97b9 54 = .ok (.areturn, 1) := by decide +kernel
theorem dJ5_getValue_6d5f1_0 : decode cJ5_getValue_6d5f1 0 = .ok (.aload_n 0, 1) := by decide +kernel
theorem dJ5_getValue_6d5f1_1 : decode cJ5_getValue_6d5f1 1 = .ok (.getfield 15, 3) := by decide +kernel
theorem dJ5_getValue_6d5f1_4 : decode cJ5_getValue_6d5f1 4 = .ok (.areturn, 1) := by decide +kernel
theorem dJ5_isLatin1_aae02_0 : decode cJ5_isLatin1_aae02 0 = .ok (.getstatic 18, 3) := by decide +kernel
theorem dJ5_isLatin1_aae02_3 : decode cJ5_isLatin1_aae02 3 = .ok (.ifCond .eq 14, 3) := by decide +kernel
theorem dJ5_isLatin1_aae02_6 : decode cJ5_isLatin1_aae02 6 = .ok (.aload_n 0, 1) := by decide +kernel
theorem dJ5_isLatin1_aae02_7 : decode cJ5_isLatin1_aae02 7 = .ok (.getfield 22, 3) := by decide +kernel
theorem dJ5_isLatin1_aae02_10 : decode cJ5_isLatin1_aae02 10 = .ok (.ifCond .ne 7, 3) := by decide +kernel
theorem dJ5_isLatin1_aae02_13 : decode cJ5_isLatin1_aae02 13 = .ok (.iconst 1, 1) := by decide +kernel
theorem dJ5_isLatin1_aae02_14 : decode cJ5_isLatin1_aae02 14 = .ok (.goto 4, 3) := by decide +kernel
theorem dJ5_isLatin1_aae02_17 : decode cJ5_isLatin1_aae02 17 = .ok (.iconst 0, 1) := by decide +kernel
theorem dJ5_isLatin1_aae02_18 : decode cJ5_isLatin1_aae02 18 = .ok (.ireturn, 1) := by decide +kernel
theorem dJ5_inflateIfNeededFor_a7421_0 : decode cJ5_inflateIfNeededFor_a7421 0 = .ok (.getstatic 18, 3) := by decide +kernel
theorem dJ5_inflateIfNeededFor_a7421_3 : decode cJ5_inflateIfNeededFor_a7421 3 = .ok (.ifCond .eq 18, 3) := by decide +kernel
theorem dJ5_inflateIfNeededFor_a7421_6 : decode cJ5_inflateIfNeededFor_a7421 6 = .ok (.aload_n 0, 1) := by decide +kernel
theorem dJ5_inflateIfNeededFor_a7421_7 : decode cJ5_inflateIfNeededFor_a7421 7 = .ok (.getfield 22, 3) := by decide +kernel
theorem dJ5_inflateIfNeededFor_a7421_10 : decode cJ5_inflateIfNeededFor_a7421 10 = .ok (.aload_n 1, 1) := by decide +kernel
theorem dJ5_inflateIfNeededFor_a7421_11 : decode cJ5_inflateIfNeededFor_a7421 11 = .ok (.invokevirtual 40, 3) := by decide +kernel
theorem dJ5_inflateIfNeededFor_a7421_14 : decode cJ5_inflateIfNeededFor_a7421 14 = .ok (.if_icmp .eq 7, 3) := by decide +kernel
theorem dJ5_inflateIfNeededFor_a7421_17 : decode cJ5_inflateIfNeededFor_a7421 17 = .ok (.aload_n 0, 1) := by decide +kernel
theorem dJ5_inflateIfNeededFor_a7421_18 : decode cJ5_inflateIfNeededFor_a7421 18 = .ok (.invokevirtual 195, 3) := by decide +kernel
theorem dJ5_inflateIfNeededFor_a7421_21 : decode cJ5_inflateIfNeededFor_a7421 21 = .ok (.return_, 1) := by decide +kernel
theorem dJ5_putStringAt_47b60_0 : decode cJ5_putStringAt_47b60 0 = .ok (.aload_n 0, 1) := by decide +kernel
theorem dJ5_putStringAt_47b60_1 : decode cJ5_putStringAt_47b60 1 = .ok (.aload_n 2, 1) := by decide +kernel
theorem dJ5_putStringAt_47b60_2 : decode cJ5_putStringAt_47b60 2 = .ok (.invokevirtual 397, 3) := by decide +kernel
theorem dJ5_putStringAt_47b60_5 : decode cJ5_putStringAt_47b60 5 = .ok (.aload_n 2, 1) := by decide +kernel
theorem dJ5_putStringAt_47b60_6 : decode cJ5_putStringAt_47b60 6 = .ok (.aload_n 0, 1) := by decide +kernel
theorem dJ5_putStringAt_47b60_7 : decode cJ5_putStringAt_47b60 7 = .ok (.getfield 15, 3) := by decide +kernel
theorem dJ5_putStringAt_47b60_10 : decode cJ5_putStringAt_47b60 10 = .ok (.iload_n 1, 1) := by decide +kernel
theorem dJ5_putStringAt_47b60_11 : decode cJ5_putStringAt_47b60 11 = .ok (.aload_n 0, 1) := by decide +kernel
theorem dJ5_putStringAt_47b60_12 : decode cJ5_putStringAt_47b60 12 = .ok (.getfield 22, 3) := by decide +kernel
theorem dJ5_putStringAt_47b60_15 : decode cJ5_putStringAt_47b60 15 = .ok (.invokevirtual 399, 3) := by decide +kernel
theorem dJ5_putStringAt_47b60_18 : decode cJ5_putStringAt_47b60 18 = .ok (.return_, 1) := by decide +kernel
theorem dJ6_getChars_ba4f3_0 : decode cJ6_getChars_ba4f3 0 = .ok (.iload_n 1, 1) := by decide +kernel
theorem dJ6_getChars_ba4f3_1 : decode cJ6_getChars_ba4f3 1 = .ok (.istore 5, 2) := by decide +kernel
theorem dJ6_getChars_ba4f3_3 : decode cJ6_getChars_ba4f3 3 = .ok (.iload_n 0, 1) := by decide +kernel
theorem dJ6_getChars_ba4f3_4 : decode cJ6_getChars_ba4f3 4 = .ok (.ifCond .ge 7, 3) := by decide +kernel
theorem dJ6_getChars_ba4f3_7 : decode cJ6_getChars_ba4f3 7 = .ok (.iconst 1, 1) := by decide +kernel
theorem dJ6_getChars_ba4f3_8 : decode cJ6_getChars_ba4f3 8 = .ok (.goto 4, 3) := by decide +kernel
theorem dJ6_getChars_ba4f3_11 : decode cJ6_getChars_ba4f3 11 = .ok (.iconst 0, 1) := by decide +kernel
theorem dJ6_getChars_ba4f3_12 : decode cJ6_getChars_ba4f3 12 = .ok (.istore 6, 2) := by decide +kernel
theorem dJ6_getChars_ba4f3_14 : decode cJ6_getChars_ba4f3 14 = .ok (.iload 6, 2) := by decide +kernel
theorem dJ6_getChars_ba4f3_16 : decode cJ6_getChars_ba4f3 16 = .ok (.ifCond .ne 6, 3) := by decide +kernel
theorem dJ6_getChars_ba4f3_19 : decode cJ6_getChars_ba4f3 19 = .ok (.iload_n 0, 1) := by decide +kernel
theorem dJ6_getChars_ba4f3_20 : decode cJ6_getChars_ba4f3 20 = .ok (.ineg, 1) := by decide +kernel
theorem dJ6_getChars_ba4f3_21 : decode cJ6_getChars_ba4f3 21 = .ok (.istore_n 0, 1) := by decide +kernel
theorem dJ6_getChars_ba4f3_22 : decode cJ6_getChars_ba4f3 22 = .ok (.iload_n 0, 1) := by decide +kernel
theorem dJ6_getChars_ba4f3_23 : decode cJ6_getChars_ba4f3 23 = .ok (.bipush (-100), 2) := by decide +kernel
theorem dJ6_getChars_ba4f3_25 : decode cJ6_getChars_ba4f3 25 = .ok (.if_icmp .gt 47, 3) := by decide +kernel
theorem dJ6_getChars_ba4f3_28 : decode cJ6_getChars_ba4f3 28 = .ok (.iload_n 0, 1) := by decide +kernel
theorem dJ6_getChars_ba4f3_29 : decode cJ6_getChars_ba4f3 29 = .ok (.bipush 100, 2) := by decide +kernel
theorem dJ6_getChars_ba4f3_31 : decode cJ6_getChars_ba4f3 31 = .ok (.idiv, 1) := by decide +kernel
theorem dJ6_getChars_ba4f3_32 : decode cJ6_getChars_ba4f3 32 = .ok (.istore_n 3, 1) := by decide +kernel
theorem dJ6_getChars_ba4f3_33 : decode cJ6_getChars_ba4f3 33 = .ok (.iload_n 3, 1) := by decide +kernel
theorem dJ6_getChars_ba4f3_34 : decode cJ6_getChars_ba4f3 34 = .ok (.bipush 100, 2) := by decide +kernel
theorem dJ6_getChars_ba4f3_36 : decode cJ6_getChars_ba4f3 36 = .ok (.imul, 1) := by decide +kernel
theorem dJ6_getChars_ba4f3_37 : decode cJ6_getChars_ba4f3 37 = .ok (.iload_n 0, 1) := by decide +kernel
theorem dJ6_getChars_ba4f3_38 : decode cJ6_getChars_ba4f3 38 = .ok (.isub, 1) := by decide +kernel
theorem dJ6_getChars_ba4f3_39 : decode cJ6_getChars_ba4f3 39 = .ok (.istore 4, 2) := by decide +kernel
theorem dJ6_getChars_ba4f3_41 : decode cJ6_getChars_ba4f3 41 = .ok (.iload_n 3, 1) := by decide +kernel
theorem dJ6_getChars_ba4f3_42 : decode cJ6_getChars_ba4f3 42 = .ok (.istore_n 0, 1) := by decide +kernel
theorem dJ6_getChars_ba4f3_43 : decode cJ6_getChars_ba4f3 43 = .ok (.aload_n 2, 1) := by decide +kernel
theorem dJ6_getChars_ba4f3_44 : decode cJ6_getChars_ba4f3 44 = .ok (.iinc 5 (-1), 3) := by decide +kernel
theorem dJ6_getChars_ba4f3_47 : decode cJ6_getChars_ba4f3 47 = .ok (.iload 5, 2) := by decide +kernel
theorem dJ6_getChars_ba4f3_49 : decode cJ6_getChars_ba4f3 49 = .ok (.getstatic 83, 3) := by decide +kernel
theorem dJ6_getChars_ba4f3_52 : decode cJ6_getChars_ba4f3 52 = .ok (.iload 4, 2) := by decide +kernel
theorem dJ6_getChars_ba4f3_54 : decode cJ6_getChars_ba4f3 54 = .ok (.baload, 1) := by decide +kernel
theorem dJ6_getChars_ba4f3_55 : decode cJ6_getChars_ba4f3 55 = .ok (.bastore, 1) := by decide +kernel
theorem dJ6_getChars_ba4f3_56 : decode cJ6_getChars_ba4f3 56 = .ok (.aload_n 2, 1) := by decide +kernel
theorem dJ6_getChars_ba4f3_57 : decode cJ6_getChars_ba4f3 57 = .ok (.iinc 5 (-1), 3) := by decide +kernel
theorem dJ6_getChars_ba4f3_60 : decode cJ6_getChars_ba4f3 60 = .ok (.iload 5, 2) := by decide +kernel
theorem dJ6_getChars_ba4f3_62 : decode cJ6_getChars_ba4f3 62 = .ok (.getstatic 87, 3) := by decide +kernel
theorem dJ6_getChars_ba4f3_65 : decode cJ6_getChars_ba4f3 65 = .ok (.iload 4, 2) := by decide +kernel
theorem dJ6_getChars_ba4f3_67 : decode cJ6_getChars_ba4f3 67 = .ok (.baload, 1) := by decide +kernel
theorem dJ6_getChars_ba4f3_68 : decode cJ6_getChars_ba4f3 68 = .ok (.bastore, 1) := by decide +kernel
theorem dJ6_getChars_ba4f3_69 : decode cJ6_getChars_ba4f3 69 = .ok (.goto (-47), 3) := by decide +kernel
theorem dJ6_getChars_ba4f3_72 : decode cJ6_getChars_ba4f3 72 = .ok (.aload_n 2, 1) := by decide +kernel
theorem dJ6_getChars_ba4f3_73 : decode cJ6_getChars_ba4f3 73 = .ok (.iinc 5 (-1), 3) := by decide +kernel
theorem dJ6_getChars_ba4f3_76 : decode cJ6_getChars_ba4f3 76 = .ok (.iload 5, 2) := by decide +kernel
theorem dJ6_getChars_ba4f3_78 : decode cJ6_getChars_ba4f3 78 = .ok (.getstatic 83, 3) := by decide +kernel
theorem dJ6_getChars_ba4f3_81 : decode cJ6_getChars_ba4f3 81 = .ok (.iload_n 0, 1) := by decide +kernel
theorem dJ6_getChars_ba4f3_82 : decode cJ6_getChars_ba4f3 82 = .ok (.ineg, 1) := by decide +kernel
theorem dJ6_getChars_ba4f3_83 : decode cJ6_getChars_ba4f3 83 = .ok (.baload, 1) := by decide +kernel
theorem dJ6_getChars_ba4f3_84 : decode cJ6_getChars_ba4f3 84 = .ok (.bastore, 1) := by decide +kernel
theorem dJ6_getChars_ba4f3_85 : decode cJ6_getChars_ba4f3 85 = .ok (.iload_n 0, 1) := by decide +kernel
theorem dJ6_getChars_ba4f3_86 : decode cJ6_getChars_ba4f3 86 = .ok (.bipush (-9), 2) := by decide +kernel
theorem dJ6_getChars_ba4f3_88 : decode cJ6_getChars_ba4f3 88 = .ok (.if_icmp .ge 16, 3) := by decide +kernel
theorem dJ6_getChars_ba4f3_91 : decode cJ6_getChars_ba4f3 91 = .ok (.aload_n 2, 1) := by decide +kernel
theorem dJ6_getChars_ba4f3_92 : decode cJ6_getChars_ba4f3 92 = .ok (.iinc 5 (-1), 3) := by decide +kernel
theorem dJ6_getChars_ba4f3_95 : decode cJ6_getChars_ba4f3 95 = .ok (.iload 5, 2) := by decide +kernel
theorem dJ6_getChars_ba4f3_97 : decode cJ6_getChars_ba4f3 97 = .ok (.getstatic 87, 3) := by decide +kernel
theorem dJ6_getChars_ba4f3_100 : decode cJ6_getChars_ba4f3 100 = .ok (.iload_n 0, 1) := by decide +kernel
theorem dJ6_getChars_ba4f3_101 : decode cJ6_getChars_ba4f3 101 = .ok (.ineg, 1) := by decide +kernel
theorem dJ6_getChars_ba4f3_102 : decode cJ6_getChars_ba4f3 102 = .ok (.baload, 1) := by decide +kernel
theorem dJ6_getChars_ba4f3_103 : decode cJ6_getChars_ba4f3 103 = .ok (.bastore, 1) := by decide +kernel
theorem dJ6_getChars_ba4f3_104 : decode cJ6_getChars_ba4f3 104 = .ok (.iload 6, 2) := by decide +kernel
theorem dJ6_getChars_ba4f3_106 : decode cJ6_getChars_ba4f3 106 = .ok (.ifCond .eq 12, 3) := by decide +kernel
theorem dJ6_getChars_ba4f3_109 : decode cJ6_getChars_ba4f3 109 = .ok (.aload_n 2, 1) := by decide +kernel
theorem dJ6_getChars_ba4f3_110 : decode cJ6_getChars_ba4f3 110 = .ok (.iinc 5 (-1), 3) := by decide +kernel
theorem dJ6_getChars_ba4f3_113 : decode cJ6_getChars_ba4f3 113 = .ok (.iload 5, 2) := by decide +kernel
theorem dJ6_getChars_ba4f3_115 : decode cJ6_getChars_ba4f3 115 = .ok (.bipush 45, 2) := by decide +kernel
theorem dJ6_getChars_ba4f3_117 : decode cJ6_getChars_ba4f3 117 = .ok (.bastore, 1) := by decide +kernel
theorem dJ6_getChars_ba4f3_118 : decode cJ6_getChars_ba4f3 118 = .ok (.iload 5, 2) := by decide +kernel
theorem dJ6_getChars_ba4f3_120 : decode cJ6_getChars_ba4f3 120 = .ok (.ireturn, 1) := by decide +kernel
theorem dJ6_stringSize_0f7a4_0 : decode cJ6_stringSize_0f7a4 0 = .ok (.iconst 1, 1) := by decide +kernel
theorem dJ6_stringSize_0f7a4_1 : decode cJ6_stringSize_0f7a4 1 = .ok (.istore_n 1, 1) := by decide +kernel
theorem dJ6_stringSize_0f7a4_2 : decode cJ6_stringSize_0f7a4 2 = .ok (.iload_n 0, 1) := by decide +kernel
theorem dJ6_stringSize_0f7a4_3 : decode cJ6_stringSize_0f7a4 3 = .ok (.ifCond .lt 8, 3) := by decide +kernel
theorem dJ6_stringSize_0f7a4_6 : decode cJ6_stringSize_0f7a4 6 = .ok (.iconst 0, 1) := by decide +kernel
theorem dJ6_stringSize_0f7a4_7 : decode cJ6_stringSize_0f7a4 7 = .ok (.istore_n 1, 1) := by decide +kernel
theorem dJ6_stringSize_0f7a4_8 : decode cJ6_stringSize_0f7a4 8 = .ok (.iload_n 0, 1) := by decide +kernel
theorem dJ6_stringSize_0f7a4_9 : decode cJ6_stringSize_0f7a4 9 = .ok (.ineg, 1) := by decide +kernel
theorem dJ6_stringSize_0f7a4_10 : decode cJ6_stringSize_0f7a4 10 = .ok (.istore_n 0, 1) := by decide +kernel
theorem dJ6_stringSize_0f7a4_11 : decode cJ6_stringSize_0f7a4 11 = .ok (.bipush (-10), 2) := by decide +kernel
theorem dJ6_stringSize_0f7a4_13 : decode cJ6_stringSize_0f7a4 13 = .ok (.istore_n 2, 1) := by decide +kernel
theorem dJ6_stringSize_0f7a4_14 : decode cJ6_stringSize_0f7a4 14 = .ok (.iconst 1, 1) := by decide +kernel
theorem dJ6_stringSize_0f7a4_15 : decode cJ6_stringSize_0f7a4 15 = .ok (.istore_n 3, 1) := by decide +kernel
theorem dJ6_stringSize_0f7a4_16 : decode cJ6_stringSize_0f7a4 16 = .ok (.iload_n 3, 1) := by decide +kernel
theorem dJ6_stringSize_0f7a4_17 : decode cJ6_stringSize_0f7a4 17 = .ok (.bipush 10, 2) := by decide +kernel
theorem dJ6_stringSize_0f7a4_19 : decode cJ6_stringSize_0f7a4 19 = .ok (.if_icmp .ge 23, 3) := by decide +kernel
theorem dJ6_stringSize_0f7a4_22 : decode cJ6_stringSize_0f7a4 22 = .ok (.iload_n 0, 1) := by decide +kernel
theorem dJ6_stringSize_0f7a4_23 : decode cJ6_stringSize_0f7a4 23 = .ok (.iload_n 2, 1) := by decide +kernel
theorem dJ6_stringSize_0f7a4_24 : decode cJ6_stringSize_0f7a4 24 = .ok (.if_icmp .le 7, 3) := by decide +kernel
theorem dJ6_stringSize_0f7a4_27 : decode cJ6_stringSize_0f7a4 27 = .ok (.iload_n 3, 1) := by decide +kernel
theorem dJ6_stringSize_0f7a4_28 : decode cJ6_stringSize_0f7a4 28 = .ok (.iload_n 1, 1) := by decide +kernel
theorem dJ6_stringSize_0f7a4_29 : decode cJ6_stringSize_0f7a4 29 = .ok (.iadd, 1) := by decide +kernel
theorem dJ6_stringSize_0f7a4_30 : decode cJ6_stringSize_0f7a4 30 = .ok (.ireturn, 1) := by decide +kernel
theorem dJ6_stringSize_0f7a4_31 : decode cJ6_stringSize_0f7a4 31 = .ok (.bipush 10, 2) := by decide +kernel
theorem dJ6_stringSize_0f7a4_33 : decode cJ6_stringSize_0f7a4 33 = .ok (.iload_n 2, 1) := by decide +kernel
theorem dJ6_stringSize_0f7a4_34 : decode cJ6_stringSize_0f7a4 34 = .ok (.imul, 1) := by decide +kernel
theorem dJ6_stringSize_0f7a4_35 : decode cJ6_stringSize_0f7a4 35 = .ok (.istore_n 2, 1) := by decide +kernel
theorem dJ6_stringSize_0f7a4_36 : decode cJ6_stringSize_0f7a4 36 = .ok (.iinc 3 1, 3) := by decide +kernel
theorem dJ6_stringSize_0f7a4_39 : decode cJ6_stringSize_0f7a4 39 = .ok (.goto (-23), 3) := by decide +kernel
theorem dJ6_stringSize_0f7a4_42 : decode cJ6_stringSize_0f7a4 42 = .ok (.bipush 10, 2) := by decide +kernel
theorem dJ6_stringSize_0f7a4_44 : decode cJ6_stringSize_0f7a4 44 = .ok (.iload_n 1, 1) := by decide +kernel
theorem dJ6_stringSize_0f7a4_45 : decode cJ6_stringSize_0f7a4 45 = .ok (.iadd, 1) := by decide +kernel
theorem dJ6_stringSize_0f7a4_46 : decode cJ6_stringSize_0f7a4 46 = .ok (.ireturn, 1) := by decide +kernel
theorem dJ6_bitCount_0f7a4_0 : decode cJ6_bitCount_0f7a4 0 = .ok (.iload_n 0, 1) := by decide +kernel
theorem dJ6_bitCount_0f7a4_1 : decode cJ6_bitCount_0f7a4 1 = .ok (.iload_n 0, 1) := by decide +kernel
theorem dJ6_bitCount_0f7a4_2 : decode cJ6_bitCount_0f7a4 2 = .ok (.iconst 1, 1) := by decide +kernel
theorem dJ6_bitCount_0f7a4_3 : decode cJ6_bitCount_0f7a4 3 = .ok (.iushr, 1) := by decide +kernel
theorem dJ6_bitCount_0f7a4_4 : decode cJ6_bitCount_0f7a4 4 = .ok (.ldc_w 265, 3) := by decide +kernel
theorem dJ6_bitCount_0f7a4_7 : decode cJ6_bitCount_0f7a4 7 = .ok (.iand, 1) := by decide +kernel
theorem dJ6_bitCount_0f7a4_8 : decode cJ6_bitCount_0f7a4 8 = .ok (.isub, 1) := by decide +kernel
theorem dJ6_bitCount_0f7a4_9 : decode cJ6_bitCount_0f7a4 9 = .ok (.istore_n 0, 1) := by decide +kernel
theorem dJ6_bitCount_0f7a4_10 : decode cJ6_bitCount_0f7a4 10 = .ok (.iload_n 0, 1) := by decide +kernel
theorem dJ6_bitCount_0f7a4_11 : decode cJ6_bitCount_0f7a4 11 = .ok (.ldc_w 266, 3) := by decide +kernel
theorem dJ6_bitCount_0f7a4_14 : decode cJ6_bitCount_0f7a4 14 = .ok (.iand, 1) := by decide +kernel
theorem dJ6_bitCount_0f7a4_15 : decode cJ6_bitCount_0f7a4 15 = .ok (.iload_n 0, 1) := by decide +kernel
theorem dJ6_bitCount_0f7a4_16 : decode cJ6_bitCount_0f7a4 16 = .ok (.iconst 2, 1) := by decide +kernel
theorem dJ6_bitCount_0f7a4_17 : decode cJ6_bitCount_0f7a4 17 = .ok (.iushr, 1) := by decide +kernel
theorem dJ6_bitCount_0f7a4_18 : decode cJ6_bitCount_0f7a4 18 = .ok (.ldc_w 266, 3) := by decide +kernel
theorem dJ6_bitCount_0f7a4_21 : decode cJ6_bitCount_0f7a4 21 = .ok (.iand, 1) := by decide +kernel
theorem dJ6_bitCount_0f7a4_22 : decode cJ6_bitCount_0f7a4 22 = .ok (.iadd, 1) := by decide +kernel
theorem dJ6_bitCount_0f7a4_23 : decode cJ6_bitCount_0f7a4 23 = .ok (.istore_n 0, 1) := by decide +kernel
theorem dJ6_bitCount_0f7a4_24 : decode cJ6_bitCount_0f7a4 24 = .ok (.iload_n 0, 1) := by decide +kernel
theorem dJ6_bitCount_0f7a4_25 : decode cJ6_bitCount_0f7a4 25 = .ok (.iload_n 0, 1) := by decide +kernel
theorem dJ6_bitCount_0f7a4_26 : decode cJ6_bitCount_0f7a4 26 = .ok (.iconst 4, 1) := by decide +kernel
theorem dJ6_bitCount_0f7a4_27 : decode cJ6_bitCount_0f7a4 27 = .ok (.iushr, 1) := by decide +kernel
theorem dJ6_bitCount_0f7a4_28 : decode cJ6_bitCount_0f7a4 28 = .ok (.iadd, 1) := by decide +kernel
theorem dJ6_bitCount_0f7a4_29 : decode cJ6_bitCount_0f7a4 29 = .ok (.ldc_w 267, 3) := by decide +kernel
theorem dJ6_bitCount_0f7a4_32 : decode cJ6_bitCount_0f7a4 32 = .ok (.iand, 1) := by decide +kernel
theorem dJ6_bitCount_0f7a4_33 : decode cJ6_bitCount_0f7a4 33 = .ok (.istore_n 0, 1) := by decide +kernel
theorem dJ6_bitCount_0f7a4_34 : decode cJ6_bitCount_0f7a4 34 = .ok (.iload_n 0, 1) := by decide +kernel
theorem dJ6_bitCount_0f7a4_35 : decode cJ6_bitCount_0f7a4 35 = .ok (.iload_n 0, 1) := by decide +kernel
theorem dJ6_bitCount_0f7a4_36 : decode cJ6_bitCount_0f7a4 36 = .ok (.bipush 8, 2) := by decide +kernel
theorem dJ6_bitCount_0f7a4_38 : decode cJ6_bitCount_0f7a4 38 = .ok (.iushr, 1) := by decide +kernel
theorem dJ6_bitCount_0f7a4_39 : decode cJ6_bitCount_0f7a4 39 = .ok (.iadd, 1) := by decide +kernel
theorem dJ6_bitCount_0f7a4_40 : decode cJ6_bitCount_0f7a4 40 = .ok (.istore_n 0, 1) := by decide +kernel
theorem dJ6_bitCount_0f7a4_41 : decode cJ6_bitCount_0f7a4 41 = .ok (.iload_n 0, 1) := by decide +kernel
theorem dJ6_bitCount_0f7a4_42 : decode cJ6_bitCount_0f7a4 42 = .ok (.iload_n 0, 1) := by decide +kernel
theorem dJ6_bitCount_0f7a4_43 : decode cJ6_bitCount_0f7a4 43 = .ok (.bipush 16, 2) := by decide +kernel
theorem dJ6_bitCount_0f7a4_45 : decode cJ6_bitCount_0f7a4 45 = .ok (.iushr, 1) := by decide +kernel
theorem dJ6_bitCount_0f7a4_46 : decode cJ6_bitCount_0f7a4 46 = .ok (.iadd, 1) := by decide +kernel
theorem dJ6_bitCount_0f7a4_47 : decode cJ6_bitCount_0f7a4 47 = .ok (.istore_n 0, 1) := by decide +kernel
theorem dJ6_bitCount_0f7a4_48 : decode cJ6_bitCount_0f7a4 48 = .ok (.iload_n 0, 1) := by decide +kernel
theorem dJ6_bitCount_0f7a4_49 : decode cJ6_bitCount_0f7a4 49 = .ok (.bipush 63, 2) := by decide +kernel
theorem dJ6_bitCount_0f7a4_51 : decode cJ6_bitCount_0f7a4 51 = .ok (.iand, 1) := by decide +kernel
theorem dJ6_bitCount_0f7a4_52 : decode cJ6_bitCount_0f7a4 52 = .ok (.ireturn, 1) := by decide +kernel
theorem dJ9_floorMod_7cf53_0 : decode cJ9_floorMod_7cf53 0 = .ok (.iload_n 0, 1) := by decide +kernel
theorem dJ9_floorMod_7cf53_1 : decode cJ9_floorMod_7cf53 1 = .ok (.iload_n 1, 1) := by decide +kernel
theorem dJ9_floorMod_7cf53_2 : decode cJ9_floorMod_7cf53 2 = .ok (.irem, 1) := by decide +kernel
theorem dJ9_floorMod_7cf53_3 : decode cJ9_floorMod_7cf53 3 = .ok (.istore_n 2, 1) := by decide +kernel
theorem dJ9_floorMod_7cf53_4 : decode cJ9_floorMod_7cf53 4 = .ok (.iload_n 0, 1) := by decide +kernel
theorem dJ9_floorMod_7cf53_5 : decode cJ9_floorMod_7cf53 5 = .ok (.iload_n 1, 1) := by decide +kernel
theorem dJ9_floorMod_7cf53_6 : decode cJ9_floorMod_7cf53 6 = .ok (.ixor, 1) := by decide +kernel
theorem dJ9_floorMod_7cf53_7 : decode cJ9_floorMod_7cf53 7 = .ok (.ifCond .ge 11, 3) := by decide +kernel
theorem dJ9_floorMod_7cf53_10 : decode cJ9_floorMod_7cf53 10 = .ok (.iload_n 2, 1) := by decide +kernel
theorem dJ9_floorMod_7cf53_11 : decode cJ9_floorMod_7cf53 11 = .ok (.ifCond .eq 7, 3) := by decide +kernel
theorem dJ9_floorMod_7cf53_14 : decode cJ9_floorMod_7cf53 14 = .ok (.iload_n 2, 1) := by decide +kernel
theorem dJ9_floorMod_7cf53_15 : decode cJ9_floorMod_7cf53 15 = .ok (.iload_n 1, 1) := by decide +kernel
theorem dJ9_floorMod_7cf53_16 : decode cJ9_floorMod_7cf53 16 = .ok (.iadd, 1) := by decide +kernel
theorem dJ9_floorMod_7cf53_17 : decode cJ9_floorMod_7cf53 17 = .ok (.ireturn, 1) := by decide +kernel
theorem dJ9_floorMod_7cf53_18 : decode cJ9_floorMod_7cf53 18 = .ok (.iload_n 2, 1) := by decide +kernel
theorem dJ9_floorMod_7cf53_19 : decode cJ9_floorMod_7cf53 19 = .ok (.ireturn, 1) := by decide +kernel
theorem dJ0_init_81219_0 : decode cJ0_init_81219 0 = .ok (.aload_n 0, 1) := by decide +kernel
theorem dJ0_init_81219_1 : decode cJ0_init_81219 1 = .ok (.aload_n 1, 1) := by decide +kernel
theorem dJ0_init_81219_2 : decode cJ0_init_81219 2 = .ok (.aconst_null, 1) := by decide +kernel
theorem dJ0_init_81219_3 : decode cJ0_init_81219 3 = .ok (.invokespecial 489, 3) := by decide +kernel
theorem dJ0_init_81219_6 : decode cJ0_init_81219 6 = .ok (.return_, 1) := by decide +kernel
theorem dJ0_length_8abf5_0 : decode cJ0_length_8abf5 0 = .ok (.aload_n 0, 1) := by decide +kernel
theorem dJ0_length_8abf5_1 : decode cJ0_length_8abf5 1 = .ok (.getfield 9, 3) := by decide +kernel
theorem dJ0_length_8abf5_4 : decode cJ0_length_8abf5 4 = .ok (.arraylength, 1) := by decide +kernel
theorem dJ0_length_8abf5_5 : decode cJ0_length_8abf5 5 = .ok (.aload_n 0, 1) := by decide +kernel
theorem dJ0_length_8abf5_6 : decode cJ0_length_8abf5 6 = .ok (.invokevirtual 335, 3) := by decide +kernel
theorem dJ0_length_8abf5_9 : decode cJ0_length_8abf5 9 = .ok (.ishr, 1) := by decide +kernel
theorem dJ0_length_8abf5_10 : decode cJ0_length_8abf5 10 = .ok (.ireturn, 1) := by decide +kernel
theorem dJ0_isEmpty_aae02_0 : decode cJ0_isEmpty_aae02 0 = .ok (.aload_n 0, 1) := by decide +kernel
theorem dJ0_isEmpty_aae02_1 : decode cJ0_isEmpty_aae02 1 = .ok (.getfield 9, 3) := by decide +kernel
theorem dJ0_isEmpty_aae02_4 : decode cJ0_isEmpty_aae02 4 = .ok (.arraylength, 1) := by decide +kernel
theorem dJ0_isEmpty_aae02_5 : decode cJ0_isEmpty_aae02 5 = .ok (.ifCond .ne 7, 3) := by decide +kernel
theorem dJ0_isEmpty_aae02_8 : decode cJ0_isEmpty_aae02 8 = .ok (.iconst 1, 1) := by decide +kernel
theorem dJ0_isEmpty_aae02_9 : decode cJ0_isEmpty_aae02 9 = .ok (.goto 4, 3) := by decide +kernel
theorem dJ0_isEmpty_aae02_12 : decode cJ0_isEmpty_aae02 12 = .ok (.iconst 0, 1) := by decide +kernel
theorem dJ0_isEmpty_aae02_13 : decode cJ0_isEmpty_aae02 13 = .ok (.ireturn, 1) := by decide +kernel
theorem dJ0_charAt_5068e_0 : decode cJ0_charAt_5068e 0 = .ok (.aload_n 0, 1) := by decide +kernel
theorem dJ0_charAt_5068e_1 : decode cJ0_charAt_5068e 1 = .ok (.invokevirtual 492, 3) := by decide +kernel
theorem dJ0_charAt_5068e_4 : decode cJ0_charAt_5068e 4 = .ok (.ifCond .eq 12, 3) := by decide +kernel
theorem dJ0_charAt_5068e_7 : decode cJ0_charAt_5068e 7 = .ok (.aload_n 0, 1) := by decide +kernel
theorem dJ0_charAt_5068e_8 : decode cJ0_charAt_5068e 8 = .ok (.getfield 9, 3) := by decide +kernel
theorem dJ0_charAt_5068e_11 : decode cJ0_charAt_5068e 11 = .ok (.iload_n 1, 1) := by decide +kernel
theorem dJ0_charAt_5068e_12 : decode cJ0_charAt_5068e 12 = .ok (.invokestatic 495, 3) := by decide +kernel
theorem dJ0_charAt_5068e_15 : decode cJ0_charAt_5068e 15 = .ok (.ireturn, 1) := by decide +kernel
theorem dJ0_charAt_5068e_16 : decode cJ0_charAt_5068e 16 = .ok (.aload_n 0, 1) := by decide +kernel
theorem dJ0_charAt_5068e_17 : decode cJ0_charAt_5068e 17 = .ok (.getfield 9, 3) := by decide +kernel
theorem dJ0_charAt_5068e_20 : decode cJ0_charAt_5068e 20 = .ok (.iload_n 1, 1) := by decide +kernel
theorem dJ0_charAt_5068e_21 : decode cJ0_charAt_5068e 21 = .ok (.invokestatic 498, 3) := by decide +kernel
theorem dJ0_charAt_5068e_24 : decode cJ0_charAt_5068e 24 = .ok (.ireturn, 1) := by decide +kernel
theorem dJ0_equals_9ea2d_0 : decode cJ0_equals_9ea2d 0 = .ok (.aload_n 0, 1) := by decide +kernel
theorem dJ0_equals_9ea2d_1 : decode cJ0_equals_9ea2d 1 = .ok (.aload_n 1, 1) := by decide +kernel
theorem dJ0_equals_9ea2d_2 : decode cJ0_equals_9ea2d 2 = .ok (.if_acmp .ne 5, 3) := by decide +kernel
theorem dJ0_equals_9ea2d_5 : decode cJ0_equals_9ea2d 5 = .ok (.iconst 1, 1) := by decide +kernel
theorem dJ0_equals_9ea2d_6 : decode cJ0_equals_9ea2d 6 = .ok (.ireturn, 1) := by decide +kernel
theorem dJ0_equals_9ea2d_7 : decode cJ0_equals_9ea2d 7 = .ok (.aload_n 1, 1) := by decide +kernel
theorem dJ0_equals_9ea2d_8 : decode cJ0_equals_9ea2d 8 = .ok (.instanceof 10, 3) := by decide +kernel
theorem dJ0_equals_9ea2d_11 : decode cJ0_equals_9ea2d 11 = .ok (.ifCond .eq 43, 3) := by decide +kernel
theorem dJ0_equals_9ea2d_14 : decode cJ0_equals_9ea2d 14 = .ok (.aload_n 1, 1) := by decide +kernel
theorem dJ0_equals_9ea2d_15 : decode cJ0_equals_9ea2d 15 = .ok (.checkcast 10, 3) := by decide +kernel
theorem dJ0_equals_9ea2d_18 : decode cJ0_equals_9ea2d 18 = .ok (.astore_n 2, 1) := by decide +kernel
theorem dJ0_equals_9ea2d_19 : decode cJ0_equals_9ea2d 19 = .ok (.getstatic 38, 3) := by decide +kernel
theorem dJ0_equals_9ea2d_22 : decode cJ0_equals_9ea2d 22 = .ok (.ifCond .eq 14, 3) := by decide +kernel
theorem dJ0_equals_9ea2d_25 : decode cJ0_equals_9ea2d 25 = .ok (.aload_n 0, 1) := by decide +kernel
theorem dJ0_equals_9ea2d_26 : decode cJ0_equals_9ea2d 26 = .ok (.getfield 15, 3) := by decide +kernel
theorem dJ0_equals_9ea2d_29 : decode cJ0_equals_9ea2d 29 = .ok (.aload_n 2, 1) := by decide +kernel
theorem dJ0_equals_9ea2d_30 : decode cJ0_equals_9ea2d 30 = .ok (.getfield 15, 3) := by decide +kernel
theorem dJ0_equals_9ea2d_33 : decode cJ0_equals_9ea2d 33 = .ok (.if_icmp .ne 21, 3) := by decide +kernel
theorem dJ0_equals_9ea2d_36 : decode cJ0_equals_9ea2d 36 = .ok (.aload_n 0, 1) := by decide +kernel
theorem dJ0_equals_9ea2d_37 : decode cJ0_equals_9ea2d 37 = .ok (.getfield 9, 3) := by decide +kernel
theorem dJ0_equals_9ea2d_40 : decode cJ0_equals_9ea2d 40 = .ok (.aload_n 2, 1) := by decide +kernel
theorem dJ0_equals_9ea2d_41 : decode cJ0_equals_9ea2d 41 = .ok (.getfield 9, 3) := by decide +kernel
theorem dJ0_equals_9ea2d_44 : decode cJ0_equals_9ea2d 44 = .ok (.invokestatic 541, 3) := by decide +kernel
theorem dJ0_equals_9ea2d_47 : decode cJ0_equals_9ea2d 47 = .ok (.ifCond .eq 7, 3) := by decide +kernel
theorem dJ0_equals_9ea2d_50 : decode cJ0_equals_9ea2d 50 = .ok (.iconst 1, 1) := by decide +kernel
theorem dJ0_equals_9ea2d_51 : decode cJ0_equals_9ea2d 51 = .ok (.goto 4, 3) := by decide +kernel
theorem dJ0_equals_9ea2d_54 : decode cJ0_equals_9ea2d 54 = .ok (.iconst 0, 1) := by decide +kernel
theorem dJ0_equals_9ea2d_55 : decode cJ0_equals_9ea2d 55 = .ok (.ireturn, 1) := by decide +kernel
theorem dJ0_getBytes_840e7_0 : decode cJ0_getBytes_840e7 0 = .ok (.aload_n 0, 1) := by decide +kernel
theorem dJ0_getBytes_840e7_1 : decode cJ0_getBytes_840e7 1 = .ok (.invokevirtual 335, 3) := by decide +kernel
theorem dJ0_getBytes_840e7_4 : decode cJ0_getBytes_840e7 4 = .ok (.iload_n 3, 1) := by decide +kernel
theorem dJ0_getBytes_840e7_5 : decode cJ0_getBytes_840e7 5 = .ok (.if_icmp .ne 23, 3) := by decide +kernel
theorem dJ0_getBytes_840e7_8 : decode cJ0_getBytes_840e7 8 = .ok (.aload_n 0, 1) := by decide +kernel
theorem dJ0_getBytes_840e7_9 : decode cJ0_getBytes_840e7 9 = .ok (.getfield 9, 3) := by decide +kernel
theorem dJ0_getBytes_840e7_12 : decode cJ0_getBytes_840e7 12 = .ok (.iconst 0, 1) := by decide +kernel
theorem dJ0_getBytes_840e7_13 : decode cJ0_getBytes_840e7 13 = .ok (.aload_n 1, 1) := by decide +kernel
theorem dJ0_getBytes_840e7_14 : decode cJ0_getBytes_840e7 14 = .ok (.iload_n 2, 1) := by decide +kernel
theorem dJ0_getBytes_840e7_15 : decode cJ0_getBytes_840e7 15 = .ok (.iload_n 3, 1) := by decide +kernel
theorem dJ0_getBytes_840e7_16 : decode cJ0_getBytes_840e7 16 = .ok (.ishl, 1) := by decide +kernel
theorem dJ0_getBytes_840e7_17 : decode cJ0_getBytes_840e7 17 = .ok (.aload_n 0, 1) := by decide +kernel
theorem dJ0_getBytes_840e7_18 : decode cJ0_getBytes_840e7 18 = .ok (.getfield 9, 3) := by decide +kernel
theorem dJ0_getBytes_840e7_21 : decode cJ0_getBytes_840e7 21 = .ok (.arraylength, 1) := by decide +kernel
theorem dJ0_getBytes_840e7_22 : decode cJ0_getBytes_840e7 22 = .ok (.invokestatic 212, 3) := by decide +kernel
theorem dJ0_getBytes_840e7_25 : decode cJ0_getBytes_840e7 25 = .ok (.goto 18, 3) := by decide +kernel
theorem dJ0_getBytes_840e7_28 : decode cJ0_getBytes_840e7 28 = .ok (.aload_n 0, 1) := by decide +kernel
theorem dJ0_getBytes_840e7_29 : decode cJ0_getBytes_840e7 29 = .ok (.getfield 9, 3) := by decide +kernel
theorem dJ0_getBytes_840e7_32 : decode cJ0_getBytes_840e7 32 = .ok (.iconst 0, 1) := by decide +kernel
theorem dJ0_getBytes_840e7_33 : decode cJ0_getBytes_840e7 33 = .ok (.aload_n 1, 1) := by decide +kernel
theorem dJ0_getBytes_840e7_34 : decode cJ0_getBytes_840e7 34 = .ok (.iload_n 2, 1) := by decide +kernel
theorem dJ0_getBytes_840e7_35 : decode cJ0_getBytes_840e7 35 = .ok (.aload_n 0, 1) := by decide +kernel
theorem dJ0_getBytes_840e7_36 : decode cJ0_getBytes_840e7 36 = .ok (.getfield 9, 3) := by decide +kernel
theorem dJ0_getBytes_840e7_39 : decode cJ0_getBytes_840e7 39 = .ok (.arraylength, 1) := by decide +kernel
theorem dJ0_getBytes_840e7_40 : decode cJ0_getBytes_840e7 40 = .ok (.invokestatic 106, 3) := by decide +kernel
theorem dJ0_getBytes_840e7_43 : decode cJ0_getBytes_840e7 43 = .ok (.return_, 1) := by decide +kernel
theorem dJ0_init_db425_0 : decode cJ0_init_db425 0 = .ok (.aload_n 0, 1) := by decide +kernel
theorem dJ0_init_db425_1 : decode cJ0_init_db425 1 = .ok (.invokespecial 1, 3) := by decide +kernel
theorem dJ0_init_db425_4 : decode cJ0_init_db425 4 = .ok (.aload_n 1, 1) := by decide +kernel
theorem dJ0_init_db425_5 : decode cJ0_init_db425 5 = .ok (.invokevirtual 552, 3) := by decide +kernel
theorem dJ0_init_db425_8 : decode cJ0_init_db425 8 = .ok (.astore_n 3, 1) := by decide +kernel
theorem dJ0_init_db425_9 : decode cJ0_init_db425 9 = .ok (.aload_n 1, 1) := by decide +kernel
theorem dJ0_init_db425_10 : decode cJ0_init_db425 10 = .ok (.invokevirtual 549, 3) := by decide +kernel
theorem dJ0_init_db425_13 : decode cJ0_init_db425 13 = .ok (.istore 4, 2) := by decide +kernel
theorem dJ0_init_db425_15 : decode cJ0_init_db425 15 = .ok (.aload_n 1, 1) := by decide +kernel
theorem dJ0_init_db425_16 : decode cJ0_init_db425 16 = .ok (.invokevirtual 1047, 3) := by decide +kernel
theorem dJ0_init_db425_19 : decode cJ0_init_db425 19 = .ok (.ifCond .eq 22, 3) := by decide +kernel
theorem dJ0_init_db425_22 : decode cJ0_init_db425 22 = .ok (.aload_n 0, 1) := by decide +kernel
theorem dJ0_init_db425_23 : decode cJ0_init_db425 23 = .ok (.iconst 0, 1) := by decide +kernel
theorem dJ0_init_db425_24 : decode cJ0_init_db425 24 = .ok (.putfield 15, 3) := by decide +kernel
theorem dJ0_init_db425_27 : decode cJ0_init_db425 27 = .ok (.aload_n 0, 1) := by decide +kernel
theorem dJ0_init_db425_28 : decode cJ0_init_db425 28 = .ok (.aload_n 3, 1) := by decide +kernel
theorem dJ0_init_db425_29 : decode cJ0_init_db425 29 = .ok (.iconst 0, 1) := by decide +kernel
theorem dJ0_init_db425_30 : decode cJ0_init_db425 30 = .ok (.iload 4, 2) := by decide +kernel
theorem dJ0_init_db425_32 : decode cJ0_init_db425 32 = .ok (.invokestatic 54, 3) := by decide +kernel
theorem dJ0_init_db425_35 : decode cJ0_init_db425 35 = .ok (.putfield 9, 3) := by decide +kernel
theorem dJ0_init_db425_38 : decode cJ0_init_db425 38 = .ok (.goto 59, 3) := by decide +kernel
theorem dJ0_init_db425_41 : decode cJ0_init_db425 41 = .ok (.getstatic 38, 3) := by decide +kernel
theorem dJ0_init_db425_44 : decode cJ0_init_db425 44 = .ok (.ifCond .eq 35, 3) := by decide +kernel
theorem dJ0_init_db425_47 : decode cJ0_init_db425 47 = .ok (.aload_n 1, 1) := by decide +kernel
theorem dJ0_init_db425_48 : decode cJ0_init_db425 48 = .ok (.getfield 1048, 3) := by decide +kernel
theorem dJ0_init_db425_51 : decode cJ0_init_db425 51 = .ok (.ifCond .eq 28, 3) := by decide +kernel
theorem dJ0_init_db425_54 : decode cJ0_init_db425 54 = .ok (.aload_n 0, 1) := by decide +kernel
theorem dJ0_init_db425_55 : decode cJ0_init_db425 55 = .ok (.aload_n 3, 1) := by decide +kernel
theorem dJ0_init_db425_56 : decode cJ0_init_db425 56 = .ok (.iconst 0, 1) := by decide +kernel
theorem dJ0_init_db425_57 : decode cJ0_init_db425 57 = .ok (.iload 4, 2) := by decide +kernel
theorem dJ0_init_db425_59 : decode cJ0_init_db425 59 = .ok (.invokestatic 1051, 3) := by decide +kernel
theorem dJ0_init_db425_62 : decode cJ0_init_db425 62 = .ok (.putfield 9, 3) := by decide +kernel
theorem dJ0_init_db425_65 : decode cJ0_init_db425 65 = .ok (.aload_n 0, 1) := by decide +kernel
theorem dJ0_init_db425_66 : decode cJ0_init_db425 66 = .ok (.aload_n 0, 1) := by decide +kernel
theorem dJ0_init_db425_67 : decode cJ0_init_db425 67 = .ok (.getfield 9, 3) := by decide +kernel
theorem dJ0_init_db425_70 : decode cJ0_init_db425 70 = .ok (.iload 4, 2) := by decide +kernel
theorem dJ0_init_db425_72 : decode cJ0_init_db425 72 = .ok (.invokestatic 47, 3) := by decide +kernel
theorem dJ0_init_db425_75 : decode cJ0_init_db425 75 = .ok (.putfield 15, 3) := by decide +kernel
theorem dJ0_init_db425_78 : decode cJ0_init_db425 78 = .ok (.return_, 1) := by decide +kernel
theorem dJ0_init_db425_79 : decode cJ0_init_db425 79 = .ok (.aload_n 0, 1) := by decide +kernel
theorem dJ0_init_db425_80 : decode cJ0_init_db425 80 = .ok (.iconst 1, 1) := by decide +kernel
theorem dJ0_init_db425_81 : decode cJ0_init_db425 81 = .ok (.putfield 15, 3) := by decide +kernel
theorem dJ0_init_db425_84 : decode cJ0_init_db425 84 = .ok (.aload_n 0, 1) := by decide +kernel
theorem dJ0_init_db425_85 : decode cJ0_init_db425 85 = .ok (.aload_n 3, 1) := by decide +kernel
theorem dJ0_init_db425_86 : decode cJ0_init_db425 86 = .ok (.iconst 0, 1) := by decide +kernel
theorem dJ0_init_db425_87 : decode cJ0_init_db425 87 = .ok (.iload 4, 2) := by decide +kernel
theorem dJ0_init_db425_89 : decode cJ0_init_db425 89 = .ok (.iconst 1, 1) := by decide +kernel
theorem dJ0_init_db425_90 : decode cJ0_init_db425 90 = .ok (.ishl, 1) := by decide +kernel
theorem dJ0_init_db425_91 : decode cJ0_init_db425 91 = .ok (.invokestatic 54, 3) := by decide +kernel
theorem dJ0_init_db425_94 : decode cJ0_init_db425 94 = .ok (.putfield 9, 3) := by decide +kernel
theorem dJ0_init_db425_97 : decode cJ0_init_db425 97 = .ok (.return_, 1) := by decide +kernel
theorem dJ0_coder_7d493_0 : decode cJ0_coder_7d493 0 = .ok (.getstatic 38, 3) := by decide +kernel
theorem dJ0_coder_7d493_3 : decode cJ0_coder_7d493 3 = .ok (.ifCond .eq 10, 3) := by decide +kernel
theorem dJ0_coder_7d493_6 : decode cJ0_coder_7d493 6 = .ok (.aload_n 0, 1) := by decide +kernel
theorem dJ0_coder_7d493_7 : decode cJ0_coder_7d493 7 = .ok (.getfield 15, 3) := by decide +kernel
theorem dJ0_coder_7d493_10 : decode cJ0_coder_7d493 10 = .ok (.goto 4, 3) := by decide +kernel
theorem dJ0_coder_7d493_13 : decode cJ0_coder_7d493 13 = .ok (.iconst 1, 1) := by decide +kernel
theorem dJ0_coder_7d493_14 : decode cJ0_coder_7d493 14 = .ok (.ireturn, 1) := by decide +kernel
theorem dJ0_isLatin1_aae02_0 : decode cJ0_isLatin1_aae02 0 = .ok (.getstatic 38, 3) := by decide +kernel
theorem dJ0_isLatin1_aae02_3 : decode cJ0_isLatin1_aae02 3 = .ok (.ifCond .eq 14, 3) := by decide +kernel
theorem dJ0_isLatin1_aae02_6 : decode cJ0_isLatin1_aae02 6 = .ok (.aload_n 0, 1) := by decide +kernel
theorem dJ0_isLatin1_aae02_7 : decode cJ0_isLatin1_aae02 7 = .ok (.getfield 15, 3) := by decide +kernel
theorem dJ0_isLatin1_aae02_10 : decode cJ0_isLatin1_aae02 10 = .ok (.ifCond .ne 7, 3) := by decide +kernel
theorem dJ0_isLatin1_aae02_13 : decode cJ0_isLatin1_aae02 13 = .ok (.iconst 1, 1) := by decide +kernel
theorem dJ0_isLatin1_aae02_14 : decode cJ0_isLatin1_aae02 14 = .ok (.goto 4, 3) := by decide +kernel
theorem dJ0_isLatin1_aae02_17 : decode cJ0_isLatin1_aae02 17 = .ok (.iconst 0, 1) := by decide +kernel
theorem dJ0_isLatin1_aae02_18 : decode cJ0_isLatin1_aae02 18 = .ok (.ireturn, 1) := by decide +kernel
theorem dJ0_checkIndex_df160_0 : decode cJ0_checkIndex_df160 0 = .ok (.iload_n 0, 1) := by decide +kernel
theorem dJ0_checkIndex_df160_1 : decode cJ0_checkIndex_df160 1 = .ok (.iload_n 1, 1) := by decide +kernel
theorem dJ0_checkIndex_df160_2 : decode cJ0_checkIndex_df160 2 = .ok (.getstatic 1053, 3) := by decide +kernel
theorem dJ0_checkIndex_df160_5 : decode cJ0_checkIndex_df160 5 = .ok (.invokestatic 1059, 3) := by decide +kernel
theorem dJ0_checkIndex_df160_8 : decode cJ0_checkIndex_df160 8 = .ok (.pop, 1) := by decide +kernel
theorem dJ0_checkIndex_df160_9 : decode cJ0_checkIndex_df160 9 = .ok (.return_, 1) := by decide +kernel
theorem dJ4_init_da8c8_0 : decode cJ4_init_da8c8 0 = .ok (.aload_n 0, 1) := by decide +kernel
theorem dJ4_init_da8c8_1 : decode cJ4_init_da8c8 1 = .ok (.bipush 16, 2) := by decide +kernel
theorem dJ4_init_da8c8_3 : decode cJ4_init_da8c8 3 = .ok (.invokespecial 1, 3) := by decide +kernel
theorem dJ4_init_da8c8_6 : decode cJ4_init_da8c8 6 = .ok (.return_, 1) := by decide +kernel
theorem dJ4_append_15ec4_0 : decode cJ4_append_15ec4 0 = .ok (.aload_n 0, 1) := by decide +kernel
theorem dJ4_append_15ec4_1 : decode cJ4_append_15ec4 1 = .ok (.aload_n 1, 1) := by decide +kernel
theorem dJ4_append_15ec4_2 : decode cJ4_append_15ec4 2 = .ok (.invokespecial 29, 3) := by decide +kernel
theorem dJ4_append_15ec4_5 : decode cJ4_append_15ec4 5 = .ok (.pop, 1) := by decide +kernel
theorem dJ4_append_15ec4_6 : decode cJ4_append_15ec4 6 = .ok (.aload_n 0, 1) := by decide +kernel
theorem dJ4_append_15ec4_7 : decode cJ4_append_15ec4 7 = .ok (.areturn, 1) := by decide +kernel
theorem dJ4_append_cf468_0 : decode cJ4_append_cf468 0 = .ok (.aload_n 0, 1) := by decide +kernel
theorem dJ4_append_cf468_1 : decode cJ4_append_cf468 1 = .ok (.iload_n 1, 1) := by decide +kernel
theorem dJ4_append_cf468_2 : decode cJ4_append_cf468 2 = .ok (.invokespecial 50, 3) := by decide +kernel
theorem dJ4_append_cf468_5 : decode cJ4_append_cf468 5 = .ok (.pop, 1) := by decide +kernel
theorem dJ4_append_cf468_6 : decode cJ4_append_cf468 6 = .ok (.aload_n 0, 1) := by decide +kernel
theorem dJ4_append_cf468_7 : decode cJ4_append_cf468 7 = .ok (.areturn, 1) := by decide +kernel
theorem dJ4_append_bf812_0 : decode cJ4_append_bf812 0 = .ok (.aload_n 0, 1) := by decide +kernel
theorem dJ4_append_bf812_1 : decode cJ4_append_bf812 1 = .ok (.iload_n 1, 1) := by decide +kernel
theorem dJ4_append_bf812_2 : decode cJ4_append_bf812 2 = .ok (.invokespecial 53, 3) := by decide +kernel
theorem dJ4_append_bf812_5 : decode cJ4_append_bf812 5 = .ok (.pop, 1) := by decide +kernel
theorem dJ4_append_bf812_6 : decode cJ4_append_bf812 6 = .ok (.aload_n 0, 1) := by decide +kernel
theorem dJ4_append_bf812_7 : decode cJ4_append_bf812 7 = .ok (.areturn, 1) := by decide +kernel
theorem dJ4_toString_0e30d_0 : decode cJ4_toString_0e30d 0 = .ok (.new 18, 3) := by decide +kernel
theorem dJ4_toString_0e30d_3 : decode cJ4_toString_0e30d 3 = .ok (.dup, 1) := by decide +kernel
theorem dJ4_toString_0e30d_4 : decode cJ4_toString_0e30d 4 = .ok (.aload_n 0, 1) := by decide +kernel
theorem dJ4_toString_0e30d_5 : decode cJ4_toString_0e30d 5 = .ok (.invokespecial 137, 3) := by decide +kernel
theorem dJ4_toString_0e30d_8 : decode cJ4_toString_0e30d 8 = .ok (.areturn, 1) := by decide +kernel
theorem dJ4_length_8abf5_0 : decode cJ4_length_8abf5 0 = .ok (.aload_n 0, 1) := by decide +kernel
theorem dJ4_length_8abf5_1 : decode cJ4_length_8abf5 1 = .ok (.invokespecial 343, 3) := by decide +kernel
theorem dJ4_length_8abf5_4 : decode cJ4_length_8abf5 4 = .ok (.ireturn, 1) := by decide +kernel
theorem dJ1_charAt_3b067_0 : decode cJ1_charAt_3b067 0 = .ok (.iload_n 1, 1) := by decide +kernel
theorem dJ1_charAt_3b067_1 : decode cJ1_charAt_3b067 1 = .ok (.aload_n 0, 1) := by decide +kernel
theorem dJ1_charAt_3b067_2 : decode cJ1_charAt_3b067 2 = .ok (.arraylength, 1) := by decide +kernel
theorem dJ1_charAt_3b067_3 : decode cJ1_charAt_3b067 3 = .ok (.invokestatic 9, 3) := by decide +kernel
theorem dJ1_charAt_3b067_6 : decode cJ1_charAt_3b067 6 = .ok (.aload_n 0, 1) := by decide +kernel
theorem dJ1_charAt_3b067_7 : decode cJ1_charAt_3b067 7 = .ok (.iload_n 1, 1) := by decide +kernel
theorem dJ1_charAt_3b067_8 : decode cJ1_charAt_3b067 8 = .ok (.baload, 1) := by decide +kernel
theorem dJ1_charAt_3b067_9 : decode cJ1_charAt_3b067 9 = .ok (.sipush 255, 3) := by decide +kernel
theorem dJ1_charAt_3b067_12 : decode cJ1_charAt_3b067 12 = .ok (.iand, 1) := by decide +kernel
theorem dJ1_charAt_3b067_13 : decode cJ1_charAt_3b067 13 = .ok (.i2c, 1) := by decide +kernel
theorem dJ1_charAt_3b067_14 : decode cJ1_charAt_3b067 14 = .ok (.ireturn, 1) := by decide +kernel
theorem dJ1_canEncode_fc78d_0 : decode cJ1_canEncode_fc78d 0 = .ok (.iload_n 0, 1) := by decide +kernel
theorem dJ1_canEncode_fc78d_1 : decode cJ1_canEncode_fc78d 1 = .ok (.sipush 255, 3) := by decide +kernel
theorem dJ1_canEncode_fc78d_4 : decode cJ1_canEncode_fc78d 4 = .ok (.if_icmp .gt 7, 3) := by decide +kernel
theorem dJ1_canEncode_fc78d_7 : decode cJ1_canEncode_fc78d 7 = .ok (.iconst 1, 1) := by decide +kernel
theorem dJ1_canEncode_fc78d_8 : decode cJ1_canEncode_fc78d 8 = .ok (.goto 4, 3) := by decide +kernel
theorem dJ1_canEncode_fc78d_11 : decode cJ1_canEncode_fc78d 11 = .ok (.iconst 0, 1) := by decide +kernel
theorem dJ1_canEncode_fc78d_12 : decode cJ1_canEncode_fc78d 12 = .ok (.ireturn, 1) := by decide +kernel
theorem dJ1_equals_b5fdf_0 : decode cJ1_equals_b5fdf 0 = .ok (.aload_n 0, 1) := by decide +kernel
theorem dJ1_equals_b5fdf_1 : decode cJ1_equals_b5fdf 1 = .ok (.arraylength, 1) := by decide +kernel
theorem dJ1_equals_b5fdf_2 : decode cJ1_equals_b5fdf 2 = .ok (.aload_n 1, 1) := by decide +kernel
theorem dJ1_equals_b5fdf_3 : decode cJ1_equals_b5fdf 3 = .ok (.arraylength, 1) := by decide +kernel
theorem dJ1_equals_b5fdf_4 : decode cJ1_equals_b5fdf 4 = .ok (.if_icmp .ne 30, 3) := by decide +kernel
theorem dJ1_equals_b5fdf_7 : decode cJ1_equals_b5fdf 7 = .ok (.iconst 0, 1) := by decide +kernel
theorem dJ1_equals_b5fdf_8 : decode cJ1_equals_b5fdf 8 = .ok (.istore_n 2, 1) := by decide +kernel
theorem dJ1_equals_b5fdf_9 : decode cJ1_equals_b5fdf 9 = .ok (.iload_n 2, 1) := by decide +kernel
theorem dJ1_equals_b5fdf_10 : decode cJ1_equals_b5fdf 10 = .ok (.aload_n 0, 1) := by decide +kernel
theorem dJ1_equals_b5fdf_11 : decode cJ1_equals_b5fdf 11 = .ok (.arraylength, 1) := by decide +kernel
theorem dJ1_equals_b5fdf_12 : decode cJ1_equals_b5fdf 12 = .ok (.if_icmp .ge 20, 3) := by decide +kernel
theorem dJ1_equals_b5fdf_15 : decode cJ1_equals_b5fdf 15 = .ok (.aload_n 0, 1) := by decide +kernel
theorem dJ1_equals_b5fdf_16 : decode cJ1_equals_b5fdf 16 = .ok (.iload_n 2, 1) := by decide +kernel
theorem dJ1_equals_b5fdf_17 : decode cJ1_equals_b5fdf 17 = .ok (.baload, 1) := by decide +kernel
theorem dJ1_equals_b5fdf_18 : decode cJ1_equals_b5fdf 18 = .ok (.aload_n 1, 1) := by decide +kernel
theorem dJ1_equals_b5fdf_19 : decode cJ1_equals_b5fdf 19 = .ok (.iload_n 2, 1) := by decide +kernel
theorem dJ1_equals_b5fdf_20 : decode cJ1_equals_b5fdf 20 = .ok (.baload, 1) := by decide +kernel
theorem dJ1_equals_b5fdf_21 : decode cJ1_equals_b5fdf 21 = .ok (.if_icmp .eq 5, 3) := by decide +kernel
theorem dJ1_equals_b5fdf_24 : decode cJ1_equals_b5fdf 24 = .ok (.iconst 0, 1) := by decide +kernel
theorem dJ1_equals_b5fdf_25 : decode cJ1_equals_b5fdf 25 = .ok (.ireturn, 1) := by decide +kernel
theorem dJ1_equals_b5fdf_26 : decode cJ1_equals_b5fdf 26 = .ok (.iinc 2 1, 3) := by decide +kernel
theorem dJ1_equals_b5fdf_29 : decode cJ1_equals_b5fdf 29 = .ok (.goto (-20), 3) := by decide +kernel
theorem dJ1_equals_b5fdf_32 : decode cJ1_equals_b5fdf 32 = .ok (.iconst 1, 1) := by decide +kernel
theorem dJ1_equals_b5fdf_33 : decode cJ1_equals_b5fdf 33 = .ok (.ireturn, 1) := by decide +kernel
theorem dJ1_equals_b5fdf_34 : decode cJ1_equals_b5fdf 34 = .ok (.iconst 0, 1) := by decide +kernel
theorem dJ1_equals_b5fdf_35 : decode cJ1_equals_b5fdf 35 = .ok (.ireturn, 1) := by decide +kernel
theorem dJ7_copyOf_9075b_0 : decode cJ7_copyOf_9075b 0 = .ok (.iload_n 1, 1) := by decide +kernel
theorem dJ7_copyOf_9075b_1 : decode cJ7_copyOf_9075b 1 = .ok (.aload_n 0, 1) := by decide +kernel
theorem dJ7_copyOf_9075b_2 : decode cJ7_copyOf_9075b 2 = .ok (.arraylength, 1) := by decide +kernel
theorem dJ7_copyOf_9075b_3 : decode cJ7_copyOf_9075b 3 = .ok (.if_icmp .ne 11, 3) := by decide +kernel
theorem dJ7_copyOf_9075b_6 : decode cJ7_copyOf_9075b 6 = .ok (.aload_n 0, 1) := by decide +kernel
theorem dJ7_copyOf_9075b_7 : decode cJ7_copyOf_9075b 7 = .ok (.invokevirtual 310, 3) := by decide +kernel
theorem dJ7_copyOf_9075b_10 : decode cJ7_copyOf_9075b 10 = .ok (.checkcast 311, 3) := by decide +kernel
theorem dJ7_copyOf_9075b_13 : decode cJ7_copyOf_9075b 13 = .ok (.areturn, 1) := by decide +kernel
theorem dJ7_copyOf_9075b_14 : decode cJ7_copyOf_9075b 14 = .ok (.iload_n 1, 1) := by decide +kernel
theorem dJ7_copyOf_9075b_15 : decode cJ7_copyOf_9075b 15 = .ok (.newarray .byte, 2) := by decide +kernel
theorem dJ7_copyOf_9075b_17 : decode cJ7_copyOf_9075b 17 = .ok (.astore_n 2, 1) := by decide +kernel
theorem dJ7_copyOf_9075b_18 : decode cJ7_copyOf_9075b 18 = .ok (.aload_n 0, 1) := by decide +kernel
theorem dJ7_copyOf_9075b_19 : decode cJ7_copyOf_9075b 19 = .ok (.iconst 0, 1) := by decide +kernel
theorem dJ7_copyOf_9075b_20 : decode cJ7_copyOf_9075b 20 = .ok (.aload_n 2, 1) := by decide +kernel
theorem dJ7_copyOf_9075b_21 : decode cJ7_copyOf_9075b 21 = .ok (.iconst 0, 1) := by decide +kernel
theorem dJ7_copyOf_9075b_22 : decode cJ7_copyOf_9075b 22 = .ok (.aload_n 0, 1) := by decide +kernel
theorem dJ7_copyOf_9075b_23 : decode cJ7_copyOf_9075b 23 = .ok (.arraylength, 1) := by decide +kernel
theorem dJ7_copyOf_9075b_24 : decode cJ7_copyOf_9075b 24 = .ok (.iload_n 1, 1) := by decide +kernel
theorem dJ7_copyOf_9075b_25 : decode cJ7_copyOf_9075b 25 = .ok (.invokestatic 304, 3) := by decide +kernel
theorem dJ7_copyOf_9075b_28 : decode cJ7_copyOf_9075b 28 = .ok (.invokestatic 150, 3) := by decide +kernel
theorem dJ7_copyOf_9075b_31 : decode cJ7_copyOf_9075b 31 = .ok (.aload_n 2, 1) := by decide +kernel
theorem dJ7_copyOf_9075b_32 : decode cJ7_copyOf_9075b 32 = .ok (.areturn, 1) := by decide +kernel
theorem dJ7_checkLength_df160_0 : decode cJ7_checkLength_df160 0 = .ok (.iload_n 1, 1) := by decide +kernel
theorem dJ7_checkLength_df160_1 : decode cJ7_checkLength_df160 1 = .ok (.iload_n 0, 1) := by decide +kernel
theorem dJ7_checkLength_df160_2 : decode cJ7_checkLength_df160 2 = .ok (.if_icmp .ge 35, 3) := by decide +kernel
theorem dJ7_checkLength_df160_5 : decode cJ7_checkLength_df160 5 = .ok (.new 43, 3) := by decide +kernel
theorem dJ7_checkLength_df160_8 : decode cJ7_checkLength_df160 8 = .ok (.dup, 1) := by decide +kernel
theorem dJ7_checkLength_df160_9 : decode cJ7_checkLength_df160 9 = .ok (.new 45, 3) := by decide +kernel
theorem dJ7_checkLength_df160_12 : decode cJ7_checkLength_df160 12 = .ok (.dup, 1) := by decide +kernel
theorem dJ7_checkLength_df160_13 : decode cJ7_checkLength_df160 13 = .ok (.invokespecial 47, 3) := by decide +kernel
theorem dJ7_checkLength_df160_16 : decode cJ7_checkLength_df160 16 = .ok (.iload_n 0, 1) := by decide +kernel
theorem dJ7_checkLength_df160_17 : decode cJ7_checkLength_df160 17 = .ok (.invokevirtual 54, 3) := by decide +kernel
theorem dJ7_checkLength_df160_20 : decode cJ7_checkLength_df160 20 = .ok (.ldc_w 337, 3) := by decide +kernel
theorem dJ7_checkLength_df160_23 : decode cJ7_checkLength_df160 23 = .ok (.invokevirtual 50, 3) := by decide +kernel
theorem dJ7_checkLength_df160_26 : decode cJ7_checkLength_df160 26 = .ok (.iload_n 1, 1) := by decide +kernel
theorem dJ7_checkLength_df160_27 : decode cJ7_checkLength_df160 27 = .ok (.invokevirtual 54, 3) := by decide +kernel
theorem dJ7_checkLength_df160_30 : decode cJ7_checkLength_df160 30 = .ok (.invokevirtual 61, 3) := by decide +kernel
theorem dJ7_checkLength_df160_33 : decode cJ7_checkLength_df160 33 = .ok (.invokespecial 65, 3) := by decide +kernel
theorem dJ7_checkLength_df160_36 : decode cJ7_checkLength_df160 36 = .ok (.athrow, 1) := by decide +kernel
theorem dJ7_checkLength_df160_37 : decode cJ7_checkLength_df160 37 = .ok (.return_, 1) := by decide +kernel
theorem dJ7_copyOfRange_39247_0 : decode cJ7_copyOfRange_39247 0 = .ok (.iload_n 1, 1) := by decide +kernel
theorem dJ7_copyOfRange_39247_1 : decode cJ7_copyOfRange_39247 1 = .ok (.ifCond .ne 9, 3) := by decide +kernel
theorem dJ7_copyOfRange_39247_4 : decode cJ7_copyOfRange_39247 4 = .ok (.iload_n 2, 1) := by decide +kernel
theorem dJ7_copyOfRange_39247_5 : decode cJ7_copyOfRange_39247 5 = .ok (.aload_n 0, 1) := by decide +kernel
theorem dJ7_copyOfRange_39247_6 : decode cJ7_copyOfRange_39247 6 = .ok (.arraylength, 1) := by decide +kernel
theorem dJ7_copyOfRange_39247_7 : decode cJ7_copyOfRange_39247 7 = .ok (.if_icmp .eq 10, 3) := by decide +kernel
theorem dJ7_copyOfRange_39247_10 : decode cJ7_copyOfRange_39247 10 = .ok (.aload_n 0, 1) := by decide +kernel
theorem dJ7_copyOfRange_39247_11 : decode cJ7_copyOfRange_39247 11 = .ok (.iload_n 1, 1) := by decide +kernel
theorem dJ7_copyOfRange_39247_12 : decode cJ7_copyOfRange_39247 12 = .ok (.iload_n 2, 1) := by decide +kernel
theorem dJ7_copyOfRange_39247_13 : decode cJ7_copyOfRange_39247 13 = .ok (.invokestatic 339, 3) := by decide +kernel
theorem dJ7_copyOfRange_39247_16 : decode cJ7_copyOfRange_39247 16 = .ok (.areturn, 1) := by decide +kernel
theorem dJ7_copyOfRange_39247_17 : decode cJ7_copyOfRange_39247 17 = .ok (.aload_n 0, 1) := by decide +kernel
theorem dJ7_copyOfRange_39247_18 : decode cJ7_copyOfRange_39247 18 = .ok (.invokevirtual 310, 3) := by decide +kernel
theorem dJ7_copyOfRange_39247_21 : decode cJ7_copyOfRange_39247 21 = .ok (.checkcast 311, 3) := by decide +kernel
theorem dJ7_copyOfRange_39247_24 : decode cJ7_copyOfRange_39247 24 = .ok (.areturn, 1) := by decide +kernel
theorem dJ7_copyOfRangeByte_39247_0 : decode cJ7_copyOfRangeByte_39247 0 = .ok (.iload_n 1, 1) := by decide +kernel
theorem dJ7_copyOfRangeByte_39247_1 : decode cJ7_copyOfRangeByte_39247 1 = .ok (.iload_n 2, 1) := by decide +kernel
theorem dJ7_copyOfRangeByte_39247_2 : decode cJ7_copyOfRangeByte_39247 2 = .ok (.invokestatic 343, 3) := by decide +kernel
theorem dJ7_copyOfRangeByte_39247_5 : decode cJ7_copyOfRangeByte_39247 5 = .ok (.iload_n 2, 1) := by decide +kernel
theorem dJ7_copyOfRangeByte_39247_6 : decode cJ7_copyOfRangeByte_39247 6 = .ok (.iload_n 1, 1) := by decide +kernel
theorem dJ7_copyOfRangeByte_39247_7 : decode cJ7_copyOfRangeByte_39247 7 = .ok (.isub, 1) := by decide +kernel
theorem dJ7_copyOfRangeByte_39247_8 : decode cJ7_copyOfRangeByte_39247 8 = .ok (.istore_n 3, 1) := by decide +kernel
theorem dJ7_copyOfRangeByte_39247_9 : decode cJ7_copyOfRangeByte_39247 9 = .ok (.iload_n 3, 1) := by decide +kernel
theorem dJ7_copyOfRangeByte_39247_10 : decode cJ7_copyOfRangeByte_39247 10 = .ok (.newarray .byte, 2) := by decide +kernel
theorem dJ7_copyOfRangeByte_39247_12 : decode cJ7_copyOfRangeByte_39247 12 = .ok (.astore 4, 2) := by decide +kernel
theorem dJ7_copyOfRangeByte_39247_14 : decode cJ7_copyOfRangeByte_39247 14 = .ok (.aload_n 0, 1) := by decide +kernel
theorem dJ7_copyOfRangeByte_39247_15 : decode cJ7_copyOfRangeByte_39247 15 = .ok (.iload_n 1, 1) := by decide +kernel
theorem dJ7_copyOfRangeByte_39247_16 : decode cJ7_copyOfRangeByte_39247 16 = .ok (.aload 4, 2) := by decide +kernel
theorem dJ7_copyOfRangeByte_39247_18 : decode cJ7_copyOfRangeByte_39247 18 = .ok (.iconst 0, 1) := by decide +kernel
theorem dJ7_copyOfRangeByte_39247_19 : decode cJ7_copyOfRangeByte_39247 19 = .ok (.aload_n 0, 1) := by decide +kernel
theorem dJ7_copyOfRangeByte_39247_20 : decode cJ7_copyOfRangeByte_39247 20 = .ok (.arraylength, 1) := by decide +kernel
theorem dJ7_copyOfRangeByte_39247_21 : decode cJ7_copyOfRangeByte_39247 21 = .ok (.iload_n 1, 1) := by decide +kernel
theorem dJ7_copyOfRangeByte_39247_22 : decode cJ7_copyOfRangeByte_39247 22 = .ok (.isub, 1) := by decide +kernel
theorem dJ7_copyOfRangeByte_39247_23 : decode cJ7_copyOfRangeByte_39247 23 = .ok (.iload_n 3, 1) := by decide +kernel
theorem dJ7_copyOfRangeByte_39247_24 : decode cJ7_copyOfRangeByte_39247 24 = .ok (.invokestatic 304, 3) := by decide +kernel
theorem dJ7_copyOfRangeByte_39247_27 : decode cJ7_copyOfRangeByte_39247 27 = .ok (.invokestatic 150, 3) := by decide +kernel
theorem dJ7_copyOfRangeByte_39247_30 : decode cJ7_copyOfRangeByte_39247 30 = .ok (.aload 4, 2) := by decide +kernel
theorem dJ7_copyOfRangeByte_39247_32 : decode cJ7_copyOfRangeByte_39247 32 = .ok (.areturn, 1) := by decide +kernel
theorem dJ8_newLength_cabcc_0 : decode cJ8_newLength_cabcc 0 = .ok (.iload_n 0, 1) := by decide +kernel
theorem dJ8_newLength_cabcc_1 : decode cJ8_newLength_cabcc 1 = .ok (.iload_n 1, 1) := by decide +kernel
theorem dJ8_newLength_cabcc_2 : decode cJ8_newLength_cabcc 2 = .ok (.iload_n 2, 1) := by decide +kernel
theorem dJ8_newLength_cabcc_3 : decode cJ8_newLength_cabcc 3 = .ok (.invokestatic 194, 3) := by decide +kernel
theorem dJ8_newLength_cabcc_6 : decode cJ8_newLength_cabcc 6 = .ok (.iadd, 1) := by decide +kernel
theorem dJ8_newLength_cabcc_7 : decode cJ8_newLength_cabcc 7 = .ok (.istore_n 3, 1) := by decide +kernel
theorem dJ8_newLength_cabcc_8 : decode cJ8_newLength_cabcc 8 = .ok (.iconst 0, 1) := by decide +kernel
theorem dJ8_newLength_cabcc_9 : decode cJ8_newLength_cabcc 9 = .ok (.iload_n 3, 1) := by decide +kernel
theorem dJ8_newLength_cabcc_10 : decode cJ8_newLength_cabcc 10 = .ok (.if_icmp .ge 11, 3) := by decide +kernel
theorem dJ8_newLength_cabcc_13 : decode cJ8_newLength_cabcc 13 = .ok (.iload_n 3, 1) := by decide +kernel
theorem dJ8_newLength_cabcc_14 : decode cJ8_newLength_cabcc 14 = .ok (.ldc 200, 2) := by decide +kernel
theorem dJ8_newLength_cabcc_16 : decode cJ8_newLength_cabcc 16 = .ok (.if_icmp .gt 5, 3) := by decide +kernel
theorem dJ8_newLength_cabcc_19 : decode cJ8_newLength_cabcc 19 = .ok (.iload_n 3, 1) := by decide +kernel
theorem dJ8_newLength_cabcc_20 : decode cJ8_newLength_cabcc 20 = .ok (.ireturn, 1) := by decide +kernel
theorem dJ8_newLength_cabcc_21 : decode cJ8_newLength_cabcc 21 = .ok (.iload_n 0, 1) := by decide +kernel
theorem dJ8_newLength_cabcc_22 : decode cJ8_newLength_cabcc 22 = .ok (.iload_n 1, 1) := by decide +kernel
theorem dJ8_newLength_cabcc_23 : decode cJ8_newLength_cabcc 23 = .ok (.invokestatic 201, 3) := by decide +kernel
theorem dJ8_newLength_cabcc_26 : decode cJ8_newLength_cabcc 26 = .ok (.ireturn, 1) := by decide +kernel
theorem dJ3_checkIndex_8e157_0 : decode cJ3_checkIndex_8e157 0 = .ok (.iload_n 0, 1) := by decide +kernel
theorem dJ3_checkIndex_8e157_1 : decode cJ3_checkIndex_8e157 1 = .ok (.ifCond .lt 8, 3) := by decide +kernel
theorem dJ3_checkIndex_8e157_4 : decode cJ3_checkIndex_8e157 4 = .ok (.iload_n 0, 1) := by decide +kernel
theorem dJ3_checkIndex_8e157_5 : decode cJ3_checkIndex_8e157 5 = .ok (.iload_n 1, 1) := by decide +kernel
theorem dJ3_checkIndex_8e157_6 : decode cJ3_checkIndex_8e157 6 = .ok (.if_icmp .lt 10, 3) := by decide +kernel
theorem dJ3_checkIndex_8e157_9 : decode cJ3_checkIndex_8e157 9 = .ok (.aload_n 2, 1) := by decide +kernel
theorem dJ3_checkIndex_8e157_10 : decode cJ3_checkIndex_8e157 10 = .ok (.iload_n 0, 1) := by decide +kernel
theorem dJ3_checkIndex_8e157_11 : decode cJ3_checkIndex_8e157 11 = .ok (.iload_n 1, 1) := by decide +kernel
theorem dJ3_checkIndex_8e157_12 : decode cJ3_checkIndex_8e157 12 = .ok (.invokestatic 95, 3) := by decide +kernel
theorem dJ3_checkIndex_8e157_15 : decode cJ3_checkIndex_8e157 15 = .ok (.athrow, 1) := by decide +kernel
theorem dJ3_checkIndex_8e157_16 : decode cJ3_checkIndex_8e157 16 = .ok (.iload_n 0, 1) := by decide +kernel
theorem dJ3_checkIndex_8e157_17 : decode cJ3_checkIndex_8e157 17 = .ok (.ireturn, 1) := by decide +kernel
theorem dL_cell_0 : decode cL_cell 0 = .ok (.aload_n 0, 1) := by decide +kernel
theorem dL_cell_1 : decode cL_cell 1 = .ok (.arraylength, 1) := by decide +kernel
theorem dL_cell_2 : decode cL_cell 2 = .ok (.ifCond .ne 13, 3) := by decide +kernel
theorem dL_cell_5 : decode cL_cell 5 = .ok (.bipush 71, 2) := by decide +kernel
theorem dL_cell_7 : decode cL_cell 7 = .ok (.iload_n 1, 1) := by decide +kernel
theorem dL_cell_8 : decode cL_cell 8 = .ok (.imul, 1) := by decide +kernel
theorem dL_cell_9 : decode cL_cell 9 = .ok (.bipush 13, 2) := by decide +kernel
theorem dL_cell_11 : decode cL_cell 11 = .ok (.iadd, 1) := by decide +kernel
theorem dL_cell_12 : decode cL_cell 12 = .ok (.goto 19, 3) := by decide +kernel
theorem dL_cell_15 : decode cL_cell 15 = .ok (.aload_n 0, 1) := by decide +kernel
theorem dL_cell_16 : decode cL_cell 16 = .ok (.iload_n 1, 1) := by decide +kernel
theorem dL_cell_17 : decode cL_cell 17 = .ok (.aload_n 0, 1) := by decide +kernel
theorem dL_cell_18 : decode cL_cell 18 = .ok (.arraylength, 1) := by decide +kernel
theorem dL_cell_19 : decode cL_cell 19 = .ok (.irem, 1) := by decide +kernel
theorem dL_cell_20 : decode cL_cell 20 = .ok (.iaload, 1) := by decide +kernel
theorem dL_cell_21 : decode cL_cell 21 = .ok (.iconst 5, 1) := by decide +kernel
theorem dL_cell_22 : decode cL_cell 22 = .ok (.iload_n 1, 1) := by decide +kernel
theorem dL_cell_23 : decode cL_cell 23 = .ok (.aload_n 0, 1) := by decide +kernel
theorem dL_cell_24 : decode cL_cell 24 = .ok (.arraylength, 1) := by decide +kernel
theorem dL_cell_25 : decode cL_cell 25 = .ok (.idiv, 1) := by decide +kernel
theorem dL_cell_26 : decode cL_cell 26 = .ok (.imul, 1) := by decide +kernel
