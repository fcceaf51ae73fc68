theorem dX5_givesBonuses_95 : decode cX5_givesBonuses 95 = .ok (.return_, 1) := by decide +kernel
theorem dX5_isNewAgain_0 : decode cX5_isNewAgain 0 = .ok (.aload_n 0, 1) := by decide +kernel
theorem dX5_isNewAgain_1 : decode cX5_isNewAgain 1 = .ok (.getfield 7, 3) := by decide +kernel
theorem dX5_isNewAgain_4 : decode cX5_isNewAgain 4 = .ok (.iload_n 1, 1) := by decide +kernel
theorem dX5_isNewAgain_5 : decode cX5_isNewAgain 5 = .ok (.iconst 3, 1) := by decide +kernel
theorem dX5_isNewAgain_6 : decode cX5_isNewAgain 6 = .ok (.invokestatic 30, 3) := by decide +kernel
theorem dX5_isNewAgain_9 : decode cX5_isNewAgain 9 = .ok (.iconst 0, 1) := by decide +kernel
theorem dX5_isNewAgain_10 : decode cX5_isNewAgain 10 = .ok (.iastore, 1) := by decide +kernel
theorem dX5_isNewAgain_11 : decode cX5_isNewAgain 11 = .ok (.aload_n 0, 1) := by decide +kernel
theorem dX5_isNewAgain_12 : decode cX5_isNewAgain 12 = .ok (.getfield 7, 3) := by decide +kernel
theorem dX5_isNewAgain_15 : decode cX5_isNewAgain 15 = .ok (.iload_n 1, 1) := by decide +kernel
theorem dX5_isNewAgain_16 : decode cX5_isNewAgain 16 = .ok (.iconst 4, 1) := by decide +kernel
theorem dX5_isNewAgain_17 : decode cX5_isNewAgain 17 = .ok (.invokestatic 30, 3) := by decide +kernel
theorem dX5_isNewAgain_20 : decode cX5_isNewAgain 20 = .ok (.iconst 0, 1) := by decide +kernel
theorem dX5_isNewAgain_21 : decode cX5_isNewAgain 21 = .ok (.iastore, 1) := by decide +kernel
theorem dX5_isNewAgain_22 : decode cX5_isNewAgain 22 = .ok (.aload_n 0, 1) := by decide +kernel
theorem dX5_isNewAgain_23 : decode cX5_isNewAgain 23 = .ok (.getfield 7, 3) := by decide +kernel
theorem dX5_isNewAgain_26 : decode cX5_isNewAgain 26 = .ok (.iload_n 1, 1) := by decide +kernel
theorem dX5_isNewAgain_27 : decode cX5_isNewAgain 27 = .ok (.bipush 6, 2) := by decide +kernel
theorem dX5_isNewAgain_29 : decode cX5_isNewAgain 29 = .ok (.invokestatic 30, 3) := by decide +kernel
theorem dX5_isNewAgain_32 : decode cX5_isNewAgain 32 = .ok (.iconst 0, 1) := by decide +kernel
theorem dX5_isNewAgain_33 : decode cX5_isNewAgain 33 = .ok (.iastore, 1) := by decide +kernel
theorem dX5_isNewAgain_34 : decode cX5_isNewAgain 34 = .ok (.aload_n 0, 1) := by decide +kernel
theorem dX5_isNewAgain_35 : decode cX5_isNewAgain 35 = .ok (.getfield 7, 3) := by decide +kernel
theorem dX5_isNewAgain_38 : decode cX5_isNewAgain 38 = .ok (.iload_n 1, 1) := by decide +kernel
theorem dX5_isNewAgain_39 : decode cX5_isNewAgain 39 = .ok (.bipush 7, 2) := by decide +kernel
theorem dX5_isNewAgain_41 : decode cX5_isNewAgain 41 = .ok (.invokestatic 30, 3) := by decide +kernel
theorem dX5_isNewAgain_44 : decode cX5_isNewAgain 44 = .ok (.iconst 0, 1) := by decide +kernel
theorem dX5_isNewAgain_45 : decode cX5_isNewAgain 45 = .ok (.iastore, 1) := by decide +kernel
theorem dX5_isNewAgain_46 : decode cX5_isNewAgain 46 = .ok (.aload_n 0, 1) := by decide +kernel
theorem dX5_isNewAgain_47 : decode cX5_isNewAgain 47 = .ok (.getfield 7, 3) := by decide +kernel
theorem dX5_isNewAgain_50 : decode cX5_isNewAgain 50 = .ok (.iload_n 1, 1) := by decide +kernel
theorem dX5_isNewAgain_51 : decode cX5_isNewAgain 51 = .ok (.bipush 10, 2) := by decide +kernel
theorem dX5_isNewAgain_53 : decode cX5_isNewAgain 53 = .ok (.invokestatic 30, 3) := by decide +kernel
theorem dX5_isNewAgain_56 : decode cX5_isNewAgain 56 = .ok (.iconst 0, 1) := by decide +kernel
theorem dX5_isNewAgain_57 : decode cX5_isNewAgain 57 = .ok (.iastore, 1) := by decide +kernel
theorem dX5_isNewAgain_58 : decode cX5_isNewAgain 58 = .ok (.aload_n 0, 1) := by decide +kernel
theorem dX5_isNewAgain_59 : decode cX5_isNewAgain 59 = .ok (.getfield 7, 3) := by decide +kernel
theorem dX5_isNewAgain_62 : decode cX5_isNewAgain 62 = .ok (.iload_n 1, 1) := by decide +kernel
theorem dX5_isNewAgain_63 : decode cX5_isNewAgain 63 = .ok (.bipush 11, 2) := by decide +kernel
theorem dX5_isNewAgain_65 : decode cX5_isNewAgain 65 = .ok (.invokestatic 30, 3) := by decide +kernel
theorem dX5_isNewAgain_68 : decode cX5_isNewAgain 68 = .ok (.iconst 0, 1) := by decide +kernel
theorem dX5_isNewAgain_69 : decode cX5_isNewAgain 69 = .ok (.iastore, 1) := by decide +kernel
theorem dX5_isNewAgain_70 : decode cX5_isNewAgain 70 = .ok (.aload_n 0, 1) := by decide +kernel
theorem dX5_isNewAgain_71 : decode cX5_isNewAgain 71 = .ok (.iload_n 1, 1) := by decide +kernel
theorem dX5_isNewAgain_72 : decode cX5_isNewAgain 72 = .ok (.invokevirtual 72, 3) := by decide +kernel
theorem dX5_isNewAgain_75 : decode cX5_isNewAgain 75 = .ok (.istore_n 2, 1) := by decide +kernel
theorem dX5_isNewAgain_76 : decode cX5_isNewAgain 76 = .ok (.return_, 1) := by decide +kernel
theorem dX5_retest_0 : decode cX5_retest 0 = .ok (.aload_n 0, 1) := by decide +kernel
theorem dX5_retest_1 : decode cX5_retest 1 = .ok (.iload_n 1, 1) := by decide +kernel
theorem dX5_retest_2 : decode cX5_retest 2 = .ok (.invokevirtual 46, 3) := by decide +kernel
theorem dX5_retest_5 : decode cX5_retest 5 = .ok (.ifCond .eq 20, 3) := by decide +kernel
theorem dX5_retest_8 : decode cX5_retest 8 = .ok (.aload_n 0, 1) := by decide +kernel
theorem dX5_retest_9 : decode cX5_retest 9 = .ok (.iload_n 2, 1) := by decide +kernel
theorem dX5_retest_10 : decode cX5_retest 10 = .ok (.invokevirtual 56, 3) := by decide +kernel
theorem dX5_retest_13 : decode cX5_retest 13 = .ok (.ifCond .eq 12, 3) := by decide +kernel
theorem dX5_retest_16 : decode cX5_retest 16 = .ok (.iload_n 3, 1) := by decide +kernel
theorem dX5_retest_17 : decode cX5_retest 17 = .ok (.iconst 0, 1) := by decide +kernel
theorem dX5_retest_18 : decode cX5_retest 18 = .ok (.iconst 1, 1) := by decide +kernel
theorem dX5_retest_19 : decode cX5_retest 19 = .ok (.invokestatic 26, 3) := by decide +kernel
theorem dX5_retest_22 : decode cX5_retest 22 = .ok (.ifCond .ne 7, 3) := by decide +kernel
theorem dX5_retest_25 : decode cX5_retest 25 = .ok (.sipush (-10001), 3) := by decide +kernel
theorem dX5_retest_28 : decode cX5_retest 28 = .ok (.ireturn, 1) := by decide +kernel
theorem dX5_retest_29 : decode cX5_retest 29 = .ok (.aload_n 0, 1) := by decide +kernel
theorem dX5_retest_30 : decode cX5_retest 30 = .ok (.iload_n 2, 1) := by decide +kernel
theorem dX5_retest_31 : decode cX5_retest 31 = .ok (.bipush 10, 2) := by decide +kernel
theorem dX5_retest_33 : decode cX5_retest 33 = .ok (.invokevirtual 53, 3) := by decide +kernel
theorem dX5_retest_36 : decode cX5_retest 36 = .ok (.aload_n 0, 1) := by decide +kernel
theorem dX5_retest_37 : decode cX5_retest 37 = .ok (.iload_n 2, 1) := by decide +kernel
theorem dX5_retest_38 : decode cX5_retest 38 = .ok (.bipush 11, 2) := by decide +kernel
theorem dX5_retest_40 : decode cX5_retest 40 = .ok (.invokevirtual 53, 3) := by decide +kernel
theorem dX5_retest_43 : decode cX5_retest 43 = .ok (.ior, 1) := by decide +kernel
theorem dX5_retest_44 : decode cX5_retest 44 = .ok (.iload_n 1, 1) := by decide +kernel
theorem dX5_retest_45 : decode cX5_retest 45 = .ok (.invokestatic 98, 3) := by decide +kernel
theorem dX5_retest_48 : decode cX5_retest 48 = .ok (.istore 4, 2) := by decide +kernel
theorem dX5_retest_50 : decode cX5_retest 50 = .ok (.aload_n 0, 1) := by decide +kernel
theorem dX5_retest_51 : decode cX5_retest 51 = .ok (.iload_n 2, 1) := by decide +kernel
theorem dX5_retest_52 : decode cX5_retest 52 = .ok (.iconst 3, 1) := by decide +kernel
theorem dX5_retest_53 : decode cX5_retest 53 = .ok (.invokevirtual 53, 3) := by decide +kernel
theorem dX5_retest_56 : decode cX5_retest 56 = .ok (.iconst 3, 1) := by decide +kernel
theorem dX5_retest_57 : decode cX5_retest 57 = .ok (.if_icmp .ne 28, 3) := by decide +kernel
theorem dX5_retest_60 : decode cX5_retest 60 = .ok (.aload_n 0, 1) := by decide +kernel
theorem dX5_retest_61 : decode cX5_retest 61 = .ok (.iload_n 2, 1) := by decide +kernel
theorem dX5_retest_62 : decode cX5_retest 62 = .ok (.bipush 9, 2) := by decide +kernel
theorem dX5_retest_64 : decode cX5_retest 64 = .ok (.invokevirtual 53, 3) := by decide +kernel
theorem dX5_retest_67 : decode cX5_retest 67 = .ok (.iconst 1, 1) := by decide +kernel
theorem dX5_retest_68 : decode cX5_retest 68 = .ok (.if_icmp .eq 17, 3) := by decide +kernel
theorem dX5_retest_71 : decode cX5_retest 71 = .ok (.iload 4, 2) := by decide +kernel
theorem dX5_retest_73 : decode cX5_retest 73 = .ok (.ifCond .ne 12, 3) := by decide +kernel
theorem dX5_retest_76 : decode cX5_retest 76 = .ok (.aload_n 0, 1) := by decide +kernel
theorem dX5_retest_77 : decode cX5_retest 77 = .ok (.iload_n 1, 1) := by decide +kernel
theorem dX5_retest_78 : decode cX5_retest 78 = .ok (.iload_n 2, 1) := by decide +kernel
theorem dX5_retest_79 : decode cX5_retest 79 = .ok (.invokevirtual 102, 3) := by decide +kernel
theorem dX5_retest_82 : decode cX5_retest 82 = .ok (.ifCond .eq 7, 3) := by decide +kernel
theorem dX5_retest_85 : decode cX5_retest 85 = .ok (.sipush (-10002), 3) := by decide +kernel
theorem dX5_retest_88 : decode cX5_retest 88 = .ok (.ireturn, 1) := by decide +kernel
theorem dX5_retest_89 : decode cX5_retest 89 = .ok (.aload_n 0, 1) := by decide +kernel
theorem dX5_retest_90 : decode cX5_retest 90 = .ok (.invokevirtual 34, 3) := by decide +kernel
theorem dX5_retest_93 : decode cX5_retest 93 = .ok (.iload_n 2, 1) := by decide +kernel
theorem dX5_retest_94 : decode cX5_retest 94 = .ok (.iload_n 3, 1) := by decide +kernel
theorem dX5_retest_95 : decode cX5_retest 95 = .ok (.iconst 1, 1) := by decide +kernel
theorem dX5_retest_96 : decode cX5_retest 96 = .ok (.if_icmp .ne 8, 3) := by decide +kernel
theorem dX5_retest_99 : decode cX5_retest 99 = .ok (.bipush 10, 2) := by decide +kernel
theorem dX5_retest_101 : decode cX5_retest 101 = .ok (.goto 5, 3) := by decide +kernel
theorem dX5_retest_104 : decode cX5_retest 104 = .ok (.bipush 11, 2) := by decide +kernel
theorem dX5_retest_106 : decode cX5_retest 106 = .ok (.invokestatic 30, 3) := by decide +kernel
theorem dX5_retest_109 : decode cX5_retest 109 = .ok (.istore 5, 2) := by decide +kernel
theorem dX5_retest_111 : decode cX5_retest 111 = .ok (.aload_n 0, 1) := by decide +kernel
theorem dX5_retest_112 : decode cX5_retest 112 = .ok (.getfield 7, 3) := by decide +kernel
theorem dX5_retest_115 : decode cX5_retest 115 = .ok (.iload 5, 2) := by decide +kernel
theorem dX5_retest_117 : decode cX5_retest 117 = .ok (.dup2, 1) := by decide +kernel
theorem dX5_retest_118 : decode cX5_retest 118 = .ok (.iaload, 1) := by decide +kernel
theorem dX5_retest_119 : decode cX5_retest 119 = .ok (.iconst 1, 1) := by decide +kernel
theorem dX5_retest_120 : decode cX5_retest 120 = .ok (.iload_n 1, 1) := by decide +kernel
theorem dX5_retest_121 : decode cX5_retest 121 = .ok (.ishl, 1) := by decide +kernel
theorem dX5_retest_122 : decode cX5_retest 122 = .ok (.ior, 1) := by decide +kernel
theorem dX5_retest_123 : decode cX5_retest 123 = .ok (.iastore, 1) := by decide +kernel
theorem dX5_retest_124 : decode cX5_retest 124 = .ok (.aload_n 0, 1) := by decide +kernel
theorem dX5_retest_125 : decode cX5_retest 125 = .ok (.getfield 7, 3) := by decide +kernel
theorem dX5_retest_128 : decode cX5_retest 128 = .ok (.iload 5, 2) := by decide +kernel
theorem dX5_retest_130 : decode cX5_retest 130 = .ok (.iaload, 1) := by decide +kernel
theorem dX5_retest_131 : decode cX5_retest 131 = .ok (.invokestatic 95, 3) := by decide +kernel
theorem dX5_retest_134 : decode cX5_retest 134 = .ok (.iconst 2, 1) := by decide +kernel
theorem dX5_retest_135 : decode cX5_retest 135 = .ok (.if_icmp .ge 5, 3) := by decide +kernel
theorem dX5_retest_138 : decode cX5_retest 138 = .ok (.iconst 0, 1) := by decide +kernel
theorem dX5_retest_139 : decode cX5_retest 139 = .ok (.ireturn, 1) := by decide +kernel
theorem dX5_retest_140 : decode cX5_retest 140 = .ok (.aload_n 0, 1) := by decide +kernel
theorem dX5_retest_141 : decode cX5_retest 141 = .ok (.aload_n 0, 1) := by decide +kernel
theorem dX5_retest_142 : decode cX5_retest 142 = .ok (.getfield 7, 3) := by decide +kernel
theorem dX5_retest_145 : decode cX5_retest 145 = .ok (.iload 5, 2) := by decide +kernel
theorem dX5_retest_147 : decode cX5_retest 147 = .ok (.iaload, 1) := by decide +kernel
theorem dX5_retest_148 : decode cX5_retest 148 = .ok (.invokevirtual 105, 3) := by decide +kernel
theorem dX5_retest_151 : decode cX5_retest 151 = .ok (.iload_n 3, 1) := by decide +kernel
theorem dX5_retest_152 : decode cX5_retest 152 = .ok (.iconst 1, 1) := by decide +kernel
theorem dX5_retest_153 : decode cX5_retest 153 = .ok (.if_icmp .ne 17, 3) := by decide +kernel
theorem dX5_retest_156 : decode cX5_retest 156 = .ok (.aload_n 0, 1) := by decide +kernel
theorem dX5_retest_157 : decode cX5_retest 157 = .ok (.getfield 7, 3) := by decide +kernel
theorem dX5_retest_160 : decode cX5_retest 160 = .ok (.iload_n 2, 1) := by decide +kernel
theorem dX5_retest_161 : decode cX5_retest 161 = .ok (.bipush 9, 2) := by decide +kernel
theorem dX5_retest_163 : decode cX5_retest 163 = .ok (.invokestatic 30, 3) := by decide +kernel
theorem dX5_retest_166 : decode cX5_retest 166 = .ok (.iconst 1, 1) := by decide +kernel
theorem dX5_retest_167 : decode cX5_retest 167 = .ok (.iastore, 1) := by decide +kernel
theorem dX5_retest_168 : decode cX5_retest 168 = .ok (.iconst 1, 1) := by decide +kernel
theorem dX5_retest_169 : decode cX5_retest 169 = .ok (.ireturn, 1) := by decide +kernel
theorem dX5_retest_170 : decode cX5_retest 170 = .ok (.aload_n 0, 1) := by decide +kernel
theorem dX5_retest_171 : decode cX5_retest 171 = .ok (.iload_n 2, 1) := by decide +kernel
theorem dX5_retest_172 : decode cX5_retest 172 = .ok (.invokevirtual 109, 3) := by decide +kernel
theorem dX5_retest_175 : decode cX5_retest 175 = .ok (.iconst 2, 1) := by decide +kernel
theorem dX5_retest_176 : decode cX5_retest 176 = .ok (.ireturn, 1) := by decide +kernel
theorem dX5_standing_0 : decode cX5_standing 0 = .ok (.iconst 2, 1) := by decide +kernel
theorem dX5_standing_1 : decode cX5_standing 1 = .ok (.aload_n 0, 1) := by decide +kernel
theorem dX5_standing_2 : decode cX5_standing 2 = .ok (.getfield 7, 3) := by decide +kernel
theorem dX5_standing_5 : decode cX5_standing 5 = .ok (.iload_n 1, 1) := by decide +kernel
theorem dX5_standing_6 : decode cX5_standing 6 = .ok (.iconst 1, 1) := by decide +kernel
theorem dX5_standing_7 : decode cX5_standing 7 = .ok (.invokestatic 78, 3) := by decide +kernel
theorem dX5_standing_10 : decode cX5_standing 10 = .ok (.iaload, 1) := by decide +kernel
theorem dX5_standing_11 : decode cX5_standing 11 = .ok (.imul, 1) := by decide +kernel
theorem dX5_standing_12 : decode cX5_standing 12 = .ok (.aload_n 0, 1) := by decide +kernel
theorem dX5_standing_13 : decode cX5_standing 13 = .ok (.getfield 7, 3) := by decide +kernel
theorem dX5_standing_16 : decode cX5_standing 16 = .ok (.iload_n 1, 1) := by decide +kernel
theorem dX5_standing_17 : decode cX5_standing 17 = .ok (.iconst 2, 1) := by decide +kernel
theorem dX5_standing_18 : decode cX5_standing 18 = .ok (.invokestatic 78, 3) := by decide +kernel
theorem dX5_standing_21 : decode cX5_standing 21 = .ok (.iaload, 1) := by decide +kernel
theorem dX5_standing_22 : decode cX5_standing 22 = .ok (.isub, 1) := by decide +kernel
theorem dX5_standing_23 : decode cX5_standing 23 = .ok (.aload_n 0, 1) := by decide +kernel
theorem dX5_standing_24 : decode cX5_standing 24 = .ok (.getfield 7, 3) := by decide +kernel
theorem dX5_standing_27 : decode cX5_standing 27 = .ok (.iload_n 1, 1) := by decide +kernel
theorem dX5_standing_28 : decode cX5_standing 28 = .ok (.iconst 3, 1) := by decide +kernel
theorem dX5_standing_29 : decode cX5_standing 29 = .ok (.invokestatic 78, 3) := by decide +kernel
theorem dX5_standing_32 : decode cX5_standing 32 = .ok (.iaload, 1) := by decide +kernel
theorem dX5_standing_33 : decode cX5_standing 33 = .ok (.iadd, 1) := by decide +kernel
theorem dX5_standing_34 : decode cX5_standing 34 = .ok (.istore_n 2, 1) := by decide +kernel
theorem dX5_standing_35 : decode cX5_standing 35 = .ok (.iconst 0, 1) := by decide +kernel
theorem dX5_standing_36 : decode cX5_standing 36 = .ok (.istore_n 3, 1) := by decide +kernel
theorem dX5_standing_37 : decode cX5_standing 37 = .ok (.iload_n 3, 1) := by decide +kernel
theorem dX5_standing_38 : decode cX5_standing 38 = .ok (.aload_n 0, 1) := by decide +kernel
theorem dX5_standing_39 : decode cX5_standing 39 = .ok (.getfield 7, 3) := by decide +kernel
theorem dX5_standing_42 : decode cX5_standing 42 = .ok (.bipush 6, 2) := by decide +kernel
theorem dX5_standing_44 : decode cX5_standing 44 = .ok (.iaload, 1) := by decide +kernel
theorem dX5_standing_45 : decode cX5_standing 45 = .ok (.if_icmp .ge 66, 3) := by decide +kernel
theorem dX5_standing_48 : decode cX5_standing 48 = .ok (.aload_n 0, 1) := by decide +kernel
theorem dX5_standing_49 : decode cX5_standing 49 = .ok (.iload_n 3, 1) := by decide +kernel
theorem dX5_standing_50 : decode cX5_standing 50 = .ok (.iconst 3, 1) := by decide +kernel
theorem dX5_standing_51 : decode cX5_standing 51 = .ok (.invokevirtual 53, 3) := by decide +kernel
theorem dX5_standing_54 : decode cX5_standing 54 = .ok (.istore 4, 2) := by decide +kernel
theorem dX5_standing_56 : decode cX5_standing 56 = .ok (.iload_n 2, 1) := by decide +kernel
theorem dX5_standing_57 : decode cX5_standing 57 = .ok (.aload_n 0, 1) := by decide +kernel
theorem dX5_standing_58 : decode cX5_standing 58 = .ok (.iload_n 3, 1) := by decide +kernel
theorem dX5_standing_59 : decode cX5_standing 59 = .ok (.iconst 0, 1) := by decide +kernel
theorem dX5_standing_60 : decode cX5_standing 60 = .ok (.invokevirtual 53, 3) := by decide +kernel
theorem dX5_standing_63 : decode cX5_standing 63 = .ok (.iload_n 1, 1) := by decide +kernel
theorem dX5_standing_64 : decode cX5_standing 64 = .ok (.if_icmp .eq 7, 3) := by decide +kernel
theorem dX5_standing_67 : decode cX5_standing 67 = .ok (.iconst 0, 1) := by decide +kernel
theorem dX5_standing_68 : decode cX5_standing 68 = .ok (.goto 35, 3) := by decide +kernel
theorem dX5_standing_71 : decode cX5_standing 71 = .ok (.iload 4, 2) := by decide +kernel
theorem dX5_standing_73 : decode cX5_standing 73 = .ok (.iconst 3, 1) := by decide +kernel
theorem dX5_standing_74 : decode cX5_standing 74 = .ok (.if_icmp .ne 7, 3) := by decide +kernel
theorem dX5_standing_77 : decode cX5_standing 77 = .ok (.iconst 3, 1) := by decide +kernel
theorem dX5_standing_78 : decode cX5_standing 78 = .ok (.goto 25, 3) := by decide +kernel
theorem dX5_standing_81 : decode cX5_standing 81 = .ok (.iload 4, 2) := by decide +kernel
theorem dX5_standing_83 : decode cX5_standing 83 = .ok (.iconst 5, 1) := by decide +kernel
theorem dX5_standing_84 : decode cX5_standing 84 = .ok (.if_icmp .ne 7, 3) := by decide +kernel
theorem dX5_standing_87 : decode cX5_standing 87 = .ok (.iconst 1, 1) := by decide +kernel
theorem dX5_standing_88 : decode cX5_standing 88 = .ok (.goto 15, 3) := by decide +kernel
theorem dX5_standing_91 : decode cX5_standing 91 = .ok (.iload 4, 2) := by decide +kernel
theorem dX5_standing_93 : decode cX5_standing 93 = .ok (.iconst 4, 1) := by decide +kernel
theorem dX5_standing_94 : decode cX5_standing 94 = .ok (.if_icmp .ne 8, 3) := by decide +kernel
theorem dX5_standing_97 : decode cX5_standing 97 = .ok (.bipush (-2), 2) := by decide +kernel
theorem dX5_standing_99 : decode cX5_standing 99 = .ok (.goto 4, 3) := by decide +kernel
theorem dX5_standing_102 : decode cX5_standing 102 = .ok (.iconst 0, 1) := by decide +kernel
theorem dX5_standing_103 : decode cX5_standing 103 = .ok (.iadd, 1) := by decide +kernel
theorem dX5_standing_104 : decode cX5_standing 104 = .ok (.istore_n 2, 1) := by decide +kernel
theorem dX5_standing_105 : decode cX5_standing 105 = .ok (.iinc 3 1, 3) := by decide +kernel
theorem dX5_standing_108 : decode cX5_standing 108 = .ok (.goto (-71), 3) := by decide +kernel
theorem dX5_standing_111 : decode cX5_standing 111 = .ok (.iload_n 2, 1) := by decide +kernel
theorem dX5_standing_112 : decode cX5_standing 112 = .ok (.ireturn, 1) := by decide +kernel
theorem dX5_inState_0 : decode cX5_inState 0 = .ok (.iconst 0, 1) := by decide +kernel
theorem dX5_inState_1 : decode cX5_inState 1 = .ok (.istore_n 2, 1) := by decide +kernel
theorem dX5_inState_2 : decode cX5_inState 2 = .ok (.iconst 0, 1) := by decide +kernel
theorem dX5_inState_3 : decode cX5_inState 3 = .ok (.istore_n 3, 1) := by decide +kernel
theorem dX5_inState_4 : decode cX5_inState 4 = .ok (.iload_n 3, 1) := by decide +kernel
theorem dX5_inState_5 : decode cX5_inState 5 = .ok (.aload_n 0, 1) := by decide +kernel
theorem dX5_inState_6 : decode cX5_inState 6 = .ok (.getfield 7, 3) := by decide +kernel
theorem dX5_inState_9 : decode cX5_inState 9 = .ok (.bipush 6, 2) := by decide +kernel
theorem dX5_inState_11 : decode cX5_inState 11 = .ok (.iaload, 1) := by decide +kernel
theorem dX5_inState_12 : decode cX5_inState 12 = .ok (.if_icmp .ge 27, 3) := by decide +kernel
theorem dX5_inState_15 : decode cX5_inState 15 = .ok (.iload_n 2, 1) := by decide +kernel
theorem dX5_inState_16 : decode cX5_inState 16 = .ok (.aload_n 0, 1) := by decide +kernel
theorem dX5_inState_17 : decode cX5_inState 17 = .ok (.iload_n 3, 1) := by decide +kernel
theorem dX5_inState_18 : decode cX5_inState 18 = .ok (.iconst 3, 1) := by decide +kernel
theorem dX5_inState_19 : decode cX5_inState 19 = .ok (.invokevirtual 53, 3) := by decide +kernel
theorem dX5_inState_22 : decode cX5_inState 22 = .ok (.iload_n 1, 1) := by decide +kernel
theorem dX5_inState_23 : decode cX5_inState 23 = .ok (.if_icmp .ne 7, 3) := by decide +kernel
theorem dX5_inState_26 : decode cX5_inState 26 = .ok (.iconst 1, 1) := by decide +kernel
theorem dX5_inState_27 : decode cX5_inState 27 = .ok (.goto 4, 3) := by decide +kernel
theorem dX5_inState_30 : decode cX5_inState 30 = .ok (.iconst 0, 1) := by decide +kernel
theorem dX5_inState_31 : decode cX5_inState 31 = .ok (.iadd, 1) := by decide +kernel
theorem dX5_inState_32 : decode cX5_inState 32 = .ok (.istore_n 2, 1) := by decide +kernel
theorem dX5_inState_33 : decode cX5_inState 33 = .ok (.iinc 3 1, 3) := by decide +kernel
theorem dX5_inState_36 : decode cX5_inState 36 = .ok (.goto (-32), 3) := by decide +kernel
theorem dX5_inState_39 : decode cX5_inState 39 = .ok (.iload_n 2, 1) := by decide +kernel
theorem dX5_inState_40 : decode cX5_inState 40 = .ok (.ireturn, 1) := by decide +kernel
theorem dX5_pools_0 : decode cX5_pools 0 = .ok (.iconst 0, 1) := by decide +kernel
theorem dX5_pools_1 : decode cX5_pools 1 = .ok (.istore_n 1, 1) := by decide +kernel
theorem dX5_pools_2 : decode cX5_pools 2 = .ok (.iconst 0, 1) := by decide +kernel
theorem dX5_pools_3 : decode cX5_pools 3 = .ok (.istore_n 2, 1) := by decide +kernel
theorem dX5_pools_4 : decode cX5_pools 4 = .ok (.iload_n 2, 1) := by decide +kernel
theorem dX5_pools_5 : decode cX5_pools 5 = .ok (.aload_n 0, 1) := by decide +kernel
theorem dX5_pools_6 : decode cX5_pools 6 = .ok (.getfield 7, 3) := by decide +kernel
theorem dX5_pools_9 : decode cX5_pools 9 = .ok (.iconst 4, 1) := by decide +kernel
theorem dX5_pools_10 : decode cX5_pools 10 = .ok (.iaload, 1) := by decide +kernel
theorem dX5_pools_11 : decode cX5_pools 11 = .ok (.if_icmp .ge 22, 3) := by decide +kernel
theorem dX5_pools_14 : decode cX5_pools 14 = .ok (.iload_n 1, 1) := by decide +kernel
theorem dX5_pools_15 : decode cX5_pools 15 = .ok (.aload_n 0, 1) := by decide +kernel
theorem dX5_pools_16 : decode cX5_pools 16 = .ok (.getfield 7, 3) := by decide +kernel
theorem dX5_pools_19 : decode cX5_pools 19 = .ok (.iload_n 2, 1) := by decide +kernel
theorem dX5_pools_20 : decode cX5_pools 20 = .ok (.iconst 2, 1) := by decide +kernel
theorem dX5_pools_21 : decode cX5_pools 21 = .ok (.invokestatic 37, 3) := by decide +kernel
theorem dX5_pools_24 : decode cX5_pools 24 = .ok (.iaload, 1) := by decide +kernel
theorem dX5_pools_25 : decode cX5_pools 25 = .ok (.iadd, 1) := by decide +kernel
theorem dX5_pools_26 : decode cX5_pools 26 = .ok (.istore_n 1, 1) := by decide +kernel
theorem dX5_pools_27 : decode cX5_pools 27 = .ok (.iinc 2 1, 3) := by decide +kernel
theorem dX5_pools_30 : decode cX5_pools 30 = .ok (.goto (-26), 3) := by decide +kernel
theorem dX5_pools_33 : decode cX5_pools 33 = .ok (.iload_n 1, 1) := by decide +kernel
theorem dX5_pools_34 : decode cX5_pools 34 = .ok (.ireturn, 1) := by decide +kernel
theorem dX5_openOnes_0 : decode cX5_openOnes 0 = .ok (.iconst 0, 1) := by decide +kernel
theorem dX5_openOnes_1 : decode cX5_openOnes 1 = .ok (.istore_n 1, 1) := by decide +kernel
theorem dX5_openOnes_2 : decode cX5_openOnes 2 = .ok (.iconst 0, 1) := by decide +kernel
theorem dX5_openOnes_3 : decode cX5_openOnes 3 = .ok (.istore_n 2, 1) := by decide +kernel
theorem dX5_openOnes_4 : decode cX5_openOnes 4 = .ok (.iload_n 2, 1) := by decide +kernel
theorem dX5_openOnes_5 : decode cX5_openOnes 5 = .ok (.aload_n 0, 1) := by decide +kernel
theorem dX5_openOnes_6 : decode cX5_openOnes 6 = .ok (.getfield 7, 3) := by decide +kernel
theorem dX5_openOnes_9 : decode cX5_openOnes 9 = .ok (.bipush 6, 2) := by decide +kernel
theorem dX5_openOnes_11 : decode cX5_openOnes 11 = .ok (.iaload, 1) := by decide +kernel
theorem dX5_openOnes_12 : decode cX5_openOnes 12 = .ok (.if_icmp .ge 25, 3) := by decide +kernel
theorem dX5_openOnes_15 : decode cX5_openOnes 15 = .ok (.iload_n 1, 1) := by decide +kernel
theorem dX5_openOnes_16 : decode cX5_openOnes 16 = .ok (.aload_n 0, 1) := by decide +kernel
theorem dX5_openOnes_17 : decode cX5_openOnes 17 = .ok (.iload_n 2, 1) := by decide +kernel
theorem dX5_openOnes_18 : decode cX5_openOnes 18 = .ok (.invokevirtual 69, 3) := by decide +kernel
theorem dX5_openOnes_21 : decode cX5_openOnes 21 = .ok (.ifCond .eq 7, 3) := by decide +kernel
theorem dX5_openOnes_24 : decode cX5_openOnes 24 = .ok (.iconst 1, 1) := by decide +kernel
theorem dX5_openOnes_25 : decode cX5_openOnes 25 = .ok (.goto 4, 3) := by decide +kernel
theorem dX5_openOnes_28 : decode cX5_openOnes 28 = .ok (.iconst 0, 1) := by decide +kernel
theorem dX5_openOnes_29 : decode cX5_openOnes 29 = .ok (.iadd, 1) := by decide +kernel
theorem dX5_openOnes_30 : decode cX5_openOnes 30 = .ok (.istore_n 1, 1) := by decide +kernel
theorem dX5_openOnes_31 : decode cX5_openOnes 31 = .ok (.iinc 2 1, 3) := by decide +kernel
theorem dX5_openOnes_34 : decode cX5_openOnes 34 = .ok (.goto (-30), 3) := by decide +kernel
theorem dX5_openOnes_37 : decode cX5_openOnes 37 = .ok (.iload_n 1, 1) := by decide +kernel
theorem dX5_openOnes_38 : decode cX5_openOnes 38 = .ok (.ireturn, 1) := by decide +kernel
theorem dX5_count_0 : decode cX5_count 0 = .ok (.iload_n 1, 1) := by decide +kernel
theorem dX5_count_1 : decode cX5_count 1 = .ok (.tableswitch 149 0 16 #[83, 90, 100, 107, 107, 107, 149, 149, 149, 149, 149, 149, 118, 123, 131, 139, 144], 83) := by decide +kernel
theorem dX5_count_84 : decode cX5_count 84 = .ok (.aload_n 0, 1) := by decide +kernel
theorem dX5_count_85 : decode cX5_count 85 = .ok (.getfield 7, 3) := by decide +kernel
theorem dX5_count_88 : decode cX5_count 88 = .ok (.iconst 0, 1) := by decide +kernel
theorem dX5_count_89 : decode cX5_count 89 = .ok (.iaload, 1) := by decide +kernel
theorem dX5_count_90 : decode cX5_count 90 = .ok (.ireturn, 1) := by decide +kernel
theorem dX5_count_91 : decode cX5_count 91 = .ok (.aload_n 0, 1) := by decide +kernel
theorem dX5_count_92 : decode cX5_count 92 = .ok (.getfield 7, 3) := by decide +kernel
theorem dX5_count_95 : decode cX5_count 95 = .ok (.iconst 0, 1) := by decide +kernel
theorem dX5_count_96 : decode cX5_count 96 = .ok (.iaload, 1) := by decide +kernel
theorem dX5_count_97 : decode cX5_count 97 = .ok (.bipush 90, 2) := by decide +kernel
theorem dX5_count_99 : decode cX5_count 99 = .ok (.idiv, 1) := by decide +kernel
theorem dX5_count_100 : decode cX5_count 100 = .ok (.ireturn, 1) := by decide +kernel
theorem dX5_count_101 : decode cX5_count 101 = .ok (.aload_n 0, 1) := by decide +kernel
theorem dX5_count_102 : decode cX5_count 102 = .ok (.getfield 7, 3) := by decide +kernel
theorem dX5_count_105 : decode cX5_count 105 = .ok (.iconst 1, 1) := by decide +kernel
theorem dX5_count_106 : decode cX5_count 106 = .ok (.iaload, 1) := by decide +kernel
theorem dX5_count_107 : decode cX5_count 107 = .ok (.ireturn, 1) := by decide +kernel
theorem dX5_count_108 : decode cX5_count 108 = .ok (.aload_n 0, 1) := by decide +kernel
theorem dX5_count_109 : decode cX5_count 109 = .ok (.getfield 7, 3) := by decide +kernel
theorem dX5_count_112 : decode cX5_count 112 = .ok (.iconst 4, 1) := by decide +kernel
theorem dX5_count_113 : decode cX5_count 113 = .ok (.iload_n 1, 1) := by decide +kernel
theorem dX5_count_114 : decode cX5_count 114 = .ok (.iadd, 1) := by decide +kernel
theorem dX5_count_115 : decode cX5_count 115 = .ok (.iconst 3, 1) := by decide +kernel
theorem dX5_count_116 : decode cX5_count 116 = .ok (.isub, 1) := by decide +kernel
theorem dX5_count_117 : decode cX5_count 117 = .ok (.iaload, 1) := by decide +kernel
theorem dX5_count_118 : decode cX5_count 118 = .ok (.ireturn, 1) := by decide +kernel
theorem dX5_count_119 : decode cX5_count 119 = .ok (.aload_n 0, 1) := by decide +kernel
theorem dX5_count_120 : decode cX5_count 120 = .ok (.invokevirtual 112, 3) := by decide +kernel
theorem dX5_count_123 : decode cX5_count 123 = .ok (.ireturn, 1) := by decide +kernel
theorem dX5_count_124 : decode cX5_count 124 = .ok (.aload_n 0, 1) := by decide +kernel
theorem dX5_count_125 : decode cX5_count 125 = .ok (.getfield 7, 3) := by decide +kernel
theorem dX5_count_128 : decode cX5_count 128 = .ok (.bipush 7, 2) := by decide +kernel
theorem dX5_count_130 : decode cX5_count 130 = .ok (.iaload, 1) := by decide +kernel
theorem dX5_count_131 : decode cX5_count 131 = .ok (.ireturn, 1) := by decide +kernel
theorem dX5_count_132 : decode cX5_count 132 = .ok (.aload_n 0, 1) := by decide +kernel
theorem dX5_count_133 : decode cX5_count 133 = .ok (.getfield 7, 3) := by decide +kernel
theorem dX5_count_136 : decode cX5_count 136 = .ok (.bipush 8, 2) := by decide +kernel
theorem dX5_count_138 : decode cX5_count 138 = .ok (.iaload, 1) := by decide +kernel
theorem dX5_count_139 : decode cX5_count 139 = .ok (.ireturn, 1) := by decide +kernel
theorem dX5_count_140 : decode cX5_count 140 = .ok (.aload_n 0, 1) := by decide +kernel
theorem dX5_count_141 : decode cX5_count 141 = .ok (.invokevirtual 115, 3) := by decide +kernel
theorem dX5_count_144 : decode cX5_count 144 = .ok (.ireturn, 1) := by decide +kernel
theorem dX5_count_145 : decode cX5_count 145 = .ok (.aload_n 0, 1) := by decide +kernel
theorem dX5_count_146 : decode cX5_count 146 = .ok (.getfield 22, 3) := by decide +kernel
theorem dX5_count_149 : decode cX5_count 149 = .ok (.ireturn, 1) := by decide +kernel
theorem dX5_count_150 : decode cX5_count 150 = .ok (.iload_n 1, 1) := by decide +kernel
theorem dX5_count_151 : decode cX5_count 151 = .ok (.bipush 6, 2) := by decide +kernel
theorem dX5_count_153 : decode cX5_count 153 = .ok (.bipush 11, 2) := by decide +kernel
theorem dX5_count_155 : decode cX5_count 155 = .ok (.invokestatic 26, 3) := by decide +kernel
theorem dX5_count_158 : decode cX5_count 158 = .ok (.ifCond .eq 14, 3) := by decide +kernel
theorem dX5_count_161 : decode cX5_count 161 = .ok (.aload_n 0, 1) := by decide +kernel
theorem dX5_count_162 : decode cX5_count 162 = .ok (.iload_n 1, 1) := by decide +kernel
theorem dX5_count_163 : decode cX5_count 163 = .ok (.bipush 6, 2) := by decide +kernel
theorem dX5_count_165 : decode cX5_count 165 = .ok (.isub, 1) := by decide +kernel
theorem dX5_count_166 : decode cX5_count 166 = .ok (.invokevirtual 118, 3) := by decide +kernel
theorem dX5_count_169 : decode cX5_count 169 = .ok (.goto 6, 3) := by decide +kernel
theorem dX5_count_172 : decode cX5_count 172 = .ok (.sipush (-10001), 3) := by decide +kernel
theorem dX5_count_175 : decode cX5_count 175 = .ok (.ireturn, 1) := by decide +kernel
theorem dX5_reportsFor_0 : decode cX5_reportsFor 0 = .ok (.iconst 0, 1) := by decide +kernel
theorem dX5_reportsFor_1 : decode cX5_reportsFor 1 = .ok (.istore_n 2, 1) := by decide +kernel
theorem dX5_reportsFor_2 : decode cX5_reportsFor 2 = .ok (.iconst 0, 1) := by decide +kernel
theorem dX5_reportsFor_3 : decode cX5_reportsFor 3 = .ok (.istore_n 3, 1) := by decide +kernel
theorem dX5_reportsFor_4 : decode cX5_reportsFor 4 = .ok (.iload_n 3, 1) := by decide +kernel
theorem dX5_reportsFor_5 : decode cX5_reportsFor 5 = .ok (.aload_n 0, 1) := by decide +kernel
theorem dX5_reportsFor_6 : decode cX5_reportsFor 6 = .ok (.getfield 7, 3) := by decide +kernel
theorem dX5_reportsFor_9 : decode cX5_reportsFor 9 = .ok (.bipush 6, 2) := by decide +kernel
theorem dX5_reportsFor_11 : decode cX5_reportsFor 11 = .ok (.iaload, 1) := by decide +kernel
theorem dX5_reportsFor_12 : decode cX5_reportsFor 12 = .ok (.if_icmp .ge 27, 3) := by decide +kernel
theorem dX5_reportsFor_15 : decode cX5_reportsFor 15 = .ok (.iload_n 2, 1) := by decide +kernel
theorem dX5_reportsFor_16 : decode cX5_reportsFor 16 = .ok (.aload_n 0, 1) := by decide +kernel
theorem dX5_reportsFor_17 : decode cX5_reportsFor 17 = .ok (.iload_n 3, 1) := by decide +kernel
theorem dX5_reportsFor_18 : decode cX5_reportsFor 18 = .ok (.iconst 1, 1) := by decide +kernel
theorem dX5_reportsFor_19 : decode cX5_reportsFor 19 = .ok (.invokevirtual 53, 3) := by decide +kernel
theorem dX5_reportsFor_22 : decode cX5_reportsFor 22 = .ok (.iload_n 1, 1) := by decide +kernel
theorem dX5_reportsFor_23 : decode cX5_reportsFor 23 = .ok (.if_icmp .ne 7, 3) := by decide +kernel
theorem dX5_reportsFor_26 : decode cX5_reportsFor 26 = .ok (.iconst 1, 1) := by decide +kernel
theorem dX5_reportsFor_27 : decode cX5_reportsFor 27 = .ok (.goto 4, 3) := by decide +kernel
theorem dX5_reportsFor_30 : decode cX5_reportsFor 30 = .ok (.iconst 0, 1) := by decide +kernel
theorem dX5_reportsFor_31 : decode cX5_reportsFor 31 = .ok (.iadd, 1) := by decide +kernel
theorem dX5_reportsFor_32 : decode cX5_reportsFor 32 = .ok (.istore_n 2, 1) := by decide +kernel
theorem dX5_reportsFor_33 : decode cX5_reportsFor 33 = .ok (.iinc 3 1, 3) := by decide +kernel
theorem dX5_reportsFor_36 : decode cX5_reportsFor 36 = .ok (.goto (-32), 3) := by decide +kernel
theorem dX5_reportsFor_39 : decode cX5_reportsFor 39 = .ok (.iload_n 2, 1) := by decide +kernel
theorem dX5_reportsFor_40 : decode cX5_reportsFor 40 = .ok (.ireturn, 1) := by decide +kernel
theorem dX5_pricesFor_0 : decode cX5_pricesFor 0 = .ok (.iconst 0, 1) := by decide +kernel
theorem dX5_pricesFor_1 : decode cX5_pricesFor 1 = .ok (.istore_n 2, 1) := by decide +kernel
theorem dX5_pricesFor_2 : decode cX5_pricesFor 2 = .ok (.iconst 0, 1) := by decide +kernel
theorem dX5_pricesFor_3 : decode cX5_pricesFor 3 = .ok (.istore_n 3, 1) := by decide +kernel
theorem dX5_pricesFor_4 : decode cX5_pricesFor 4 = .ok (.iload_n 3, 1) := by decide +kernel
theorem dX5_pricesFor_5 : decode cX5_pricesFor 5 = .ok (.aload_n 0, 1) := by decide +kernel
theorem dX5_pricesFor_6 : decode cX5_pricesFor 6 = .ok (.getfield 7, 3) := by decide +kernel
theorem dX5_pricesFor_9 : decode cX5_pricesFor 9 = .ok (.bipush 6, 2) := by decide +kernel
theorem dX5_pricesFor_11 : decode cX5_pricesFor 11 = .ok (.iaload, 1) := by decide +kernel
theorem dX5_pricesFor_12 : decode cX5_pricesFor 12 = .ok (.if_icmp .ge 39, 3) := by decide +kernel
theorem dX5_pricesFor_15 : decode cX5_pricesFor 15 = .ok (.iload_n 2, 1) := by decide +kernel
theorem dX5_pricesFor_16 : decode cX5_pricesFor 16 = .ok (.aload_n 0, 1) := by decide +kernel
theorem dX5_pricesFor_17 : decode cX5_pricesFor 17 = .ok (.iload_n 3, 1) := by decide +kernel
theorem dX5_pricesFor_18 : decode cX5_pricesFor 18 = .ok (.iconst 1, 1) := by decide +kernel
theorem dX5_pricesFor_19 : decode cX5_pricesFor 19 = .ok (.invokevirtual 53, 3) := by decide +kernel
theorem dX5_pricesFor_22 : decode cX5_pricesFor 22 = .ok (.iload_n 1, 1) := by decide +kernel
theorem dX5_pricesFor_23 : decode cX5_pricesFor 23 = .ok (.if_icmp .ne 19, 3) := by decide +kernel
theorem dX5_pricesFor_26 : decode cX5_pricesFor 26 = .ok (.aload_n 0, 1) := by decide +kernel
theorem dX5_pricesFor_27 : decode cX5_pricesFor 27 = .ok (.iload_n 3, 1) := by decide +kernel
theorem dX5_pricesFor_28 : decode cX5_pricesFor 28 = .ok (.invokevirtual 75, 3) := by decide +kernel
theorem dX5_pricesFor_31 : decode cX5_pricesFor 31 = .ok (.ifCond .eq 11, 3) := by decide +kernel
theorem dX5_pricesFor_34 : decode cX5_pricesFor 34 = .ok (.aload_n 0, 1) := by decide +kernel
theorem dX5_pricesFor_35 : decode cX5_pricesFor 35 = .ok (.iload_n 3, 1) := by decide +kernel
theorem dX5_pricesFor_36 : decode cX5_pricesFor 36 = .ok (.invokevirtual 66, 3) := by decide +kernel
theorem dX5_pricesFor_39 : decode cX5_pricesFor 39 = .ok (.goto 4, 3) := by decide +kernel
theorem dX5_pricesFor_42 : decode cX5_pricesFor 42 = .ok (.iconst 0, 1) := by decide +kernel
theorem dX5_pricesFor_43 : decode cX5_pricesFor 43 = .ok (.iadd, 1) := by decide +kernel
theorem dX5_pricesFor_44 : decode cX5_pricesFor 44 = .ok (.istore_n 2, 1) := by decide +kernel
theorem dX5_pricesFor_45 : decode cX5_pricesFor 45 = .ok (.iinc 3 1, 3) := by decide +kernel
theorem dX5_pricesFor_48 : decode cX5_pricesFor 48 = .ok (.goto (-44), 3) := by decide +kernel
theorem dX5_pricesFor_51 : decode cX5_pricesFor 51 = .ok (.iload_n 2, 1) := by decide +kernel
theorem dX5_pricesFor_52 : decode cX5_pricesFor 52 = .ok (.ireturn, 1) := by decide +kernel
theorem dX5_asset_0 : decode cX5_asset 0 = .ok (.aload_n 0, 1) := by decide +kernel
theorem dX5_asset_1 : decode cX5_asset 1 = .ok (.iload_n 1, 1) := by decide +kernel
theorem dX5_asset_2 : decode cX5_asset 2 = .ok (.invokevirtual 50, 3) := by decide +kernel
theorem dX5_asset_5 : decode cX5_asset 5 = .ok (.ifCond .eq 12, 3) := by decide +kernel
theorem dX5_asset_8 : decode cX5_asset 8 = .ok (.iload_n 2, 1) := by decide +kernel
theorem dX5_asset_9 : decode cX5_asset 9 = .ok (.iconst 0, 1) := by decide +kernel
theorem dX5_asset_10 : decode cX5_asset 10 = .ok (.iconst 4, 1) := by decide +kernel
theorem dX5_asset_11 : decode cX5_asset 11 = .ok (.invokestatic 26, 3) := by decide +kernel
theorem dX5_asset_14 : decode cX5_asset 14 = .ok (.ifCond .ne 7, 3) := by decide +kernel
theorem dX5_asset_17 : decode cX5_asset 17 = .ok (.sipush (-10001), 3) := by decide +kernel
theorem dX5_asset_20 : decode cX5_asset 20 = .ok (.ireturn, 1) := by decide +kernel
theorem dX5_asset_21 : decode cX5_asset 21 = .ok (.iload_n 2, 1) := by decide +kernel
theorem dX5_asset_22 : decode cX5_asset 22 = .ok (.iconst 3, 1) := by decide +kernel
theorem dX5_asset_23 : decode cX5_asset 23 = .ok (.if_icmp .ge 16, 3) := by decide +kernel
theorem dX5_asset_26 : decode cX5_asset 26 = .ok (.aload_n 0, 1) := by decide +kernel
theorem dX5_asset_27 : decode cX5_asset 27 = .ok (.getfield 7, 3) := by decide +kernel
theorem dX5_asset_30 : decode cX5_asset 30 = .ok (.iload_n 1, 1) := by decide +kernel
theorem dX5_asset_31 : decode cX5_asset 31 = .ok (.iload_n 2, 1) := by decide +kernel
theorem dX5_asset_32 : decode cX5_asset 32 = .ok (.invokestatic 37, 3) := by decide +kernel
theorem dX5_asset_35 : decode cX5_asset 35 = .ok (.iaload, 1) := by decide +kernel
theorem dX5_asset_36 : decode cX5_asset 36 = .ok (.goto 21, 3) := by decide +kernel
theorem dX5_asset_39 : decode cX5_asset 39 = .ok (.iload_n 2, 1) := by decide +kernel
theorem dX5_asset_40 : decode cX5_asset 40 = .ok (.iconst 3, 1) := by decide +kernel
theorem dX5_asset_41 : decode cX5_asset 41 = .ok (.if_icmp .ne 11, 3) := by decide +kernel
theorem dX5_asset_44 : decode cX5_asset 44 = .ok (.aload_n 0, 1) := by decide +kernel
theorem dX5_asset_45 : decode cX5_asset 45 = .ok (.iload_n 1, 1) := by decide +kernel
theorem dX5_asset_46 : decode cX5_asset 46 = .ok (.invokevirtual 121, 3) := by decide +kernel
theorem dX5_asset_49 : decode cX5_asset 49 = .ok (.goto 8, 3) := by decide +kernel
theorem dX5_asset_52 : decode cX5_asset 52 = .ok (.aload_n 0, 1) := by decide +kernel
theorem dX5_asset_53 : decode cX5_asset 53 = .ok (.iload_n 1, 1) := by decide +kernel
theorem dX5_asset_54 : decode cX5_asset 54 = .ok (.invokevirtual 124, 3) := by decide +kernel
theorem dX5_asset_57 : decode cX5_asset 57 = .ok (.ireturn, 1) := by decide +kernel
theorem dX5_reportsBy_0 : decode cX5_reportsBy 0 = .ok (.iconst 0, 1) := by decide +kernel
theorem dX5_reportsBy_1 : decode cX5_reportsBy 1 = .ok (.istore_n 2, 1) := by decide +kernel
theorem dX5_reportsBy_2 : decode cX5_reportsBy 2 = .ok (.iconst 0, 1) := by decide +kernel
theorem dX5_reportsBy_3 : decode cX5_reportsBy 3 = .ok (.istore_n 3, 1) := by decide +kernel
theorem dX5_reportsBy_4 : decode cX5_reportsBy 4 = .ok (.iload_n 3, 1) := by decide +kernel
theorem dX5_reportsBy_5 : decode cX5_reportsBy 5 = .ok (.aload_n 0, 1) := by decide +kernel
theorem dX5_reportsBy_6 : decode cX5_reportsBy 6 = .ok (.getfield 7, 3) := by decide +kernel
theorem dX5_reportsBy_9 : decode cX5_reportsBy 9 = .ok (.bipush 6, 2) := by decide +kernel
theorem dX5_reportsBy_11 : decode cX5_reportsBy 11 = .ok (.iaload, 1) := by decide +kernel
theorem dX5_reportsBy_12 : decode cX5_reportsBy 12 = .ok (.if_icmp .ge 27, 3) := by decide +kernel
theorem dX5_reportsBy_15 : decode cX5_reportsBy 15 = .ok (.iload_n 2, 1) := by decide +kernel
theorem dX5_reportsBy_16 : decode cX5_reportsBy 16 = .ok (.aload_n 0, 1) := by decide +kernel
theorem dX5_reportsBy_17 : decode cX5_reportsBy 17 = .ok (.iload_n 3, 1) := by decide +kernel
theorem dX5_reportsBy_18 : decode cX5_reportsBy 18 = .ok (.iconst 0, 1) := by decide +kernel
theorem dX5_reportsBy_19 : decode cX5_reportsBy 19 = .ok (.invokevirtual 53, 3) := by decide +kernel
theorem dX5_reportsBy_22 : decode cX5_reportsBy 22 = .ok (.iload_n 1, 1) := by decide +kernel
theorem dX5_reportsBy_23 : decode cX5_reportsBy 23 = .ok (.if_icmp .ne 7, 3) := by decide +kernel
theorem dX5_reportsBy_26 : decode cX5_reportsBy 26 = .ok (.iconst 1, 1) := by decide +kernel
theorem dX5_reportsBy_27 : decode cX5_reportsBy 27 = .ok (.goto 4, 3) := by decide +kernel
theorem dX5_reportsBy_30 : decode cX5_reportsBy 30 = .ok (.iconst 0, 1) := by decide +kernel
theorem dX5_reportsBy_31 : decode cX5_reportsBy 31 = .ok (.iadd, 1) := by decide +kernel
theorem dX5_reportsBy_32 : decode cX5_reportsBy 32 = .ok (.istore_n 2, 1) := by decide +kernel
theorem dX5_reportsBy_33 : decode cX5_reportsBy 33 = .ok (.iinc 3 1, 3) := by decide +kernel
theorem dX5_reportsBy_36 : decode cX5_reportsBy 36 = .ok (.goto (-32), 3) := by decide +kernel
theorem dX5_reportsBy_39 : decode cX5_reportsBy 39 = .ok (.iload_n 2, 1) := by decide +kernel
theorem dX5_reportsBy_40 : decode cX5_reportsBy 40 = .ok (.ireturn, 1) := by decide +kernel
theorem dX5_hunter_0 : decode cX5_hunter 0 = .ok (.aload_n 0, 1) := by decide +kernel
theorem dX5_hunter_1 : decode cX5_hunter 1 = .ok (.iload_n 1, 1) := by decide +kernel
theorem dX5_hunter_2 : decode cX5_hunter 2 = .ok (.invokevirtual 46, 3) := by decide +kernel
theorem dX5_hunter_5 : decode cX5_hunter 5 = .ok (.ifCond .eq 12, 3) := by decide +kernel
theorem dX5_hunter_8 : decode cX5_hunter 8 = .ok (.iload_n 2, 1) := by decide +kernel
theorem dX5_hunter_9 : decode cX5_hunter 9 = .ok (.iconst 0, 1) := by decide +kernel
theorem dX5_hunter_10 : decode cX5_hunter 10 = .ok (.iconst 5, 1) := by decide +kernel
theorem dX5_hunter_11 : decode cX5_hunter 11 = .ok (.invokestatic 26, 3) := by decide +kernel
theorem dX5_hunter_14 : decode cX5_hunter 14 = .ok (.ifCond .ne 7, 3) := by decide +kernel
theorem dX5_hunter_17 : decode cX5_hunter 17 = .ok (.sipush (-10001), 3) := by decide +kernel
theorem dX5_hunter_20 : decode cX5_hunter 20 = .ok (.ireturn, 1) := by decide +kernel
theorem dX5_hunter_21 : decode cX5_hunter 21 = .ok (.iload_n 2, 1) := by decide +kernel
theorem dX5_hunter_22 : decode cX5_hunter 22 = .ok (.ifCond .ne 11, 3) := by decide +kernel
theorem dX5_hunter_25 : decode cX5_hunter 25 = .ok (.aload_n 0, 1) := by decide +kernel
theorem dX5_hunter_26 : decode cX5_hunter 26 = .ok (.iload_n 1, 1) := by decide +kernel
theorem dX5_hunter_27 : decode cX5_hunter 27 = .ok (.invokevirtual 127, 3) := by decide +kernel
theorem dX5_hunter_30 : decode cX5_hunter 30 = .ok (.goto 46, 3) := by decide +kernel
theorem dX5_hunter_33 : decode cX5_hunter 33 = .ok (.iload_n 2, 1) := by decide +kernel
theorem dX5_hunter_34 : decode cX5_hunter 34 = .ok (.iconst 1, 1) := by decide +kernel
theorem dX5_hunter_35 : decode cX5_hunter 35 = .ok (.if_icmp .ne 16, 3) := by decide +kernel
theorem dX5_hunter_38 : decode cX5_hunter 38 = .ok (.aload_n 0, 1) := by decide +kernel
theorem dX5_hunter_39 : decode cX5_hunter 39 = .ok (.getfield 7, 3) := by decide +kernel
theorem dX5_hunter_42 : decode cX5_hunter 42 = .ok (.iload_n 1, 1) := by decide +kernel
theorem dX5_hunter_43 : decode cX5_hunter 43 = .ok (.iconst 0, 1) := by decide +kernel
theorem dX5_hunter_44 : decode cX5_hunter 44 = .ok (.invokestatic 78, 3) := by decide +kernel
theorem dX5_hunter_47 : decode cX5_hunter 47 = .ok (.iaload, 1) := by decide +kernel
theorem dX5_hunter_48 : decode cX5_hunter 48 = .ok (.goto 28, 3) := by decide +kernel
theorem dX5_hunter_51 : decode cX5_hunter 51 = .ok (.iload_n 2, 1) := by decide +kernel
theorem dX5_hunter_52 : decode cX5_hunter 52 = .ok (.iconst 2, 1) := by decide +kernel
theorem dX5_hunter_53 : decode cX5_hunter 53 = .ok (.if_icmp .ne 11, 3) := by decide +kernel
theorem dX5_hunter_56 : decode cX5_hunter 56 = .ok (.aload_n 0, 1) := by decide +kernel
theorem dX5_hunter_57 : decode cX5_hunter 57 = .ok (.iload_n 1, 1) := by decide +kernel
theorem dX5_hunter_58 : decode cX5_hunter 58 = .ok (.invokevirtual 130, 3) := by decide +kernel
theorem dX5_hunter_61 : decode cX5_hunter 61 = .ok (.goto 15, 3) := by decide +kernel
theorem dX5_hunter_64 : decode cX5_hunter 64 = .ok (.aload_n 0, 1) := by decide +kernel
theorem dX5_hunter_65 : decode cX5_hunter 65 = .ok (.getfield 7, 3) := by decide +kernel
theorem dX5_hunter_68 : decode cX5_hunter 68 = .ok (.iload_n 1, 1) := by decide +kernel
theorem dX5_hunter_69 : decode cX5_hunter 69 = .ok (.iload_n 2, 1) := by decide +kernel
theorem dX5_hunter_70 : decode cX5_hunter 70 = .ok (.iconst 2, 1) := by decide +kernel
theorem dX5_hunter_71 : decode cX5_hunter 71 = .ok (.isub, 1) := by decide +kernel
theorem dX5_hunter_72 : decode cX5_hunter 72 = .ok (.invokestatic 78, 3) := by decide +kernel
theorem dX5_hunter_75 : decode cX5_hunter 75 = .ok (.iaload, 1) := by decide +kernel
theorem dX5_hunter_76 : decode cX5_hunter 76 = .ok (.ireturn, 1) := by decide +kernel
theorem dX5_foldedInto_0 : decode cX5_foldedInto 0 = .ok (.iconst 0, 1) := by decide +kernel
theorem dX5_foldedInto_1 : decode cX5_foldedInto 1 = .ok (.istore_n 2, 1) := by decide +kernel
theorem dX5_foldedInto_2 : decode cX5_foldedInto 2 = .ok (.iconst 0, 1) := by decide +kernel
theorem dX5_foldedInto_3 : decode cX5_foldedInto 3 = .ok (.istore_n 3, 1) := by decide +kernel
theorem dX5_foldedInto_4 : decode cX5_foldedInto 4 = .ok (.iload_n 3, 1) := by decide +kernel
theorem dX5_foldedInto_5 : decode cX5_foldedInto 5 = .ok (.aload_n 0, 1) := by decide +kernel
theorem dX5_foldedInto_6 : decode cX5_foldedInto 6 = .ok (.getfield 7, 3) := by decide +kernel
theorem dX5_foldedInto_9 : decode cX5_foldedInto 9 = .ok (.bipush 6, 2) := by decide +kernel
theorem dX5_foldedInto_11 : decode cX5_foldedInto 11 = .ok (.iaload, 1) := by decide +kernel
theorem dX5_foldedInto_12 : decode cX5_foldedInto 12 = .ok (.if_icmp .ge 37, 3) := by decide +kernel
theorem dX5_foldedInto_15 : decode cX5_foldedInto 15 = .ok (.iload_n 2, 1) := by decide +kernel
theorem dX5_foldedInto_16 : decode cX5_foldedInto 16 = .ok (.aload_n 0, 1) := by decide +kernel
theorem dX5_foldedInto_17 : decode cX5_foldedInto 17 = .ok (.iload_n 3, 1) := by decide +kernel
theorem dX5_foldedInto_18 : decode cX5_foldedInto 18 = .ok (.iconst 3, 1) := by decide +kernel
theorem dX5_foldedInto_19 : decode cX5_foldedInto 19 = .ok (.invokevirtual 53, 3) := by decide +kernel
theorem dX5_foldedInto_22 : decode cX5_foldedInto 22 = .ok (.iconst 5, 1) := by decide +kernel
theorem dX5_foldedInto_23 : decode cX5_foldedInto 23 = .ok (.if_icmp .ne 17, 3) := by decide +kernel
theorem dX5_foldedInto_26 : decode cX5_foldedInto 26 = .ok (.aload_n 0, 1) := by decide +kernel
theorem dX5_foldedInto_27 : decode cX5_foldedInto 27 = .ok (.iload_n 3, 1) := by decide +kernel
theorem dX5_foldedInto_28 : decode cX5_foldedInto 28 = .ok (.iconst 5, 1) := by decide +kernel
theorem dX5_foldedInto_29 : decode cX5_foldedInto 29 = .ok (.invokevirtual 53, 3) := by decide +kernel
theorem dX5_foldedInto_32 : decode cX5_foldedInto 32 = .ok (.iload_n 1, 1) := by decide +kernel
theorem dX5_foldedInto_33 : decode cX5_foldedInto 33 = .ok (.if_icmp .ne 7, 3) := by decide +kernel
theorem dX5_foldedInto_36 : decode cX5_foldedInto 36 = .ok (.iconst 1, 1) := by decide +kernel
theorem dX5_foldedInto_37 : decode cX5_foldedInto 37 = .ok (.goto 4, 3) := by decide +kernel
theorem dX5_foldedInto_40 : decode cX5_foldedInto 40 = .ok (.iconst 0, 1) := by decide +kernel
theorem dX5_foldedInto_41 : decode cX5_foldedInto 41 = .ok (.iadd, 1) := by decide +kernel
theorem dX5_foldedInto_42 : decode cX5_foldedInto 42 = .ok (.istore_n 2, 1) := by decide +kernel
theorem dX5_foldedInto_43 : decode cX5_foldedInto 43 = .ok (.iinc 3 1, 3) := by decide +kernel
theorem dX5_foldedInto_46 : decode cX5_foldedInto 46 = .ok (.goto (-42), 3) := by decide +kernel
theorem dX5_foldedInto_49 : decode cX5_foldedInto 49 = .ok (.iload_n 2, 1) := by decide +kernel
theorem dX5_foldedInto_50 : decode cX5_foldedInto 50 = .ok (.ireturn, 1) := by decide +kernel
theorem dX5_reportOf_0 : decode cX5_reportOf 0 = .ok (.aload_n 0, 1) := by decide +kernel
theorem dX5_reportOf_1 : decode cX5_reportOf 1 = .ok (.iload_n 1, 1) := by decide +kernel
theorem dX5_reportOf_2 : decode cX5_reportOf 2 = .ok (.invokevirtual 56, 3) := by decide +kernel
theorem dX5_reportOf_5 : decode cX5_reportOf 5 = .ok (.ifCond .ne 7, 3) := by decide +kernel
theorem dX5_reportOf_8 : decode cX5_reportOf 8 = .ok (.sipush (-10001), 3) := by decide +kernel
theorem dX5_reportOf_11 : decode cX5_reportOf 11 = .ok (.ireturn, 1) := by decide +kernel
theorem dX5_reportOf_12 : decode cX5_reportOf 12 = .ok (.aload_n 0, 1) := by decide +kernel
theorem dX5_reportOf_13 : decode cX5_reportOf 13 = .ok (.iload_n 1, 1) := by decide +kernel
theorem dX5_reportOf_14 : decode cX5_reportOf 14 = .ok (.iconst 3, 1) := by decide +kernel
theorem dX5_reportOf_15 : decode cX5_reportOf 15 = .ok (.invokevirtual 53, 3) := by decide +kernel
theorem dX5_reportOf_18 : decode cX5_reportOf 18 = .ok (.iconst 1, 1) := by decide +kernel
theorem dX5_reportOf_19 : decode cX5_reportOf 19 = .ok (.iconst 3, 1) := by decide +kernel
theorem dX5_reportOf_20 : decode cX5_reportOf 20 = .ok (.invokestatic 26, 3) := by decide +kernel
theorem dX5_reportOf_23 : decode cX5_reportOf 23 = .ok (.istore_n 3, 1) := by decide +kernel
theorem dX5_reportOf_24 : decode cX5_reportOf 24 = .ok (.iload_n 2, 1) := by decide +kernel
theorem dX5_reportOf_25 : decode cX5_reportOf 25 = .ok (.tableswitch 166 0 12 #[67, 67, 67, 67, 74, 91, 98, 104, 120, 128, 136, 147, 158], 67) := by decide +kernel
theorem dX5_reportOf_92 : decode cX5_reportOf 92 = .ok (.aload_n 0, 1) := by decide +kernel
theorem dX5_reportOf_93 : decode cX5_reportOf 93 = .ok (.iload_n 1, 1) := by decide +kernel
theorem dX5_reportOf_94 : decode cX5_reportOf 94 = .ok (.iload_n 2, 1) := by decide +kernel
theorem dX5_reportOf_95 : decode cX5_reportOf 95 = .ok (.invokevirtual 53, 3) := by decide +kernel
theorem dX5_reportOf_98 : decode cX5_reportOf 98 = .ok (.ireturn, 1) := by decide +kernel
theorem dX5_reportOf_99 : decode cX5_reportOf 99 = .ok (.iload_n 3, 1) := by decide +kernel
theorem dX5_reportOf_100 : decode cX5_reportOf 100 = .ok (.ifCond .eq 12, 3) := by decide +kernel
theorem dX5_reportOf_103 : decode cX5_reportOf 103 = .ok (.aload_n 0, 1) := by decide +kernel
theorem dX5_reportOf_104 : decode cX5_reportOf 104 = .ok (.iload_n 1, 1) := by decide +kernel
theorem dX5_reportOf_105 : decode cX5_reportOf 105 = .ok (.iconst 4, 1) := by decide +kernel
theorem dX5_reportOf_106 : decode cX5_reportOf 106 = .ok (.invokevirtual 53, 3) := by decide +kernel
theorem dX5_reportOf_109 : decode cX5_reportOf 109 = .ok (.goto 6, 3) := by decide +kernel
theorem dX5_reportOf_112 : decode cX5_reportOf 112 = .ok (.sipush (-10009), 3) := by decide +kernel
theorem dX5_reportOf_115 : decode cX5_reportOf 115 = .ok (.ireturn, 1) := by decide +kernel
theorem dX5_reportOf_116 : decode cX5_reportOf 116 = .ok (.aload_n 0, 1) := by decide +kernel
theorem dX5_reportOf_117 : decode cX5_reportOf 117 = .ok (.iload_n 1, 1) := by decide +kernel
theorem dX5_reportOf_118 : decode cX5_reportOf 118 = .ok (.iconst 5, 1) := by decide +kernel
theorem dX5_reportOf_119 : decode cX5_reportOf 119 = .ok (.invokevirtual 53, 3) := by decide +kernel
theorem dX5_reportOf_122 : decode cX5_reportOf 122 = .ok (.ireturn, 1) := by decide +kernel
theorem dX5_reportOf_123 : decode cX5_reportOf 123 = .ok (.aload_n 0, 1) := by decide +kernel
theorem dX5_reportOf_124 : decode cX5_reportOf 124 = .ok (.iload_n 1, 1) := by decide +kernel
theorem dX5_reportOf_125 : decode cX5_reportOf 125 = .ok (.invokevirtual 133, 3) := by decide +kernel
theorem dX5_reportOf_128 : decode cX5_reportOf 128 = .ok (.ireturn, 1) := by decide +kernel
theorem dX5_reportOf_129 : decode cX5_reportOf 129 = .ok (.iload_n 3, 1) := by decide +kernel
theorem dX5_reportOf_130 : decode cX5_reportOf 130 = .ok (.ifCond .eq 11, 3) := by decide +kernel
theorem dX5_reportOf_133 : decode cX5_reportOf 133 = .ok (.aload_n 0, 1) := by decide +kernel
theorem dX5_reportOf_134 : decode cX5_reportOf 134 = .ok (.iload_n 1, 1) := by decide +kernel
theorem dX5_reportOf_135 : decode cX5_reportOf 135 = .ok (.invokevirtual 66, 3) := by decide +kernel
theorem dX5_reportOf_138 : decode cX5_reportOf 138 = .ok (.goto 6, 3) := by decide +kernel
theorem dX5_reportOf_141 : decode cX5_reportOf 141 = .ok (.sipush (-10009), 3) := by decide +kernel
theorem dX5_reportOf_144 : decode cX5_reportOf 144 = .ok (.ireturn, 1) := by decide +kernel
theorem dX5_reportOf_145 : decode cX5_reportOf 145 = .ok (.aload_n 0, 1) := by decide +kernel
theorem dX5_reportOf_146 : decode cX5_reportOf 146 = .ok (.iload_n 1, 1) := by decide +kernel
theorem dX5_reportOf_147 : decode cX5_reportOf 147 = .ok (.bipush 6, 2) := by decide +kernel
theorem dX5_reportOf_149 : decode cX5_reportOf 149 = .ok (.invokevirtual 53, 3) := by decide +kernel
theorem dX5_reportOf_152 : decode cX5_reportOf 152 = .ok (.ireturn, 1) := by decide +kernel
theorem dX5_reportOf_153 : decode cX5_reportOf 153 = .ok (.aload_n 0, 1) := by decide +kernel
theorem dX5_reportOf_154 : decode cX5_reportOf 154 = .ok (.iload_n 1, 1) := by decide +kernel
theorem dX5_reportOf_155 : decode cX5_reportOf 155 = .ok (.bipush 8, 2) := by decide +kernel
theorem dX5_reportOf_157 : decode cX5_reportOf 157 = .ok (.invokevirtual 53, 3) := by decide +kernel
theorem dX5_reportOf_160 : decode cX5_reportOf 160 = .ok (.ireturn, 1) := by decide +kernel
theorem dX5_reportOf_161 : decode cX5_reportOf 161 = .ok (.aload_n 0, 1) := by decide +kernel
theorem dX5_reportOf_162 : decode cX5_reportOf 162 = .ok (.iload_n 1, 1) := by decide +kernel
theorem dX5_reportOf_163 : decode cX5_reportOf 163 = .ok (.bipush 10, 2) := by decide +kernel
theorem dX5_reportOf_165 : decode cX5_reportOf 165 = .ok (.invokevirtual 53, 3) := by decide +kernel
theorem dX5_reportOf_168 : decode cX5_reportOf 168 = .ok (.invokestatic 95, 3) := by decide +kernel
theorem dX5_reportOf_171 : decode cX5_reportOf 171 = .ok (.ireturn, 1) := by decide +kernel
theorem dX5_reportOf_172 : decode cX5_reportOf 172 = .ok (.aload_n 0, 1) := by decide +kernel
theorem dX5_reportOf_173 : decode cX5_reportOf 173 = .ok (.iload_n 1, 1) := by decide +kernel
theorem dX5_reportOf_174 : decode cX5_reportOf 174 = .ok (.bipush 11, 2) := by decide +kernel
theorem dX5_reportOf_176 : decode cX5_reportOf 176 = .ok (.invokevirtual 53, 3) := by decide +kernel
theorem dX5_reportOf_179 : decode cX5_reportOf 179 = .ok (.invokestatic 95, 3) := by decide +kernel
theorem dX5_reportOf_182 : decode cX5_reportOf 182 = .ok (.ireturn, 1) := by decide +kernel
theorem dX5_reportOf_183 : decode cX5_reportOf 183 = .ok (.aload_n 0, 1) := by decide +kernel
theorem dX5_reportOf_184 : decode cX5_reportOf 184 = .ok (.iload_n 1, 1) := by decide +kernel
theorem dX5_reportOf_185 : decode cX5_reportOf 185 = .ok (.bipush 9, 2) := by decide +kernel
theorem dX5_reportOf_187 : decode cX5_reportOf 187 = .ok (.invokevirtual 53, 3) := by decide +kernel
theorem dX5_reportOf_190 : decode cX5_reportOf 190 = .ok (.ireturn, 1) := by decide +kernel
theorem dX5_reportOf_191 : decode cX5_reportOf 191 = .ok (.sipush (-10001), 3) := by decide +kernel
theorem dX5_reportOf_194 : decode cX5_reportOf 194 = .ok (.ireturn, 1) := by decide +kernel
theorem dX5_lack_0 : decode cX5_lack 0 = .ok (.iconst 0, 1) := by decide +kernel
theorem dX5_lack_1 : decode cX5_lack 1 = .ok (.istore_n 1, 1) := by decide +kernel
theorem dX5_lack_2 : decode cX5_lack 2 = .ok (.iload_n 1, 1) := by decide +kernel
theorem dX5_lack_3 : decode cX5_lack 3 = .ok (.aload_n 0, 1) := by decide +kernel
theorem dX5_lack_4 : decode cX5_lack 4 = .ok (.getfield 7, 3) := by decide +kernel
theorem dX5_lack_7 : decode cX5_lack 7 = .ok (.iconst 4, 1) := by decide +kernel
theorem dX5_lack_8 : decode cX5_lack 8 = .ok (.iaload, 1) := by decide +kernel
theorem dX5_lack_9 : decode cX5_lack 9 = .ok (.if_icmp .ge 25, 3) := by decide +kernel
theorem dX5_lack_12 : decode cX5_lack 12 = .ok (.aload_n 0, 1) := by decide +kernel
theorem dX5_lack_13 : decode cX5_lack 13 = .ok (.getfield 19, 3) := by decide +kernel
theorem dX5_lack_16 : decode cX5_lack 16 = .ok (.iload_n 1, 1) := by decide +kernel
theorem dX5_lack_17 : decode cX5_lack 17 = .ok (.aload_n 0, 1) := by decide +kernel
theorem dX5_lack_18 : decode cX5_lack 18 = .ok (.getfield 7, 3) := by decide +kernel
theorem dX5_lack_21 : decode cX5_lack 21 = .ok (.iload_n 1, 1) := by decide +kernel
theorem dX5_lack_22 : decode cX5_lack 22 = .ok (.iconst 2, 1) := by decide +kernel
theorem dX5_lack_23 : decode cX5_lack 23 = .ok (.invokestatic 37, 3) := by decide +kernel
theorem dX5_lack_26 : decode cX5_lack 26 = .ok (.iaload, 1) := by decide +kernel
theorem dX5_lack_27 : decode cX5_lack 27 = .ok (.iastore, 1) := by decide +kernel
theorem dX5_lack_28 : decode cX5_lack 28 = .ok (.iinc 1 1, 3) := by decide +kernel
theorem dX5_lack_31 : decode cX5_lack 31 = .ok (.goto (-29), 3) := by decide +kernel
theorem dX5_lack_34 : decode cX5_lack 34 = .ok (.iconst 0, 1) := by decide +kernel
theorem dX5_lack_35 : decode cX5_lack 35 = .ok (.istore_n 1, 1) := by decide +kernel
theorem dX5_lack_36 : decode cX5_lack 36 = .ok (.iconst 0, 1) := by decide +kernel
theorem dX5_lack_37 : decode cX5_lack 37 = .ok (.istore_n 2, 1) := by decide +kernel
theorem dX5_lack_38 : decode cX5_lack 38 = .ok (.iload_n 2, 1) := by decide +kernel
theorem dX5_lack_39 : decode cX5_lack 39 = .ok (.aload_n 0, 1) := by decide +kernel
theorem dX5_lack_40 : decode cX5_lack 40 = .ok (.getfield 7, 3) := by decide +kernel
theorem dX5_lack_43 : decode cX5_lack 43 = .ok (.bipush 6, 2) := by decide +kernel
theorem dX5_lack_45 : decode cX5_lack 45 = .ok (.iaload, 1) := by decide +kernel
theorem dX5_lack_46 : decode cX5_lack 46 = .ok (.if_icmp .ge 62, 3) := by decide +kernel
theorem dX5_lack_49 : decode cX5_lack 49 = .ok (.aload_n 0, 1) := by decide +kernel
theorem dX5_lack_50 : decode cX5_lack 50 = .ok (.iload_n 2, 1) := by decide +kernel
theorem dX5_lack_51 : decode cX5_lack 51 = .ok (.invokevirtual 75, 3) := by decide +kernel
theorem dX5_lack_54 : decode cX5_lack 54 = .ok (.ifCond .eq 48, 3) := by decide +kernel
theorem dX5_lack_57 : decode cX5_lack 57 = .ok (.aload_n 0, 1) := by decide +kernel
theorem dX5_lack_58 : decode cX5_lack 58 = .ok (.getfield 19, 3) := by decide +kernel
theorem dX5_lack_61 : decode cX5_lack 61 = .ok (.aload_n 0, 1) := by decide +kernel
theorem dX5_lack_62 : decode cX5_lack 62 = .ok (.iload_n 2, 1) := by decide +kernel
theorem dX5_lack_63 : decode cX5_lack 63 = .ok (.iconst 1, 1) := by decide +kernel
theorem dX5_lack_64 : decode cX5_lack 64 = .ok (.invokevirtual 53, 3) := by decide +kernel
theorem dX5_lack_67 : decode cX5_lack 67 = .ok (.iaload, 1) := by decide +kernel
theorem dX5_lack_68 : decode cX5_lack 68 = .ok (.aload_n 0, 1) := by decide +kernel
theorem dX5_lack_69 : decode cX5_lack 69 = .ok (.iload_n 2, 1) := by decide +kernel
theorem dX5_lack_70 : decode cX5_lack 70 = .ok (.invokevirtual 66, 3) := by decide +kernel
theorem dX5_lack_73 : decode cX5_lack 73 = .ok (.invokestatic 81, 3) := by decide +kernel
theorem dX5_lack_76 : decode cX5_lack 76 = .ok (.istore_n 3, 1) := by decide +kernel
theorem dX5_lack_77 : decode cX5_lack 77 = .ok (.aload_n 0, 1) := by decide +kernel
theorem dX5_lack_78 : decode cX5_lack 78 = .ok (.getfield 19, 3) := by decide +kernel
theorem dX5_lack_81 : decode cX5_lack 81 = .ok (.aload_n 0, 1) := by decide +kernel
theorem dX5_lack_82 : decode cX5_lack 82 = .ok (.iload_n 2, 1) := by decide +kernel
theorem dX5_lack_83 : decode cX5_lack 83 = .ok (.iconst 1, 1) := by decide +kernel
theorem dX5_lack_84 : decode cX5_lack 84 = .ok (.invokevirtual 53, 3) := by decide +kernel
theorem dX5_lack_87 : decode cX5_lack 87 = .ok (.dup2, 1) := by decide +kernel
theorem dX5_lack_88 : decode cX5_lack 88 = .ok (.iaload, 1) := by decide +kernel
theorem dX5_lack_89 : decode cX5_lack 89 = .ok (.iload_n 3, 1) := by decide +kernel
theorem dX5_lack_90 : decode cX5_lack 90 = .ok (.isub, 1) := by decide +kernel
theorem dX5_lack_91 : decode cX5_lack 91 = .ok (.iastore, 1) := by decide +kernel
theorem dX5_lack_92 : decode cX5_lack 92 = .ok (.iload_n 1, 1) := by decide +kernel
theorem dX5_lack_93 : decode cX5_lack 93 = .ok (.aload_n 0, 1) := by decide +kernel
theorem dX5_lack_94 : decode cX5_lack 94 = .ok (.iload_n 2, 1) := by decide +kernel
theorem dX5_lack_95 : decode cX5_lack 95 = .ok (.invokevirtual 66, 3) := by decide +kernel
theorem dX5_lack_98 : decode cX5_lack 98 = .ok (.iload_n 3, 1) := by decide +kernel
theorem dX5_lack_99 : decode cX5_lack 99 = .ok (.isub, 1) := by decide +kernel
theorem dX5_lack_100 : decode cX5_lack 100 = .ok (.iadd, 1) := by decide +kernel
theorem dX5_lack_101 : decode cX5_lack 101 = .ok (.istore_n 1, 1) := by decide +kernel
theorem dX5_lack_102 : decode cX5_lack 102 = .ok (.iinc 2 1, 3) := by decide +kernel
theorem dX5_lack_105 : decode cX5_lack 105 = .ok (.goto (-67), 3) := by decide +kernel
theorem dX5_lack_108 : decode cX5_lack 108 = .ok (.iload_n 1, 1) := by decide +kernel
theorem dX5_lack_109 : decode cX5_lack 109 = .ok (.aload_n 0, 1) := by decide +kernel
theorem dX5_lack_110 : decode cX5_lack 110 = .ok (.getfield 7, 3) := by decide +kernel
theorem dX5_lack_113 : decode cX5_lack 113 = .ok (.iconst 1, 1) := by decide +kernel
theorem dX5_lack_114 : decode cX5_lack 114 = .ok (.iaload, 1) := by decide +kernel
theorem dX5_lack_115 : decode cX5_lack 115 = .ok (.if_icmp .le 14, 3) := by decide +kernel
theorem dX5_lack_118 : decode cX5_lack 118 = .ok (.iload_n 1, 1) := by decide +kernel
theorem dX5_lack_119 : decode cX5_lack 119 = .ok (.aload_n 0, 1) := by decide +kernel
theorem dX5_lack_120 : decode cX5_lack 120 = .ok (.getfield 7, 3) := by decide +kernel
theorem dX5_lack_123 : decode cX5_lack 123 = .ok (.iconst 1, 1) := by decide +kernel
theorem dX5_lack_124 : decode cX5_lack 124 = .ok (.iaload, 1) := by decide +kernel
theorem dX5_lack_125 : decode cX5_lack 125 = .ok (.isub, 1) := by decide +kernel
theorem dX5_lack_126 : decode cX5_lack 126 = .ok (.goto 4, 3) := by decide +kernel
theorem dX5_lack_129 : decode cX5_lack 129 = .ok (.iconst 0, 1) := by decide +kernel
theorem dX5_lack_130 : decode cX5_lack 130 = .ok (.ireturn, 1) := by decide +kernel
theorem dX5_isAhead_0 : decode cX5_isAhead 0 = .ok (.aload_n 0, 1) := by decide +kernel
theorem dX5_isAhead_1 : decode cX5_isAhead 1 = .ok (.iload_n 1, 1) := by decide +kernel
theorem dX5_isAhead_2 : decode cX5_isAhead 2 = .ok (.invokevirtual 130, 3) := by decide +kernel
theorem dX5_isAhead_5 : decode cX5_isAhead 5 = .ok (.aload_n 0, 1) := by decide +kernel
theorem dX5_isAhead_6 : decode cX5_isAhead 6 = .ok (.iload_n 2, 1) := by decide +kernel
theorem dX5_isAhead_7 : decode cX5_isAhead 7 = .ok (.invokevirtual 130, 3) := by decide +kernel
theorem dX5_isAhead_10 : decode cX5_isAhead 10 = .ok (.isub, 1) := by decide +kernel
theorem dX5_isAhead_11 : decode cX5_isAhead 11 = .ok (.istore_n 3, 1) := by decide +kernel
theorem dX5_isAhead_12 : decode cX5_isAhead 12 = .ok (.iload_n 3, 1) := by decide +kernel
theorem dX5_isAhead_13 : decode cX5_isAhead 13 = .ok (.ifCond .ne 27, 3) := by decide +kernel
theorem dX5_isAhead_16 : decode cX5_isAhead 16 = .ok (.aload_n 0, 1) := by decide +kernel
theorem dX5_isAhead_17 : decode cX5_isAhead 17 = .ok (.getfield 7, 3) := by decide +kernel
theorem dX5_isAhead_20 : decode cX5_isAhead 20 = .ok (.iload_n 1, 1) := by decide +kernel
theorem dX5_isAhead_21 : decode cX5_isAhead 21 = .ok (.iconst 0, 1) := by decide +kernel
theorem dX5_isAhead_22 : decode cX5_isAhead 22 = .ok (.invokestatic 78, 3) := by decide +kernel
theorem dX5_isAhead_25 : decode cX5_isAhead 25 = .ok (.iaload, 1) := by decide +kernel
theorem dX5_isAhead_26 : decode cX5_isAhead 26 = .ok (.aload_n 0, 1) := by decide +kernel
theorem dX5_isAhead_27 : decode cX5_isAhead 27 = .ok (.getfield 7, 3) := by decide +kernel
theorem dX5_isAhead_30 : decode cX5_isAhead 30 = .ok (.iload_n 2, 1) := by decide +kernel
theorem dX5_isAhead_31 : decode cX5_isAhead 31 = .ok (.iconst 0, 1) := by decide +kernel
theorem dX5_isAhead_32 : decode cX5_isAhead 32 = .ok (.invokestatic 78, 3) := by decide +kernel
theorem dX5_isAhead_35 : decode cX5_isAhead 35 = .ok (.iaload, 1) := by decide +kernel
theorem dX5_isAhead_36 : decode cX5_isAhead 36 = .ok (.isub, 1) := by decide +kernel
theorem dX5_isAhead_37 : decode cX5_isAhead 37 = .ok (.goto 4, 3) := by decide +kernel
theorem dX5_isAhead_40 : decode cX5_isAhead 40 = .ok (.iload_n 3, 1) := by decide +kernel
theorem dX5_isAhead_41 : decode cX5_isAhead 41 = .ok (.istore_n 3, 1) := by decide +kernel
theorem dX5_isAhead_42 : decode cX5_isAhead 42 = .ok (.iload_n 3, 1) := by decide +kernel
theorem dX5_isAhead_43 : decode cX5_isAhead 43 = .ok (.ifCond .gt 12, 3) := by decide +kernel
theorem dX5_isAhead_46 : decode cX5_isAhead 46 = .ok (.iload_n 3, 1) := by decide +kernel
theorem dX5_isAhead_47 : decode cX5_isAhead 47 = .ok (.ifCond .ne 12, 3) := by decide +kernel
theorem dX5_isAhead_50 : decode cX5_isAhead 50 = .ok (.iload_n 1, 1) := by decide +kernel
theorem dX5_isAhead_51 : decode cX5_isAhead 51 = .ok (.iload_n 2, 1) := by decide +kernel
theorem dX5_isAhead_52 : decode cX5_isAhead 52 = .ok (.if_icmp .ge 7, 3) := by decide +kernel
theorem dX5_isAhead_55 : decode cX5_isAhead 55 = .ok (.iconst 1, 1) := by decide +kernel
theorem dX5_isAhead_56 : decode cX5_isAhead 56 = .ok (.goto 4, 3) := by decide +kernel
theorem dX5_isAhead_59 : decode cX5_isAhead 59 = .ok (.iconst 0, 1) := by decide +kernel
theorem dX5_isAhead_60 : decode cX5_isAhead 60 = .ok (.ireturn, 1) := by decide +kernel
theorem dX5_best_0 : decode cX5_best 0 = .ok (.iload_n 1, 1) := by decide +kernel
theorem dX5_best_1 : decode cX5_best 1 = .ok (.ifCond .ge 7, 3) := by decide +kernel
theorem dX5_best_4 : decode cX5_best 4 = .ok (.sipush (-10001), 3) := by decide +kernel
theorem dX5_best_7 : decode cX5_best 7 = .ok (.ireturn, 1) := by decide +kernel
theorem dX5_best_8 : decode cX5_best 8 = .ok (.iconst 0, 1) := by decide +kernel
theorem dX5_best_9 : decode cX5_best 9 = .ok (.istore_n 2, 1) := by decide +kernel
theorem dX5_best_10 : decode cX5_best 10 = .ok (.iload_n 2, 1) := by decide +kernel
theorem dX5_best_11 : decode cX5_best 11 = .ok (.aload_n 0, 1) := by decide +kernel
theorem dX5_best_12 : decode cX5_best 12 = .ok (.getfield 7, 3) := by decide +kernel
theorem dX5_best_15 : decode cX5_best 15 = .ok (.iconst 5, 1) := by decide +kernel
theorem dX5_best_16 : decode cX5_best 16 = .ok (.iaload, 1) := by decide +kernel
theorem dX5_best_17 : decode cX5_best 17 = .ok (.if_icmp .ge 56, 3) := by decide +kernel
theorem dX5_best_20 : decode cX5_best 20 = .ok (.iconst 0, 1) := by decide +kernel
theorem dX5_best_21 : decode cX5_best 21 = .ok (.istore_n 3, 1) := by decide +kernel
theorem dX5_best_22 : decode cX5_best 22 = .ok (.iconst 0, 1) := by decide +kernel
theorem dX5_best_23 : decode cX5_best 23 = .ok (.istore 4, 2) := by decide +kernel
theorem dX5_best_25 : decode cX5_best 25 = .ok (.iload 4, 2) := by decide +kernel
theorem dX5_best_27 : decode cX5_best 27 = .ok (.aload_n 0, 1) := by decide +kernel
theorem dX5_best_28 : decode cX5_best 28 = .ok (.getfield 7, 3) := by decide +kernel
theorem dX5_best_31 : decode cX5_best 31 = .ok (.iconst 5, 1) := by decide +kernel
theorem dX5_best_32 : decode cX5_best 32 = .ok (.iaload, 1) := by decide +kernel
theorem dX5_best_33 : decode cX5_best 33 = .ok (.if_icmp .ge 27, 3) := by decide +kernel
theorem dX5_best_36 : decode cX5_best 36 = .ok (.iload_n 3, 1) := by decide +kernel
theorem dX5_best_37 : decode cX5_best 37 = .ok (.aload_n 0, 1) := by decide +kernel
theorem dX5_best_38 : decode cX5_best 38 = .ok (.iload 4, 2) := by decide +kernel
theorem dX5_best_40 : decode cX5_best 40 = .ok (.iload_n 2, 1) := by decide +kernel
theorem dX5_best_41 : decode cX5_best 41 = .ok (.invokevirtual 136, 3) := by decide +kernel
theorem dX5_best_44 : decode cX5_best 44 = .ok (.ifCond .eq 7, 3) := by decide +kernel
theorem dX5_best_47 : decode cX5_best 47 = .ok (.iconst 1, 1) := by decide +kernel
theorem dX5_best_48 : decode cX5_best 48 = .ok (.goto 4, 3) := by decide +kernel
theorem dX5_best_51 : decode cX5_best 51 = .ok (.iconst 0, 1) := by decide +kernel
theorem dX5_best_52 : decode cX5_best 52 = .ok (.iadd, 1) := by decide +kernel
theorem dX5_best_53 : decode cX5_best 53 = .ok (.istore_n 3, 1) := by decide +kernel
theorem dX5_best_54 : decode cX5_best 54 = .ok (.iinc 4 1, 3) := by decide +kernel
theorem dX5_best_57 : decode cX5_best 57 = .ok (.goto (-32), 3) := by decide +kernel
theorem dX5_best_60 : decode cX5_best 60 = .ok (.iload_n 3, 1) := by decide +kernel
theorem dX5_best_61 : decode cX5_best 61 = .ok (.iload_n 1, 1) := by decide +kernel
theorem dX5_best_62 : decode cX5_best 62 = .ok (.if_icmp .ne 5, 3) := by decide +kernel
theorem dX5_best_65 : decode cX5_best 65 = .ok (.iload_n 2, 1) := by decide +kernel
theorem dX5_best_66 : decode cX5_best 66 = .ok (.ireturn, 1) := by decide +kernel
theorem dX5_best_67 : decode cX5_best 67 = .ok (.iinc 2 1, 3) := by decide +kernel
theorem dX5_best_70 : decode cX5_best 70 = .ok (.goto (-60), 3) := by decide +kernel
theorem dX5_best_73 : decode cX5_best 73 = .ok (.sipush (-10009), 3) := by decide +kernel
theorem dX5_best_76 : decode cX5_best 76 = .ok (.ireturn, 1) := by decide +kernel
theorem dX5_paidIn_0 : decode cX5_paidIn 0 = .ok (.aload_n 0, 1) := by decide +kernel
theorem dX5_paidIn_1 : decode cX5_paidIn 1 = .ok (.iload_n 1, 1) := by decide +kernel
theorem dX5_paidIn_2 : decode cX5_paidIn 2 = .ok (.invokevirtual 56, 3) := by decide +kernel
theorem dX5_paidIn_5 : decode cX5_paidIn 5 = .ok (.ifCond .ne 7, 3) := by decide +kernel
theorem dX5_paidIn_8 : decode cX5_paidIn 8 = .ok (.sipush (-10001), 3) := by decide +kernel
theorem dX5_paidIn_11 : decode cX5_paidIn 11 = .ok (.ireturn, 1) := by decide +kernel
theorem dX5_paidIn_12 : decode cX5_paidIn 12 = .ok (.aload_n 0, 1) := by decide +kernel
theorem dX5_paidIn_13 : decode cX5_paidIn 13 = .ok (.iload_n 1, 1) := by decide +kernel
theorem dX5_paidIn_14 : decode cX5_paidIn 14 = .ok (.iconst 3, 1) := by decide +kernel
theorem dX5_paidIn_15 : decode cX5_paidIn 15 = .ok (.invokevirtual 53, 3) := by decide +kernel
theorem dX5_paidIn_18 : decode cX5_paidIn 18 = .ok (.iconst 2, 1) := by decide +kernel
theorem dX5_paidIn_19 : decode cX5_paidIn 19 = .ok (.if_icmp .eq 7, 3) := by decide +kernel
theorem dX5_paidIn_22 : decode cX5_paidIn 22 = .ok (.sipush (-10002), 3) := by decide +kernel
theorem dX5_paidIn_25 : decode cX5_paidIn 25 = .ok (.ireturn, 1) := by decide +kernel
theorem dX5_paidIn_26 : decode cX5_paidIn 26 = .ok (.iconst 0, 1) := by decide +kernel
theorem dX5_paidIn_27 : decode cX5_paidIn 27 = .ok (.istore_n 2, 1) := by decide +kernel
theorem dX5_paidIn_28 : decode cX5_paidIn 28 = .ok (.iload_n 2, 1) := by decide +kernel
theorem dX5_paidIn_29 : decode cX5_paidIn 29 = .ok (.sipush 539, 3) := by decide +kernel
theorem dX5_paidIn_32 : decode cX5_paidIn 32 = .ok (.if_icmp .ge 21, 3) := by decide +kernel
theorem dX5_paidIn_35 : decode cX5_paidIn 35 = .ok (.aload_n 0, 1) := by decide +kernel
theorem dX5_paidIn_36 : decode cX5_paidIn 36 = .ok (.getfield 16, 3) := by decide +kernel
theorem dX5_paidIn_39 : decode cX5_paidIn 39 = .ok (.iload_n 2, 1) := by decide +kernel
theorem dX5_paidIn_40 : decode cX5_paidIn 40 = .ok (.aload_n 0, 1) := by decide +kernel
theorem dX5_paidIn_41 : decode cX5_paidIn 41 = .ok (.getfield 7, 3) := by decide +kernel
theorem dX5_paidIn_44 : decode cX5_paidIn 44 = .ok (.iload_n 2, 1) := by decide +kernel
theorem dX5_paidIn_45 : decode cX5_paidIn 45 = .ok (.iaload, 1) := by decide +kernel
theorem dX5_paidIn_46 : decode cX5_paidIn 46 = .ok (.iastore, 1) := by decide +kernel
theorem dX5_paidIn_47 : decode cX5_paidIn 47 = .ok (.iinc 2 1, 3) := by decide +kernel
theorem dX5_paidIn_50 : decode cX5_paidIn 50 = .ok (.goto (-22), 3) := by decide +kernel
theorem dX5_paidIn_53 : decode cX5_paidIn 53 = .ok (.bipush 90, 2) := by decide +kernel
theorem dX5_paidIn_55 : decode cX5_paidIn 55 = .ok (.aload_n 0, 1) := by decide +kernel
theorem dX5_paidIn_56 : decode cX5_paidIn 56 = .ok (.getfield 7, 3) := by decide +kernel
theorem dX5_paidIn_59 : decode cX5_paidIn 59 = .ok (.iconst 0, 1) := by decide +kernel
theorem dX5_paidIn_60 : decode cX5_paidIn 60 = .ok (.iaload, 1) := by decide +kernel
theorem dX5_paidIn_61 : decode cX5_paidIn 61 = .ok (.bipush 90, 2) := by decide +kernel
theorem dX5_paidIn_63 : decode cX5_paidIn 63 = .ok (.irem, 1) := by decide +kernel
theorem dX5_paidIn_64 : decode cX5_paidIn 64 = .ok (.isub, 1) := by decide +kernel
theorem dX5_paidIn_65 : decode cX5_paidIn 65 = .ok (.istore_n 2, 1) := by decide +kernel
theorem dX5_paidIn_66 : decode cX5_paidIn 66 = .ok (.sipush (-10009), 3) := by decide +kernel
theorem dX5_paidIn_69 : decode cX5_paidIn 69 = .ok (.istore_n 3, 1) := by decide +kernel
theorem dX5_paidIn_70 : decode cX5_paidIn 70 = .ok (.iconst 0, 1) := by decide +kernel
theorem dX5_paidIn_71 : decode cX5_paidIn 71 = .ok (.istore 4, 2) := by decide +kernel
theorem dX5_paidIn_73 : decode cX5_paidIn 73 = .ok (.iload 4, 2) := by decide +kernel
theorem dX5_paidIn_75 : decode cX5_paidIn 75 = .ok (.bipush 12, 2) := by decide +kernel
theorem dX5_paidIn_77 : decode cX5_paidIn 77 = .ok (.if_icmp .ge 48, 3) := by decide +kernel
theorem dX5_paidIn_80 : decode cX5_paidIn 80 = .ok (.iload_n 3, 1) := by decide +kernel
theorem dX5_paidIn_81 : decode cX5_paidIn 81 = .ok (.sipush (-10009), 3) := by decide +kernel
theorem dX5_paidIn_84 : decode cX5_paidIn 84 = .ok (.if_icmp .ne 41, 3) := by decide +kernel
theorem dX5_paidIn_87 : decode cX5_paidIn 87 = .ok (.aload_n 0, 1) := by decide +kernel
theorem dX5_paidIn_88 : decode cX5_paidIn 88 = .ok (.invokevirtual 91, 3) := by decide +kernel
theorem dX5_paidIn_91 : decode cX5_paidIn 91 = .ok (.istore 5, 2) := by decide +kernel
theorem dX5_paidIn_93 : decode cX5_paidIn 93 = .ok (.iload 5, 2) := by decide +kernel
theorem dX5_paidIn_95 : decode cX5_paidIn 95 = .ok (.ifCond .le 17, 3) := by decide +kernel
theorem dX5_paidIn_98 : decode cX5_paidIn 98 = .ok (.aload_n 0, 1) := by decide +kernel
theorem dX5_paidIn_99 : decode cX5_paidIn 99 = .ok (.iload_n 1, 1) := by decide +kernel
theorem dX5_paidIn_100 : decode cX5_paidIn 100 = .ok (.iconst 3, 1) := by decide +kernel
theorem dX5_paidIn_101 : decode cX5_paidIn 101 = .ok (.invokevirtual 53, 3) := by decide +kernel
theorem dX5_paidIn_104 : decode cX5_paidIn 104 = .ok (.iconst 3, 1) := by decide +kernel
theorem dX5_paidIn_105 : decode cX5_paidIn 105 = .ok (.if_icmp .ne 7, 3) := by decide +kernel
theorem dX5_paidIn_108 : decode cX5_paidIn 108 = .ok (.iload_n 2, 1) := by decide +kernel
theorem dX5_paidIn_109 : decode cX5_paidIn 109 = .ok (.goto 6, 3) := by decide +kernel
theorem dX5_paidIn_112 : decode cX5_paidIn 112 = .ok (.sipush (-10009), 3) := by decide +kernel
theorem dX5_paidIn_115 : decode cX5_paidIn 115 = .ok (.istore_n 3, 1) := by decide +kernel
theorem dX5_paidIn_116 : decode cX5_paidIn 116 = .ok (.iinc 2 90, 3) := by decide +kernel
theorem dX5_paidIn_119 : decode cX5_paidIn 119 = .ok (.iinc 4 1, 3) := by decide +kernel
theorem dX5_paidIn_122 : decode cX5_paidIn 122 = .ok (.goto (-49), 3) := by decide +kernel
theorem dX5_paidIn_125 : decode cX5_paidIn 125 = .ok (.iconst 0, 1) := by decide +kernel
theorem dX5_paidIn_126 : decode cX5_paidIn 126 = .ok (.istore 4, 2) := by decide +kernel
theorem dX5_paidIn_128 : decode cX5_paidIn 128 = .ok (.iload 4, 2) := by decide +kernel
theorem dX5_paidIn_130 : decode cX5_paidIn 130 = .ok (.sipush 539, 3) := by decide +kernel
theorem dX5_paidIn_133 : decode cX5_paidIn 133 = .ok (.if_icmp .ge 23, 3) := by decide +kernel
theorem dX5_paidIn_136 : decode cX5_paidIn 136 = .ok (.aload_n 0, 1) := by decide +kernel
theorem dX5_paidIn_137 : decode cX5_paidIn 137 = .ok (.getfield 7, 3) := by decide +kernel
theorem dX5_paidIn_140 : decode cX5_paidIn 140 = .ok (.iload 4, 2) := by decide +kernel
theorem dX5_paidIn_142 : decode cX5_paidIn 142 = .ok (.aload_n 0, 1) := by decide +kernel
theorem dX5_paidIn_143 : decode cX5_paidIn 143 = .ok (.getfield 16, 3) := by decide +kernel
theorem dX5_paidIn_146 : decode cX5_paidIn 146 = .ok (.iload 4, 2) := by decide +kernel
theorem dX5_paidIn_148 : decode cX5_paidIn 148 = .ok (.iaload, 1) := by decide +kernel
theorem dX5_paidIn_149 : decode cX5_paidIn 149 = .ok (.iastore, 1) := by decide +kernel
theorem dX5_paidIn_150 : decode cX5_paidIn 150 = .ok (.iinc 4 1, 3) := by decide +kernel
theorem dX5_paidIn_153 : decode cX5_paidIn 153 = .ok (.goto (-25), 3) := by decide +kernel
theorem dX5_paidIn_156 : decode cX5_paidIn 156 = .ok (.iload_n 3, 1) := by decide +kernel
theorem dX5_paidIn_157 : decode cX5_paidIn 157 = .ok (.ireturn, 1) := by decide +kernel
theorem dJ6_bitCount_0f7a4_0 : decode cJ6_bitCount_0f7a4 0 = .ok (.iload_n 0, 1) := by decide +kernel
theorem dJ6_bitCount_0f7a4_1 : decode cJ6_bitCount_0f7a4 1 = .ok (.iload_n 0, 1) := by decide +kernel
theorem dJ6_bitCount_0f7a4_2 : decode cJ6_bitCount_0f7a4 2 = .ok (.iconst 1, 1) := by decide +kernel
theorem dJ6_bitCount_0f7a4_3 : decode cJ6_bitCount_0f7a4 3 = .ok (.iushr, 1) := by decide +kernel
theorem dJ6_bitCount_0f7a4_4 : decode cJ6_bitCount_0f7a4 4 = .ok (.ldc_w 265, 3) := by decide +kernel
theorem dJ6_bitCount_0f7a4_7 : decode cJ6_bitCount_0f7a4 7 = .ok (.iand, 1) := by decide +kernel
theorem dJ6_bitCount_0f7a4_8 : decode cJ6_bitCount_0f7a4 8 = .ok (.isub, 1) := by decide +kernel
theorem dJ6_bitCount_0f7a4_9 : decode cJ6_bitCount_0f7a4 9 = .ok (.istore_n 0, 1) := by decide +kernel
theorem dJ6_bitCount_0f7a4_10 : decode cJ6_bitCount_0f7a4 10 = .ok (.iload_n 0, 1) := by decide +kernel
theorem dJ6_bitCount_0f7a4_11 : decode cJ6_bitCount_0f7a4 11 = .ok (.ldc_w 266, 3) := by decide +kernel
theorem dJ6_bitCount_0f7a4_14 : decode cJ6_bitCount_0f7a4 14 = .ok (.iand, 1) := by decide +kernel
theorem dJ6_bitCount_0f7a4_15 : decode cJ6_bitCount_0f7a4 15 = .ok (.iload_n 0, 1) := by decide +kernel
theorem dJ6_bitCount_0f7a4_16 : decode cJ6_bitCount_0f7a4 16 = .ok (.iconst 2, 1) := by decide +kernel
theorem dJ6_bitCount_0f7a4_17 : decode cJ6_bitCount_0f7a4 17 = .ok (.iushr, 1) := by decide +kernel
theorem dJ6_bitCount_0f7a4_18 : decode cJ6_bitCount_0f7a4 18 = .ok (.ldc_w 266, 3) := by decide +kernel
theorem dJ6_bitCount_0f7a4_21 : decode cJ6_bitCount_0f7a4 21 = .ok (.iand, 1) := by decide +kernel
theorem dJ6_bitCount_0f7a4_22 : decode cJ6_bitCount_0f7a4 22 = .ok (.iadd, 1) := by decide +kernel
theorem dJ6_bitCount_0f7a4_23 : decode cJ6_bitCount_0f7a4 23 = .ok (.istore_n 0, 1) := by decide +kernel
theorem dJ6_bitCount_0f7a4_24 : decode cJ6_bitCount_0f7a4 24 = .ok (.iload_n 0, 1) := by decide +kernel
theorem dJ6_bitCount_0f7a4_25 : decode cJ6_bitCount_0f7a4 25 = .ok (.iload_n 0, 1) := by decide +kernel
theorem dJ6_bitCount_0f7a4_26 : decode cJ6_bitCount_0f7a4 26 = .ok (.iconst 4, 1) := by decide +kernel
theorem dJ6_bitCount_0f7a4_27 : decode cJ6_bitCount_0f7a4 27 = .ok (.iushr, 1) := by decide +kernel
theorem dJ6_bitCount_0f7a4_28 : decode cJ6_bitCount_0f7a4 28 = .ok (.iadd, 1) := by decide +kernel
theorem dJ6_bitCount_0f7a4_29 : decode cJ6_bitCount_0f7a4 29 = .ok (.ldc_w 267, 3) := by decide +kernel
theorem dJ6_bitCount_0f7a4_32 : decode cJ6_bitCount_0f7a4 32 = .ok (.iand, 1) := by decide +kernel
theorem dJ6_bitCount_0f7a4_33 : decode cJ6_bitCount_0f7a4 33 = .ok (.istore_n 0, 1) := by decide +kernel
theorem dJ6_bitCount_0f7a4_34 : decode cJ6_bitCount_0f7a4 34 = .ok (.iload_n 0, 1) := by decide +kernel
theorem dJ6_bitCount_0f7a4_35 : decode cJ6_bitCount_0f7a4 35 = .ok (.iload_n 0, 1) := by decide +kernel
theorem dJ6_bitCount_0f7a4_36 : decode cJ6_bitCount_0f7a4 36 = .ok (.bipush 8, 2) := by decide +kernel
theorem dJ6_bitCount_0f7a4_38 : decode cJ6_bitCount_0f7a4 38 = .ok (.iushr, 1) := by decide +kernel
theorem dJ6_bitCount_0f7a4_39 : decode cJ6_bitCount_0f7a4 39 = .ok (.iadd, 1) := by decide +kernel
theorem dJ6_bitCount_0f7a4_40 : decode cJ6_bitCount_0f7a4 40 = .ok (.istore_n 0, 1) := by decide +kernel
theorem dJ6_bitCount_0f7a4_41 : decode cJ6_bitCount_0f7a4 41 = .ok (.iload_n 0, 1) := by decide +kernel
theorem dJ6_bitCount_0f7a4_42 : decode cJ6_bitCount_0f7a4 42 = .ok (.iload_n 0, 1) := by decide +kernel
theorem dJ6_bitCount_0f7a4_43 : decode cJ6_bitCount_0f7a4 43 = .ok (.bipush 16, 2) := by decide +kernel
theorem dJ6_bitCount_0f7a4_45 : decode cJ6_bitCount_0f7a4 45 = .ok (.iushr, 1) := by decide +kernel
theorem dJ6_bitCount_0f7a4_46 : decode cJ6_bitCount_0f7a4 46 = .ok (.iadd, 1) := by decide +kernel
theorem dJ6_bitCount_0f7a4_47 : decode cJ6_bitCount_0f7a4 47 = .ok (.istore_n 0, 1) := by decide +kernel
theorem dJ6_bitCount_0f7a4_48 : decode cJ6_bitCount_0f7a4 48 = .ok (.iload_n 0, 1) := by decide +kernel
theorem dJ6_bitCount_0f7a4_49 : decode cJ6_bitCount_0f7a4 49 = .ok (.bipush 63, 2) := by decide +kernel
theorem dJ6_bitCount_0f7a4_51 : decode cJ6_bitCount_0f7a4 51 = .ok (.iand, 1) := by decide +kernel
theorem dJ6_bitCount_0f7a4_52 : decode cJ6_bitCount_0f7a4 52 = .ok (.ireturn, 1) := by decide +kernel
theorem dJ9_max_7cf53_0 : decode cJ9_max_7cf53 0 = .ok (.iload_n 0, 1) := by decide +kernel
theorem dJ9_max_7cf53_1 : decode cJ9_max_7cf53 1 = .ok (.iload_n 1, 1) := by decide +kernel
theorem dJ9_max_7cf53_2 : decode cJ9_max_7cf53 2 = .ok (.if_icmp .lt 7, 3) := by decide +kernel
theorem dJ9_max_7cf53_5 : decode cJ9_max_7cf53 5 = .ok (.iload_n 0, 1) := by decide +kernel
theorem dJ9_max_7cf53_6 : decode cJ9_max_7cf53 6 = .ok (.goto 4, 3) := by decide +kernel
theorem dJ9_max_7cf53_9 : decode cJ9_max_7cf53 9 = .ok (.iload_n 1, 1) := by decide +kernel
theorem dJ9_max_7cf53_10 : decode cJ9_max_7cf53 10 = .ok (.ireturn, 1) := by decide +kernel
theorem dJ9_min_7cf53_0 : decode cJ9_min_7cf53 0 = .ok (.iload_n 0, 1) := by decide +kernel
theorem dJ9_min_7cf53_1 : decode cJ9_min_7cf53 1 = .ok (.iload_n 1, 1) := by decide +kernel
theorem dJ9_min_7cf53_2 : decode cJ9_min_7cf53 2 = .ok (.if_icmp .gt 7, 3) := by decide +kernel
theorem dJ9_min_7cf53_5 : decode cJ9_min_7cf53 5 = .ok (.iload_n 0, 1) := by decide +kernel
theorem dJ9_min_7cf53_6 : decode cJ9_min_7cf53 6 = .ok (.goto 4, 3) := by decide +kernel
theorem dJ9_min_7cf53_9 : decode cJ9_min_7cf53 9 = .ok (.iload_n 1, 1) := by decide +kernel
theorem dJ9_min_7cf53_10 : decode cJ9_min_7cf53 10 = .ok (.ireturn, 1) := by decide +kernel
theorem dL_law_0 : decode cL_law 0 = .ok (.new 7, 3) := by decide +kernel
theorem dL_law_3 : decode cL_law 3 = .ok (.dup, 1) := by decide +kernel
theorem dL_law_4 : decode cL_law 4 = .ok (.invokespecial 9, 3) := by decide +kernel
theorem dL_law_7 : decode cL_law 7 = .ok (.astore_n 1, 1) := by decide +kernel
theorem dL_law_8 : decode cL_law 8 = .ok (.new 10, 3) := by decide +kernel
theorem dL_law_11 : decode cL_law 11 = .ok (.dup, 1) := by decide +kernel
theorem dL_law_12 : decode cL_law 12 = .ok (.invokespecial 12, 3) := by decide +kernel
theorem dL_law_15 : decode cL_law 15 = .ok (.astore_n 2, 1) := by decide +kernel
theorem dL_law_16 : decode cL_law 16 = .ok (.iconst 0, 1) := by decide +kernel
theorem dL_law_17 : decode cL_law 17 = .ok (.istore_n 3, 1) := by decide +kernel
theorem dL_law_18 : decode cL_law 18 = .ok (.iload_n 3, 1) := by decide +kernel
theorem dL_law_19 : decode cL_law 19 = .ok (.aload_n 0, 1) := by decide +kernel
theorem dL_law_20 : decode cL_law 20 = .ok (.arraylength, 1) := by decide +kernel
theorem dL_law_21 : decode cL_law 21 = .ok (.iconst 4, 1) := by decide +kernel
theorem dL_law_22 : decode cL_law 22 = .ok (.isub, 1) := by decide +kernel
theorem dL_law_23 : decode cL_law 23 = .ok (.if_icmp .gt 732, 3) := by decide +kernel
theorem dL_law_26 : decode cL_law 26 = .ok (.aload_n 0, 1) := by decide +kernel
theorem dL_law_27 : decode cL_law 27 = .ok (.iload_n 3, 1) := by decide +kernel
theorem dL_law_28 : decode cL_law 28 = .ok (.iaload, 1) := by decide +kernel
theorem dL_law_29 : decode cL_law 29 = .ok (.bipush 31, 2) := by decide +kernel
theorem dL_law_31 : decode cL_law 31 = .ok (.iand, 1) := by decide +kernel
theorem dL_law_32 : decode cL_law 32 = .ok (.tableswitch 717 0 22 #[108, 141, 154, 177, 200, 223, 266, 289, 322, 345, 378, 411, 434, 477, 500, 513, 536, 569, 602, 635, 658, 671, 694], 108) := by decide +kernel
theorem dL_law_140 : decode cL_law 140 = .ok (.aload_n 1, 1) := by decide +kernel
theorem dL_law_141 : decode cL_law 141 = .ok (.aload_n 0, 1) := by decide +kernel
theorem dL_law_142 : decode cL_law 142 = .ok (.iload_n 3, 1) := by decide +kernel
theorem dL_law_143 : decode cL_law 143 = .ok (.iconst 1, 1) := by decide +kernel
theorem dL_law_144 : decode cL_law 144 = .ok (.iadd, 1) := by decide +kernel
theorem dL_law_145 : decode cL_law 145 = .ok (.iaload, 1) := by decide +kernel
theorem dL_law_146 : decode cL_law 146 = .ok (.aload_n 0, 1) := by decide +kernel
theorem dL_law_147 : decode cL_law 147 = .ok (.iload_n 3, 1) := by decide +kernel
theorem dL_law_148 : decode cL_law 148 = .ok (.iconst 2, 1) := by decide +kernel
theorem dL_law_149 : decode cL_law 149 = .ok (.iadd, 1) := by decide +kernel
theorem dL_law_150 : decode cL_law 150 = .ok (.iaload, 1) := by decide +kernel
theorem dL_law_151 : decode cL_law 151 = .ok (.invokevirtual 13, 3) := by decide +kernel
theorem dL_law_154 : decode cL_law 154 = .ok (.aload_n 2, 1) := by decide +kernel
theorem dL_law_155 : decode cL_law 155 = .ok (.aload_n 0, 1) := by decide +kernel
theorem dL_law_156 : decode cL_law 156 = .ok (.iload_n 3, 1) := by decide +kernel
theorem dL_law_157 : decode cL_law 157 = .ok (.iconst 1, 1) := by decide +kernel
theorem dL_law_158 : decode cL_law 158 = .ok (.iadd, 1) := by decide +kernel
theorem dL_law_159 : decode cL_law 159 = .ok (.iaload, 1) := by decide +kernel
theorem dL_law_160 : decode cL_law 160 = .ok (.aload_n 0, 1) := by decide +kernel
theorem dL_law_161 : decode cL_law 161 = .ok (.iload_n 3, 1) := by decide +kernel
theorem dL_law_162 : decode cL_law 162 = .ok (.iconst 2, 1) := by decide +kernel
theorem dL_law_163 : decode cL_law 163 = .ok (.iadd, 1) := by decide +kernel
theorem dL_law_164 : decode cL_law 164 = .ok (.iaload, 1) := by decide +kernel
theorem dL_law_165 : decode cL_law 165 = .ok (.invokevirtual 17, 3) := by decide +kernel
theorem dL_law_168 : decode cL_law 168 = .ok (.if_icmp .eq 581, 3) := by decide +kernel
theorem dL_law_171 : decode cL_law 171 = .ok (.iconst 0, 1) := by decide +kernel
theorem dL_law_172 : decode cL_law 172 = .ok (.ireturn, 1) := by decide +kernel
theorem dL_law_173 : decode cL_law 173 = .ok (.aload_n 1, 1) := by decide +kernel
theorem dL_law_174 : decode cL_law 174 = .ok (.invokevirtual 18, 3) := by decide +kernel
theorem dL_law_177 : decode cL_law 177 = .ok (.aload_n 2, 1) := by decide +kernel
theorem dL_law_178 : decode cL_law 178 = .ok (.invokevirtual 22, 3) := by decide +kernel
theorem dL_law_181 : decode cL_law 181 = .ok (.if_icmp .eq 568, 3) := by decide +kernel
theorem dL_law_184 : decode cL_law 184 = .ok (.iconst 0, 1) := by decide +kernel
theorem dL_law_185 : decode cL_law 185 = .ok (.ireturn, 1) := by decide +kernel
theorem dL_law_186 : decode cL_law 186 = .ok (.aload_n 1, 1) := by decide +kernel
theorem dL_law_187 : decode cL_law 187 = .ok (.aload_n 0, 1) := by decide +kernel
theorem dL_law_188 : decode cL_law 188 = .ok (.iload_n 3, 1) := by decide +kernel
theorem dL_law_189 : decode cL_law 189 = .ok (.iconst 1, 1) := by decide +kernel
theorem dL_law_190 : decode cL_law 190 = .ok (.iadd, 1) := by decide +kernel
theorem dL_law_191 : decode cL_law 191 = .ok (.iaload, 1) := by decide +kernel
theorem dL_law_192 : decode cL_law 192 = .ok (.invokevirtual 23, 3) := by decide +kernel
theorem dL_law_195 : decode cL_law 195 = .ok (.aload_n 2, 1) := by decide +kernel
theorem dL_law_196 : decode cL_law 196 = .ok (.aload_n 0, 1) := by decide +kernel
theorem dL_law_197 : decode cL_law 197 = .ok (.iload_n 3, 1) := by decide +kernel
theorem dL_law_198 : decode cL_law 198 = .ok (.iconst 1, 1) := by decide +kernel
theorem dL_law_199 : decode cL_law 199 = .ok (.iadd, 1) := by decide +kernel
theorem dL_law_200 : decode cL_law 200 = .ok (.iaload, 1) := by decide +kernel
theorem dL_law_201 : decode cL_law 201 = .ok (.invokevirtual 27, 3) := by decide +kernel
theorem dL_law_204 : decode cL_law 204 = .ok (.if_icmp .eq 545, 3) := by decide +kernel
theorem dL_law_207 : decode cL_law 207 = .ok (.iconst 0, 1) := by decide +kernel
theorem dL_law_208 : decode cL_law 208 = .ok (.ireturn, 1) := by decide +kernel
theorem dL_law_209 : decode cL_law 209 = .ok (.aload_n 1, 1) := by decide +kernel
theorem dL_law_210 : decode cL_law 210 = .ok (.aload_n 0, 1) := by decide +kernel
theorem dL_law_211 : decode cL_law 211 = .ok (.iload_n 3, 1) := by decide +kernel
theorem dL_law_212 : decode cL_law 212 = .ok (.iconst 1, 1) := by decide +kernel
theorem dL_law_213 : decode cL_law 213 = .ok (.iadd, 1) := by decide +kernel
theorem dL_law_214 : decode cL_law 214 = .ok (.iaload, 1) := by decide +kernel
theorem dL_law_215 : decode cL_law 215 = .ok (.invokevirtual 28, 3) := by decide +kernel
theorem dL_law_218 : decode cL_law 218 = .ok (.aload_n 2, 1) := by decide +kernel
theorem dL_law_219 : decode cL_law 219 = .ok (.aload_n 0, 1) := by decide +kernel
theorem dL_law_220 : decode cL_law 220 = .ok (.iload_n 3, 1) := by decide +kernel
theorem dL_law_221 : decode cL_law 221 = .ok (.iconst 1, 1) := by decide +kernel
theorem dL_law_222 : decode cL_law 222 = .ok (.iadd, 1) := by decide +kernel
theorem dL_law_223 : decode cL_law 223 = .ok (.iaload, 1) := by decide +kernel
theorem dL_law_224 : decode cL_law 224 = .ok (.invokevirtual 31, 3) := by decide +kernel
theorem dL_law_227 : decode cL_law 227 = .ok (.if_icmp .eq 522, 3) := by decide +kernel
theorem dL_law_230 : decode cL_law 230 = .ok (.iconst 0, 1) := by decide +kernel
theorem dL_law_231 : decode cL_law 231 = .ok (.ireturn, 1) := by decide +kernel
theorem dL_law_232 : decode cL_law 232 = .ok (.aload_n 1, 1) := by decide +kernel
theorem dL_law_233 : decode cL_law 233 = .ok (.aload_n 0, 1) := by decide +kernel
theorem dL_law_234 : decode cL_law 234 = .ok (.iload_n 3, 1) := by decide +kernel
theorem dL_law_235 : decode cL_law 235 = .ok (.iconst 1, 1) := by decide +kernel
theorem dL_law_236 : decode cL_law 236 = .ok (.iadd, 1) := by decide +kernel
theorem dL_law_237 : decode cL_law 237 = .ok (.iaload, 1) := by decide +kernel
theorem dL_law_238 : decode cL_law 238 = .ok (.invokevirtual 32, 3) := by decide +kernel
theorem dL_law_241 : decode cL_law 241 = .ok (.aload_n 2, 1) := by decide +kernel
theorem dL_law_242 : decode cL_law 242 = .ok (.aload_n 0, 1) := by decide +kernel
theorem dL_law_243 : decode cL_law 243 = .ok (.iload_n 3, 1) := by decide +kernel
theorem dL_law_244 : decode cL_law 244 = .ok (.iconst 1, 1) := by decide +kernel
theorem dL_law_245 : decode cL_law 245 = .ok (.iadd, 1) := by decide +kernel
theorem dL_law_246 : decode cL_law 246 = .ok (.iaload, 1) := by decide +kernel
theorem dL_law_247 : decode cL_law 247 = .ok (.invokevirtual 35, 3) := by decide +kernel
theorem dL_law_250 : decode cL_law 250 = .ok (.if_icmp .eq 499, 3) := by decide +kernel
theorem dL_law_253 : decode cL_law 253 = .ok (.iconst 0, 1) := by decide +kernel
theorem dL_law_254 : decode cL_law 254 = .ok (.ireturn, 1) := by decide +kernel
theorem dL_law_255 : decode cL_law 255 = .ok (.aload_n 1, 1) := by decide +kernel
theorem dL_law_256 : decode cL_law 256 = .ok (.aload_n 0, 1) := by decide +kernel
theorem dL_law_257 : decode cL_law 257 = .ok (.iload_n 3, 1) := by decide +kernel
theorem dL_law_258 : decode cL_law 258 = .ok (.iconst 1, 1) := by decide +kernel
theorem dL_law_259 : decode cL_law 259 = .ok (.iadd, 1) := by decide +kernel
theorem dL_law_260 : decode cL_law 260 = .ok (.iaload, 1) := by decide +kernel
theorem dL_law_261 : decode cL_law 261 = .ok (.aload_n 0, 1) := by decide +kernel
theorem dL_law_262 : decode cL_law 262 = .ok (.iload_n 3, 1) := by decide +kernel
theorem dL_law_263 : decode cL_law 263 = .ok (.iconst 2, 1) := by decide +kernel
theorem dL_law_264 : decode cL_law 264 = .ok (.iadd, 1) := by decide +kernel
theorem dL_law_265 : decode cL_law 265 = .ok (.iaload, 1) := by decide +kernel
theorem dL_law_266 : decode cL_law 266 = .ok (.aload_n 0, 1) := by decide +kernel
theorem dL_law_267 : decode cL_law 267 = .ok (.iload_n 3, 1) := by decide +kernel
theorem dL_law_268 : decode cL_law 268 = .ok (.iconst 3, 1) := by decide +kernel
theorem dL_law_269 : decode cL_law 269 = .ok (.iadd, 1) := by decide +kernel
theorem dL_law_270 : decode cL_law 270 = .ok (.iaload, 1) := by decide +kernel
theorem dL_law_271 : decode cL_law 271 = .ok (.invokevirtual 36, 3) := by decide +kernel
theorem dL_law_274 : decode cL_law 274 = .ok (.aload_n 2, 1) := by decide +kernel
theorem dL_law_275 : decode cL_law 275 = .ok (.aload_n 0, 1) := by decide +kernel
theorem dL_law_276 : decode cL_law 276 = .ok (.iload_n 3, 1) := by decide +kernel
theorem dL_law_277 : decode cL_law 277 = .ok (.iconst 1, 1) := by decide +kernel
theorem dL_law_278 : decode cL_law 278 = .ok (.iadd, 1) := by decide +kernel
theorem dL_law_279 : decode cL_law 279 = .ok (.iaload, 1) := by decide +kernel
theorem dL_law_280 : decode cL_law 280 = .ok (.aload_n 0, 1) := by decide +kernel
theorem dL_law_281 : decode cL_law 281 = .ok (.iload_n 3, 1) := by decide +kernel
theorem dL_law_282 : decode cL_law 282 = .ok (.iconst 2, 1) := by decide +kernel
theorem dL_law_283 : decode cL_law 283 = .ok (.iadd, 1) := by decide +kernel
theorem dL_law_284 : decode cL_law 284 = .ok (.iaload, 1) := by decide +kernel
theorem dL_law_285 : decode cL_law 285 = .ok (.aload_n 0, 1) := by decide +kernel
theorem dL_law_286 : decode cL_law 286 = .ok (.iload_n 3, 1) := by decide +kernel
theorem dL_law_287 : decode cL_law 287 = .ok (.iconst 3, 1) := by decide +kernel
theorem dL_law_288 : decode cL_law 288 = .ok (.iadd, 1) := by decide +kernel
theorem dL_law_289 : decode cL_law 289 = .ok (.iaload, 1) := by decide +kernel
theorem dL_law_290 : decode cL_law 290 = .ok (.invokevirtual 40, 3) := by decide +kernel
theorem dL_law_293 : decode cL_law 293 = .ok (.if_icmp .eq 456, 3) := by decide +kernel
theorem dL_law_296 : decode cL_law 296 = .ok (.iconst 0, 1) := by decide +kernel
theorem dL_law_297 : decode cL_law 297 = .ok (.ireturn, 1) := by decide +kernel
theorem dL_law_298 : decode cL_law 298 = .ok (.aload_n 1, 1) := by decide +kernel
theorem dL_law_299 : decode cL_law 299 = .ok (.aload_n 0, 1) := by decide +kernel
theorem dL_law_300 : decode cL_law 300 = .ok (.iload_n 3, 1) := by decide +kernel
theorem dL_law_301 : decode cL_law 301 = .ok (.iconst 1, 1) := by decide +kernel
theorem dL_law_302 : decode cL_law 302 = .ok (.iadd, 1) := by decide +kernel
theorem dL_law_303 : decode cL_law 303 = .ok (.iaload, 1) := by decide +kernel
theorem dL_law_304 : decode cL_law 304 = .ok (.invokevirtual 41, 3) := by decide +kernel
theorem dL_law_307 : decode cL_law 307 = .ok (.aload_n 2, 1) := by decide +kernel
theorem dL_law_308 : decode cL_law 308 = .ok (.aload_n 0, 1) := by decide +kernel
theorem dL_law_309 : decode cL_law 309 = .ok (.iload_n 3, 1) := by decide +kernel
theorem dL_law_310 : decode cL_law 310 = .ok (.iconst 1, 1) := by decide +kernel
theorem dL_law_311 : decode cL_law 311 = .ok (.iadd, 1) := by decide +kernel
theorem dL_law_312 : decode cL_law 312 = .ok (.iaload, 1) := by decide +kernel
theorem dL_law_313 : decode cL_law 313 = .ok (.invokevirtual 44, 3) := by decide +kernel
theorem dL_law_316 : decode cL_law 316 = .ok (.if_icmp .eq 433, 3) := by decide +kernel
theorem dL_law_319 : decode cL_law 319 = .ok (.iconst 0, 1) := by decide +kernel
theorem dL_law_320 : decode cL_law 320 = .ok (.ireturn, 1) := by decide +kernel
theorem dL_law_321 : decode cL_law 321 = .ok (.aload_n 1, 1) := by decide +kernel
theorem dL_law_322 : decode cL_law 322 = .ok (.aload_n 0, 1) := by decide +kernel
theorem dL_law_323 : decode cL_law 323 = .ok (.iload_n 3, 1) := by decide +kernel
theorem dL_law_324 : decode cL_law 324 = .ok (.iconst 1, 1) := by decide +kernel
theorem dL_law_325 : decode cL_law 325 = .ok (.iadd, 1) := by decide +kernel
theorem dL_law_326 : decode cL_law 326 = .ok (.iaload, 1) := by decide +kernel
theorem dL_law_327 : decode cL_law 327 = .ok (.aload_n 0, 1) := by decide +kernel
theorem dL_law_328 : decode cL_law 328 = .ok (.iload_n 3, 1) := by decide +kernel
theorem dL_law_329 : decode cL_law 329 = .ok (.iconst 2, 1) := by decide +kernel
theorem dL_law_330 : decode cL_law 330 = .ok (.iadd, 1) := by decide +kernel
theorem dL_law_331 : decode cL_law 331 = .ok (.iaload, 1) := by decide +kernel
theorem dL_law_332 : decode cL_law 332 = .ok (.invokevirtual 45, 3) := by decide +kernel
theorem dL_law_335 : decode cL_law 335 = .ok (.aload_n 2, 1) := by decide +kernel
theorem dL_law_336 : decode cL_law 336 = .ok (.aload_n 0, 1) := by decide +kernel
theorem dL_law_337 : decode cL_law 337 = .ok (.iload_n 3, 1) := by decide +kernel
theorem dL_law_338 : decode cL_law 338 = .ok (.iconst 1, 1) := by decide +kernel
theorem dL_law_339 : decode cL_law 339 = .ok (.iadd, 1) := by decide +kernel
theorem dL_law_340 : decode cL_law 340 = .ok (.iaload, 1) := by decide +kernel
theorem dL_law_341 : decode cL_law 341 = .ok (.aload_n 0, 1) := by decide +kernel
theorem dL_law_342 : decode cL_law 342 = .ok (.iload_n 3, 1) := by decide +kernel
theorem dL_law_343 : decode cL_law 343 = .ok (.iconst 2, 1) := by decide +kernel
theorem dL_law_344 : decode cL_law 344 = .ok (.iadd, 1) := by decide +kernel
theorem dL_law_345 : decode cL_law 345 = .ok (.iaload, 1) := by decide +kernel
theorem dL_law_346 : decode cL_law 346 = .ok (.invokevirtual 48, 3) := by decide +kernel
theorem dL_law_349 : decode cL_law 349 = .ok (.if_icmp .eq 400, 3) := by decide +kernel
theorem dL_law_352 : decode cL_law 352 = .ok (.iconst 0, 1) := by decide +kernel
theorem dL_law_353 : decode cL_law 353 = .ok (.ireturn, 1) := by decide +kernel
theorem dL_law_354 : decode cL_law 354 = .ok (.aload_n 1, 1) := by decide +kernel
theorem dL_law_355 : decode cL_law 355 = .ok (.aload_n 0, 1) := by decide +kernel
theorem dL_law_356 : decode cL_law 356 = .ok (.iload_n 3, 1) := by decide +kernel
theorem dL_law_357 : decode cL_law 357 = .ok (.iconst 1, 1) := by decide +kernel
theorem dL_law_358 : decode cL_law 358 = .ok (.iadd, 1) := by decide +kernel
theorem dL_law_359 : decode cL_law 359 = .ok (.iaload, 1) := by decide +kernel
theorem dL_law_360 : decode cL_law 360 = .ok (.invokevirtual 49, 3) := by decide +kernel
theorem dL_law_363 : decode cL_law 363 = .ok (.aload_n 2, 1) := by decide +kernel
theorem dL_law_364 : decode cL_law 364 = .ok (.aload_n 0, 1) := by decide +kernel
theorem dL_law_365 : decode cL_law 365 = .ok (.iload_n 3, 1) := by decide +kernel
theorem dL_law_366 : decode cL_law 366 = .ok (.iconst 1, 1) := by decide +kernel
theorem dL_law_367 : decode cL_law 367 = .ok (.iadd, 1) := by decide +kernel
theorem dL_law_368 : decode cL_law 368 = .ok (.iaload, 1) := by decide +kernel
theorem dL_law_369 : decode cL_law 369 = .ok (.invokevirtual 52, 3) := by decide +kernel
theorem dL_law_372 : decode cL_law 372 = .ok (.if_icmp .eq 377, 3) := by decide +kernel
theorem dL_law_375 : decode cL_law 375 = .ok (.iconst 0, 1) := by decide +kernel
theorem dL_law_376 : decode cL_law 376 = .ok (.ireturn, 1) := by decide +kernel
theorem dL_law_377 : decode cL_law 377 = .ok (.aload_n 1, 1) := by decide +kernel
theorem dL_law_378 : decode cL_law 378 = .ok (.aload_n 0, 1) := by decide +kernel
theorem dL_law_379 : decode cL_law 379 = .ok (.iload_n 3, 1) := by decide +kernel
theorem dL_law_380 : decode cL_law 380 = .ok (.iconst 1, 1) := by decide +kernel
theorem dL_law_381 : decode cL_law 381 = .ok (.iadd, 1) := by decide +kernel
theorem dL_law_382 : decode cL_law 382 = .ok (.iaload, 1) := by decide +kernel
theorem dL_law_383 : decode cL_law 383 = .ok (.aload_n 0, 1) := by decide +kernel
theorem dL_law_384 : decode cL_law 384 = .ok (.iload_n 3, 1) := by decide +kernel
theorem dL_law_385 : decode cL_law 385 = .ok (.iconst 2, 1) := by decide +kernel
theorem dL_law_386 : decode cL_law 386 = .ok (.iadd, 1) := by decide +kernel
theorem dL_law_387 : decode cL_law 387 = .ok (.iaload, 1) := by decide +kernel
theorem dL_law_388 : decode cL_law 388 = .ok (.invokevirtual 53, 3) := by decide +kernel
theorem dL_law_391 : decode cL_law 391 = .ok (.aload_n 2, 1) := by decide +kernel
theorem dL_law_392 : decode cL_law 392 = .ok (.aload_n 0, 1) := by decide +kernel
theorem dL_law_393 : decode cL_law 393 = .ok (.iload_n 3, 1) := by decide +kernel
theorem dL_law_394 : decode cL_law 394 = .ok (.iconst 1, 1) := by decide +kernel
theorem dL_law_395 : decode cL_law 395 = .ok (.iadd, 1) := by decide +kernel
theorem dL_law_396 : decode cL_law 396 = .ok (.iaload, 1) := by decide +kernel
theorem dL_law_397 : decode cL_law 397 = .ok (.aload_n 0, 1) := by decide +kernel
theorem dL_law_398 : decode cL_law 398 = .ok (.iload_n 3, 1) := by decide +kernel
theorem dL_law_399 : decode cL_law 399 = .ok (.iconst 2, 1) := by decide +kernel
theorem dL_law_400 : decode cL_law 400 = .ok (.iadd, 1) := by decide +kernel
theorem dL_law_401 : decode cL_law 401 = .ok (.iaload, 1) := by decide +kernel
theorem dL_law_402 : decode cL_law 402 = .ok (.invokevirtual 56, 3) := by decide +kernel
theorem dL_law_405 : decode cL_law 405 = .ok (.if_icmp .eq 344, 3) := by decide +kernel
theorem dL_law_408 : decode cL_law 408 = .ok (.iconst 0, 1) := by decide +kernel
theorem dL_law_409 : decode cL_law 409 = .ok (.ireturn, 1) := by decide +kernel
theorem dL_law_410 : decode cL_law 410 = .ok (.aload_n 1, 1) := by decide +kernel
theorem dL_law_411 : decode cL_law 411 = .ok (.aload_n 0, 1) := by decide +kernel
theorem dL_law_412 : decode cL_law 412 = .ok (.iload_n 3, 1) := by decide +kernel
theorem dL_law_413 : decode cL_law 413 = .ok (.iconst 1, 1) := by decide +kernel
theorem dL_law_414 : decode cL_law 414 = .ok (.iadd, 1) := by decide +kernel
theorem dL_law_415 : decode cL_law 415 = .ok (.iaload, 1) := by decide +kernel
theorem dL_law_416 : decode cL_law 416 = .ok (.aload_n 0, 1) := by decide +kernel
theorem dL_law_417 : decode cL_law 417 = .ok (.iload_n 3, 1) := by decide +kernel
theorem dL_law_418 : decode cL_law 418 = .ok (.iconst 2, 1) := by decide +kernel
theorem dL_law_419 : decode cL_law 419 = .ok (.iadd, 1) := by decide +kernel
theorem dL_law_420 : decode cL_law 420 = .ok (.iaload, 1) := by decide +kernel
theorem dL_law_421 : decode cL_law 421 = .ok (.invokevirtual 57, 3) := by decide +kernel
theorem dL_law_424 : decode cL_law 424 = .ok (.aload_n 2, 1) := by decide +kernel
theorem dL_law_425 : decode cL_law 425 = .ok (.aload_n 0, 1) := by decide +kernel
theorem dL_law_426 : decode cL_law 426 = .ok (.iload_n 3, 1) := by decide +kernel
theorem dL_law_427 : decode cL_law 427 = .ok (.iconst 1, 1) := by decide +kernel
theorem dL_law_428 : decode cL_law 428 = .ok (.iadd, 1) := by decide +kernel
theorem dL_law_429 : decode cL_law 429 = .ok (.iaload, 1) := by decide +kernel
theorem dL_law_430 : decode cL_law 430 = .ok (.aload_n 0, 1) := by decide +kernel
theorem dL_law_431 : decode cL_law 431 = .ok (.iload_n 3, 1) := by decide +kernel
theorem dL_law_432 : decode cL_law 432 = .ok (.iconst 2, 1) := by decide +kernel
theorem dL_law_433 : decode cL_law 433 = .ok (.iadd, 1) := by decide +kernel
theorem dL_law_434 : decode cL_law 434 = .ok (.iaload, 1) := by decide +kernel
theorem dL_law_435 : decode cL_law 435 = .ok (.invokevirtual 60, 3) := by decide +kernel
theorem dL_law_438 : decode cL_law 438 = .ok (.if_icmp .eq 311, 3) := by decide +kernel
theorem dL_law_441 : decode cL_law 441 = .ok (.iconst 0, 1) := by decide +kernel
theorem dL_law_442 : decode cL_law 442 = .ok (.ireturn, 1) := by decide +kernel
theorem dL_law_443 : decode cL_law 443 = .ok (.aload_n 1, 1) := by decide +kernel
theorem dL_law_444 : decode cL_law 444 = .ok (.aload_n 0, 1) := by decide +kernel
theorem dL_law_445 : decode cL_law 445 = .ok (.iload_n 3, 1) := by decide +kernel
theorem dL_law_446 : decode cL_law 446 = .ok (.iconst 1, 1) := by decide +kernel
theorem dL_law_447 : decode cL_law 447 = .ok (.iadd, 1) := by decide +kernel
theorem dL_law_448 : decode cL_law 448 = .ok (.iaload, 1) := by decide +kernel
theorem dL_law_449 : decode cL_law 449 = .ok (.invokevirtual 61, 3) := by decide +kernel
theorem dL_law_452 : decode cL_law 452 = .ok (.aload_n 2, 1) := by decide +kernel
theorem dL_law_453 : decode cL_law 453 = .ok (.aload_n 0, 1) := by decide +kernel
theorem dL_law_454 : decode cL_law 454 = .ok (.iload_n 3, 1) := by decide +kernel
theorem dL_law_455 : decode cL_law 455 = .ok (.iconst 1, 1) := by decide +kernel
theorem dL_law_456 : decode cL_law 456 = .ok (.iadd, 1) := by decide +kernel
theorem dL_law_457 : decode cL_law 457 = .ok (.iaload, 1) := by decide +kernel
theorem dL_law_458 : decode cL_law 458 = .ok (.invokevirtual 64, 3) := by decide +kernel
theorem dL_law_461 : decode cL_law 461 = .ok (.if_icmp .eq 288, 3) := by decide +kernel
theorem dL_law_464 : decode cL_law 464 = .ok (.iconst 0, 1) := by decide +kernel
theorem dL_law_465 : decode cL_law 465 = .ok (.ireturn, 1) := by decide +kernel
theorem dL_law_466 : decode cL_law 466 = .ok (.aload_n 1, 1) := by decide +kernel
theorem dL_law_467 : decode cL_law 467 = .ok (.aload_n 0, 1) := by decide +kernel
theorem dL_law_468 : decode cL_law 468 = .ok (.iload_n 3, 1) := by decide +kernel
theorem dL_law_469 : decode cL_law 469 = .ok (.iconst 1, 1) := by decide +kernel
theorem dL_law_470 : decode cL_law 470 = .ok (.iadd, 1) := by decide +kernel
theorem dL_law_471 : decode cL_law 471 = .ok (.iaload, 1) := by decide +kernel
theorem dL_law_472 : decode cL_law 472 = .ok (.aload_n 0, 1) := by decide +kernel
theorem dL_law_473 : decode cL_law 473 = .ok (.iload_n 3, 1) := by decide +kernel
theorem dL_law_474 : decode cL_law 474 = .ok (.iconst 2, 1) := by decide +kernel
theorem dL_law_475 : decode cL_law 475 = .ok (.iadd, 1) := by decide +kernel
theorem dL_law_476 : decode cL_law 476 = .ok (.iaload, 1) := by decide +kernel
theorem dL_law_477 : decode cL_law 477 = .ok (.aload_n 0, 1) := by decide +kernel
theorem dL_law_478 : decode cL_law 478 = .ok (.iload_n 3, 1) := by decide +kernel
theorem dL_law_479 : decode cL_law 479 = .ok (.iconst 3, 1) := by decide +kernel
theorem dL_law_480 : decode cL_law 480 = .ok (.iadd, 1) := by decide +kernel
theorem dL_law_481 : decode cL_law 481 = .ok (.iaload, 1) := by decide +kernel
theorem dL_law_482 : decode cL_law 482 = .ok (.invokevirtual 65, 3) := by decide +kernel
theorem dL_law_485 : decode cL_law 485 = .ok (.aload_n 2, 1) := by decide +kernel
theorem dL_law_486 : decode cL_law 486 = .ok (.aload_n 0, 1) := by decide +kernel
theorem dL_law_487 : decode cL_law 487 = .ok (.iload_n 3, 1) := by decide +kernel
theorem dL_law_488 : decode cL_law 488 = .ok (.iconst 1, 1) := by decide +kernel
theorem dL_law_489 : decode cL_law 489 = .ok (.iadd, 1) := by decide +kernel
theorem dL_law_490 : decode cL_law 490 = .ok (.iaload, 1) := by decide +kernel
theorem dL_law_491 : decode cL_law 491 = .ok (.aload_n 0, 1) := by decide +kernel
theorem dL_law_492 : decode cL_law 492 = .ok (.iload_n 3, 1) := by decide +kernel
theorem dL_law_493 : decode cL_law 493 = .ok (.iconst 2, 1) := by decide +kernel
theorem dL_law_494 : decode cL_law 494 = .ok (.iadd, 1) := by decide +kernel
theorem dL_law_495 : decode cL_law 495 = .ok (.iaload, 1) := by decide +kernel
theorem dL_law_496 : decode cL_law 496 = .ok (.aload_n 0, 1) := by decide +kernel
theorem dL_law_497 : decode cL_law 497 = .ok (.iload_n 3, 1) := by decide +kernel
theorem dL_law_498 : decode cL_law 498 = .ok (.iconst 3, 1) := by decide +kernel
theorem dL_law_499 : decode cL_law 499 = .ok (.iadd, 1) := by decide +kernel
theorem dL_law_500 : decode cL_law 500 = .ok (.iaload, 1) := by decide +kernel
theorem dL_law_501 : decode cL_law 501 = .ok (.invokevirtual 68, 3) := by decide +kernel
theorem dL_law_504 : decode cL_law 504 = .ok (.if_icmp .eq 245, 3) := by decide +kernel
theorem dL_law_507 : decode cL_law 507 = .ok (.iconst 0, 1) := by decide +kernel
theorem dL_law_508 : decode cL_law 508 = .ok (.ireturn, 1) := by decide +kernel
theorem dL_law_509 : decode cL_law 509 = .ok (.aload_n 1, 1) := by decide +kernel
theorem dL_law_510 : decode cL_law 510 = .ok (.aload_n 0, 1) := by decide +kernel
theorem dL_law_511 : decode cL_law 511 = .ok (.iload_n 3, 1) := by decide +kernel
theorem dL_law_512 : decode cL_law 512 = .ok (.iconst 1, 1) := by decide +kernel
theorem dL_law_513 : decode cL_law 513 = .ok (.iadd, 1) := by decide +kernel
theorem dL_law_514 : decode cL_law 514 = .ok (.iaload, 1) := by decide +kernel
theorem dL_law_515 : decode cL_law 515 = .ok (.invokevirtual 69, 3) := by decide +kernel
theorem dL_law_518 : decode cL_law 518 = .ok (.aload_n 2, 1) := by decide +kernel
theorem dL_law_519 : decode cL_law 519 = .ok (.aload_n 0, 1) := by decide +kernel
theorem dL_law_520 : decode cL_law 520 = .ok (.iload_n 3, 1) := by decide +kernel
theorem dL_law_521 : decode cL_law 521 = .ok (.iconst 1, 1) := by decide +kernel
theorem dL_law_522 : decode cL_law 522 = .ok (.iadd, 1) := by decide +kernel
theorem dL_law_523 : decode cL_law 523 = .ok (.iaload, 1) := by decide +kernel
theorem dL_law_524 : decode cL_law 524 = .ok (.invokevirtual 72, 3) := by decide +kernel
theorem dL_law_527 : decode cL_law 527 = .ok (.if_icmp .eq 222, 3) := by decide +kernel
theorem dL_law_530 : decode cL_law 530 = .ok (.iconst 0, 1) := by decide +kernel
theorem dL_law_531 : decode cL_law 531 = .ok (.ireturn, 1) := by decide +kernel
theorem dL_law_532 : decode cL_law 532 = .ok (.aload_n 1, 1) := by decide +kernel
theorem dL_law_533 : decode cL_law 533 = .ok (.invokevirtual 73, 3) := by decide +kernel
theorem dL_law_536 : decode cL_law 536 = .ok (.aload_n 2, 1) := by decide +kernel
theorem dL_law_537 : decode cL_law 537 = .ok (.invokevirtual 76, 3) := by decide +kernel
theorem dL_law_540 : decode cL_law 540 = .ok (.if_icmp .eq 209, 3) := by decide +kernel
theorem dL_law_543 : decode cL_law 543 = .ok (.iconst 0, 1) := by decide +kernel
theorem dL_law_544 : decode cL_law 544 = .ok (.ireturn, 1) := by decide +kernel
theorem dL_law_545 : decode cL_law 545 = .ok (.aload_n 1, 1) := by decide +kernel
theorem dL_law_546 : decode cL_law 546 = .ok (.aload_n 0, 1) := by decide +kernel
theorem dL_law_547 : decode cL_law 547 = .ok (.iload_n 3, 1) := by decide +kernel
theorem dL_law_548 : decode cL_law 548 = .ok (.iconst 1, 1) := by decide +kernel
theorem dL_law_549 : decode cL_law 549 = .ok (.iadd, 1) := by decide +kernel
theorem dL_law_550 : decode cL_law 550 = .ok (.iaload, 1) := by decide +kernel
theorem dL_law_551 : decode cL_law 551 = .ok (.invokevirtual 77, 3) := by decide +kernel
theorem dL_law_554 : decode cL_law 554 = .ok (.aload_n 2, 1) := by decide +kernel
theorem dL_law_555 : decode cL_law 555 = .ok (.aload_n 0, 1) := by decide +kernel
theorem dL_law_556 : decode cL_law 556 = .ok (.iload_n 3, 1) := by decide +kernel
theorem dL_law_557 : decode cL_law 557 = .ok (.iconst 1, 1) := by decide +kernel
theorem dL_law_558 : decode cL_law 558 = .ok (.iadd, 1) := by decide +kernel
theorem dL_law_559 : decode cL_law 559 = .ok (.iaload, 1) := by decide +kernel
theorem dL_law_560 : decode cL_law 560 = .ok (.invokevirtual 80, 3) := by decide +kernel
theorem dL_law_563 : decode cL_law 563 = .ok (.if_icmp .eq 186, 3) := by decide +kernel
theorem dL_law_566 : decode cL_law 566 = .ok (.iconst 0, 1) := by decide +kernel
theorem dL_law_567 : decode cL_law 567 = .ok (.ireturn, 1) := by decide +kernel
theorem dL_law_568 : decode cL_law 568 = .ok (.aload_n 1, 1) := by decide +kernel
theorem dL_law_569 : decode cL_law 569 = .ok (.aload_n 0, 1) := by decide +kernel
theorem dL_law_570 : decode cL_law 570 = .ok (.iload_n 3, 1) := by decide +kernel
theorem dL_law_571 : decode cL_law 571 = .ok (.iconst 1, 1) := by decide +kernel
theorem dL_law_572 : decode cL_law 572 = .ok (.iadd, 1) := by decide +kernel
theorem dL_law_573 : decode cL_law 573 = .ok (.iaload, 1) := by decide +kernel
theorem dL_law_574 : decode cL_law 574 = .ok (.aload_n 0, 1) := by decide +kernel
theorem dL_law_575 : decode cL_law 575 = .ok (.iload_n 3, 1) := by decide +kernel
theorem dL_law_576 : decode cL_law 576 = .ok (.iconst 2, 1) := by decide +kernel
theorem dL_law_577 : decode cL_law 577 = .ok (.iadd, 1) := by decide +kernel
theorem dL_law_578 : decode cL_law 578 = .ok (.iaload, 1) := by decide +kernel
theorem dL_law_579 : decode cL_law 579 = .ok (.invokevirtual 81, 3) := by decide +kernel
theorem dL_law_582 : decode cL_law 582 = .ok (.aload_n 2, 1) := by decide +kernel
theorem dL_law_583 : decode cL_law 583 = .ok (.aload_n 0, 1) := by decide +kernel
theorem dL_law_584 : decode cL_law 584 = .ok (.iload_n 3, 1) := by decide +kernel
theorem dL_law_585 : decode cL_law 585 = .ok (.iconst 1, 1) := by decide +kernel
theorem dL_law_586 : decode cL_law 586 = .ok (.iadd, 1) := by decide +kernel
theorem dL_law_587 : decode cL_law 587 = .ok (.iaload, 1) := by decide +kernel
theorem dL_law_588 : decode cL_law 588 = .ok (.aload_n 0, 1) := by decide +kernel
theorem dL_law_589 : decode cL_law 589 = .ok (.iload_n 3, 1) := by decide +kernel
theorem dL_law_590 : decode cL_law 590 = .ok (.iconst 2, 1) := by decide +kernel
theorem dL_law_591 : decode cL_law 591 = .ok (.iadd, 1) := by decide +kernel
theorem dL_law_592 : decode cL_law 592 = .ok (.iaload, 1) := by decide +kernel
theorem dL_law_593 : decode cL_law 593 = .ok (.invokevirtual 84, 3) := by decide +kernel
theorem dL_law_596 : decode cL_law 596 = .ok (.if_icmp .eq 153, 3) := by decide +kernel
theorem dL_law_599 : decode cL_law 599 = .ok (.iconst 0, 1) := by decide +kernel
theorem dL_law_600 : decode cL_law 600 = .ok (.ireturn, 1) := by decide +kernel
theorem dL_law_601 : decode cL_law 601 = .ok (.aload_n 1, 1) := by decide +kernel
theorem dL_law_602 : decode cL_law 602 = .ok (.aload_n 0, 1) := by decide +kernel
theorem dL_law_603 : decode cL_law 603 = .ok (.iload_n 3, 1) := by decide +kernel
theorem dL_law_604 : decode cL_law 604 = .ok (.iconst 1, 1) := by decide +kernel
theorem dL_law_605 : decode cL_law 605 = .ok (.iadd, 1) := by decide +kernel
theorem dL_law_606 : decode cL_law 606 = .ok (.iaload, 1) := by decide +kernel
theorem dL_law_607 : decode cL_law 607 = .ok (.aload_n 0, 1) := by decide +kernel
theorem dL_law_608 : decode cL_law 608 = .ok (.iload_n 3, 1) := by decide +kernel
theorem dL_law_609 : decode cL_law 609 = .ok (.iconst 2, 1) := by decide +kernel
theorem dL_law_610 : decode cL_law 610 = .ok (.iadd, 1) := by decide +kernel
theorem dL_law_611 : decode cL_law 611 = .ok (.iaload, 1) := by decide +kernel
theorem dL_law_612 : decode cL_law 612 = .ok (.invokevirtual 85, 3) := by decide +kernel
theorem dL_law_615 : decode cL_law 615 = .ok (.aload_n 2, 1) := by decide +kernel
theorem dL_law_616 : decode cL_law 616 = .ok (.aload_n 0, 1) := by decide +kernel
theorem dL_law_617 : decode cL_law 617 = .ok (.iload_n 3, 1) := by decide +kernel
theorem dL_law_618 : decode cL_law 618 = .ok (.iconst 1, 1) := by decide +kernel
theorem dL_law_619 : decode cL_law 619 = .ok (.iadd, 1) := by decide +kernel
theorem dL_law_620 : decode cL_law 620 = .ok (.iaload, 1) := by decide +kernel
theorem dL_law_621 : decode cL_law 621 = .ok (.aload_n 0, 1) := by decide +kernel
theorem dL_law_622 : decode cL_law 622 = .ok (.iload_n 3, 1) := by decide +kernel
theorem dL_law_623 : decode cL_law 623 = .ok (.iconst 2, 1) := by decide +kernel
theorem dL_law_624 : decode cL_law 624 = .ok (.iadd, 1) := by decide +kernel
theorem dL_law_625 : decode cL_law 625 = .ok (.iaload, 1) := by decide +kernel
theorem dL_law_626 : decode cL_law 626 = .ok (.invokevirtual 88, 3) := by decide +kernel
theorem dL_law_629 : decode cL_law 629 = .ok (.if_icmp .eq 120, 3) := by decide +kernel
theorem dL_law_632 : decode cL_law 632 = .ok (.iconst 0, 1) := by decide +kernel
theorem dL_law_633 : decode cL_law 633 = .ok (.ireturn, 1) := by decide +kernel
theorem dL_law_634 : decode cL_law 634 = .ok (.aload_n 1, 1) := by decide +kernel
theorem dL_law_635 : decode cL_law 635 = .ok (.aload_n 0, 1) := by decide +kernel
theorem dL_law_636 : decode cL_law 636 = .ok (.iload_n 3, 1) := by decide +kernel
theorem dL_law_637 : decode cL_law 637 = .ok (.iconst 1, 1) := by decide +kernel
theorem dL_law_638 : decode cL_law 638 = .ok (.iadd, 1) := by decide +kernel
theorem dL_law_639 : decode cL_law 639 = .ok (.iaload, 1) := by decide +kernel
theorem dL_law_640 : decode cL_law 640 = .ok (.aload_n 0, 1) := by decide +kernel
theorem dL_law_641 : decode cL_law 641 = .ok (.iload_n 3, 1) := by decide +kernel
theorem dL_law_642 : decode cL_law 642 = .ok (.iconst 2, 1) := by decide +kernel
theorem dL_law_643 : decode cL_law 643 = .ok (.iadd, 1) := by decide +kernel
theorem dL_law_644 : decode cL_law 644 = .ok (.iaload, 1) := by decide +kernel
theorem dL_law_645 : decode cL_law 645 = .ok (.invokevirtual 89, 3) := by decide +kernel
theorem dL_law_648 : decode cL_law 648 = .ok (.aload_n 2, 1) := by decide +kernel
theorem dL_law_649 : decode cL_law 649 = .ok (.aload_n 0, 1) := by decide +kernel
theorem dL_law_650 : decode cL_law 650 = .ok (.iload_n 3, 1) := by decide +kernel
theorem dL_law_651 : decode cL_law 651 = .ok (.iconst 1, 1) := by decide +kernel
theorem dL_law_652 : decode cL_law 652 = .ok (.iadd, 1) := by decide +kernel
theorem dL_law_653 : decode cL_law 653 = .ok (.iaload, 1) := by decide +kernel
theorem dL_law_654 : decode cL_law 654 = .ok (.aload_n 0, 1) := by decide +kernel
theorem dL_law_655 : decode cL_law 655 = .ok (.iload_n 3, 1) := by decide +kernel
theorem dL_law_656 : decode cL_law 656 = .ok (.iconst 2, 1) := by decide +kernel
theorem dL_law_657 : decode cL_law 657 = .ok (.iadd, 1) := by decide +kernel
theorem dL_law_658 : decode cL_law 658 = .ok (.iaload, 1) := by decide +kernel
theorem dL_law_659 : decode cL_law 659 = .ok (.invokevirtual 92, 3) := by decide +kernel
theorem dL_law_662 : decode cL_law 662 = .ok (.if_icmp .eq 87, 3) := by decide +kernel
theorem dL_law_665 : decode cL_law 665 = .ok (.iconst 0, 1) := by decide +kernel
theorem dL_law_666 : decode cL_law 666 = .ok (.ireturn, 1) := by decide +kernel
theorem dL_law_667 : decode cL_law 667 = .ok (.aload_n 1, 1) := by decide +kernel
theorem dL_law_668 : decode cL_law 668 = .ok (.aload_n 0, 1) := by decide +kernel
theorem dL_law_669 : decode cL_law 669 = .ok (.iload_n 3, 1) := by decide +kernel
theorem dL_law_670 : decode cL_law 670 = .ok (.iconst 1, 1) := by decide +kernel
theorem dL_law_671 : decode cL_law 671 = .ok (.iadd, 1) := by decide +kernel
theorem dL_law_672 : decode cL_law 672 = .ok (.iaload, 1) := by decide +kernel
theorem dL_law_673 : decode cL_law 673 = .ok (.invokevirtual 93, 3) := by decide +kernel
theorem dL_law_676 : decode cL_law 676 = .ok (.aload_n 2, 1) := by decide +kernel
theorem dL_law_677 : decode cL_law 677 = .ok (.aload_n 0, 1) := by decide +kernel
theorem dL_law_678 : decode cL_law 678 = .ok (.iload_n 3, 1) := by decide +kernel
theorem dL_law_679 : decode cL_law 679 = .ok (.iconst 1, 1) := by decide +kernel
theorem dL_law_680 : decode cL_law 680 = .ok (.iadd, 1) := by decide +kernel
theorem dL_law_681 : decode cL_law 681 = .ok (.iaload, 1) := by decide +kernel
theorem dL_law_682 : decode cL_law 682 = .ok (.invokevirtual 96, 3) := by decide +kernel
theorem dL_law_685 : decode cL_law 685 = .ok (.if_icmp .eq 64, 3) := by decide +kernel
theorem dL_law_688 : decode cL_law 688 = .ok (.iconst 0, 1) := by decide +kernel
theorem dL_law_689 : decode cL_law 689 = .ok (.ireturn, 1) := by decide +kernel
theorem dL_law_690 : decode cL_law 690 = .ok (.aload_n 1, 1) := by decide +kernel
theorem dL_law_691 : decode cL_law 691 = .ok (.invokevirtual 97, 3) := by decide +kernel
theorem dL_law_694 : decode cL_law 694 = .ok (.aload_n 2, 1) := by decide +kernel
theorem dL_law_695 : decode cL_law 695 = .ok (.invokevirtual 100, 3) := by decide +kernel
theorem dL_law_698 : decode cL_law 698 = .ok (.if_icmp .eq 51, 3) := by decide +kernel
theorem dL_law_701 : decode cL_law 701 = .ok (.iconst 0, 1) := by decide +kernel
theorem dL_law_702 : decode cL_law 702 = .ok (.ireturn, 1) := by decide +kernel
theorem dL_law_703 : decode cL_law 703 = .ok (.aload_n 1, 1) := by decide +kernel
theorem dL_law_704 : decode cL_law 704 = .ok (.aload_n 0, 1) := by decide +kernel
theorem dL_law_705 : decode cL_law 705 = .ok (.iload_n 3, 1) := by decide +kernel
theorem dL_law_706 : decode cL_law 706 = .ok (.iconst 1, 1) := by decide +kernel
theorem dL_law_707 : decode cL_law 707 = .ok (.iadd, 1) := by decide +kernel
theorem dL_law_708 : decode cL_law 708 = .ok (.iaload, 1) := by decide +kernel
theorem dL_law_709 : decode cL_law 709 = .ok (.invokevirtual 101, 3) := by decide +kernel
theorem dL_law_712 : decode cL_law 712 = .ok (.aload_n 2, 1) := by decide +kernel
theorem dL_law_713 : decode cL_law 713 = .ok (.aload_n 0, 1) := by decide +kernel
theorem dL_law_714 : decode cL_law 714 = .ok (.iload_n 3, 1) := by decide +kernel
theorem dL_law_715 : decode cL_law 715 = .ok (.iconst 1, 1) := by decide +kernel
theorem dL_law_716 : decode cL_law 716 = .ok (.iadd, 1) := by decide +kernel
theorem dL_law_717 : decode cL_law 717 = .ok (.iaload, 1) := by decide +kernel
theorem dL_law_718 : decode cL_law 718 = .ok (.invokevirtual 104, 3) := by decide +kernel
theorem dL_law_721 : decode cL_law 721 = .ok (.if_icmp .eq 28, 3) := by decide +kernel
theorem dL_law_724 : decode cL_law 724 = .ok (.iconst 0, 1) := by decide +kernel
theorem dL_law_725 : decode cL_law 725 = .ok (.ireturn, 1) := by decide +kernel
theorem dL_law_726 : decode cL_law 726 = .ok (.aload_n 1, 1) := by decide +kernel
theorem dL_law_727 : decode cL_law 727 = .ok (.aload_n 0, 1) := by decide +kernel
theorem dL_law_728 : decode cL_law 728 = .ok (.iload_n 3, 1) := by decide +kernel
theorem dL_law_729 : decode cL_law 729 = .ok (.iconst 1, 1) := by decide +kernel
theorem dL_law_730 : decode cL_law 730 = .ok (.iadd, 1) := by decide +kernel
theorem dL_law_731 : decode cL_law 731 = .ok (.iaload, 1) := by decide +kernel
theorem dL_law_732 : decode cL_law 732 = .ok (.invokevirtual 105, 3) := by decide +kernel
theorem dL_law_735 : decode cL_law 735 = .ok (.aload_n 2, 1) := by decide +kernel
theorem dL_law_736 : decode cL_law 736 = .ok (.aload_n 0, 1) := by decide +kernel
theorem dL_law_737 : decode cL_law 737 = .ok (.iload_n 3, 1) := by decide +kernel
theorem dL_law_738 : decode cL_law 738 = .ok (.iconst 1, 1) := by decide +kernel
theorem dL_law_739 : decode cL_law 739 = .ok (.iadd, 1) := by decide +kernel
theorem dL_law_740 : decode cL_law 740 = .ok (.iaload, 1) := by decide +kernel
theorem dL_law_741 : decode cL_law 741 = .ok (.invokevirtual 108, 3) := by decide +kernel
theorem dL_law_744 : decode cL_law 744 = .ok (.if_icmp .eq 5, 3) := by decide +kernel
theorem dL_law_747 : decode cL_law 747 = .ok (.iconst 0, 1) := by decide +kernel
theorem dL_law_748 : decode cL_law 748 = .ok (.ireturn, 1) := by decide +kernel
theorem dL_law_749 : decode cL_law 749 = .ok (.iinc 3 4, 3) := by decide +kernel
theorem dL_law_752 : decode cL_law 752 = .ok (.goto (-734), 3) := by decide +kernel
theorem dL_law_755 : decode cL_law 755 = .ok (.iconst 1, 1) := by decide +kernel
theorem dL_law_756 : decode cL_law 756 = .ok (.ireturn, 1) := by decide +kernel
