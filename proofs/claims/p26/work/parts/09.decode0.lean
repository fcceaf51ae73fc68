theorem dX0_init_0 : decode cX0_init 0 = .ok (.aload_n 0, 1) := by decide +kernel
theorem dX0_init_1 : decode cX0_init 1 = .ok (.invokespecial 1, 3) := by decide +kernel
theorem dX0_init_4 : decode cX0_init 4 = .ok (.return_, 1) := by decide +kernel
theorem dX0_copyFrom_0 : decode cX0_copyFrom 0 = .ok (.aload_n 0, 1) := by decide +kernel
theorem dX0_copyFrom_1 : decode cX0_copyFrom 1 = .ok (.aload_n 1, 1) := by decide +kernel
theorem dX0_copyFrom_2 : decode cX0_copyFrom 2 = .ok (.getfield 7, 3) := by decide +kernel
theorem dX0_copyFrom_5 : decode cX0_copyFrom 5 = .ok (.putfield 7, 3) := by decide +kernel
theorem dX0_copyFrom_8 : decode cX0_copyFrom 8 = .ok (.aload_n 0, 1) := by decide +kernel
theorem dX0_copyFrom_9 : decode cX0_copyFrom 9 = .ok (.aload_n 1, 1) := by decide +kernel
theorem dX0_copyFrom_10 : decode cX0_copyFrom 10 = .ok (.getfield 13, 3) := by decide +kernel
theorem dX0_copyFrom_13 : decode cX0_copyFrom 13 = .ok (.putfield 13, 3) := by decide +kernel
theorem dX0_copyFrom_16 : decode cX0_copyFrom 16 = .ok (.aload_n 0, 1) := by decide +kernel
theorem dX0_copyFrom_17 : decode cX0_copyFrom 17 = .ok (.aload_n 1, 1) := by decide +kernel
theorem dX0_copyFrom_18 : decode cX0_copyFrom 18 = .ok (.getfield 16, 3) := by decide +kernel
theorem dX0_copyFrom_21 : decode cX0_copyFrom 21 = .ok (.putfield 16, 3) := by decide +kernel
theorem dX0_copyFrom_24 : decode cX0_copyFrom 24 = .ok (.return_, 1) := by decide +kernel
theorem dX1_init_0 : decode cX1_init 0 = .ok (.aload_n 0, 1) := by decide +kernel
theorem dX1_init_1 : decode cX1_init 1 = .ok (.invokespecial 3, 3) := by decide +kernel
theorem dX1_init_4 : decode cX1_init 4 = .ok (.aload_n 0, 1) := by decide +kernel
theorem dX1_init_5 : decode cX1_init 5 = .ok (.bipush 6, 2) := by decide +kernel
theorem dX1_init_7 : decode cX1_init 7 = .ok (.anewarray 9, 3) := by decide +kernel
theorem dX1_init_10 : decode cX1_init 10 = .ok (.putfield 11, 3) := by decide +kernel
theorem dX1_init_13 : decode cX1_init 13 = .ok (.iconst 0, 1) := by decide +kernel
theorem dX1_init_14 : decode cX1_init 14 = .ok (.istore_n 1, 1) := by decide +kernel
theorem dX1_init_15 : decode cX1_init 15 = .ok (.iload_n 1, 1) := by decide +kernel
theorem dX1_init_16 : decode cX1_init 16 = .ok (.bipush 6, 2) := by decide +kernel
theorem dX1_init_18 : decode cX1_init 18 = .ok (.if_icmp .ge 22, 3) := by decide +kernel
theorem dX1_init_21 : decode cX1_init 21 = .ok (.aload_n 0, 1) := by decide +kernel
theorem dX1_init_22 : decode cX1_init 22 = .ok (.getfield 11, 3) := by decide +kernel
theorem dX1_init_25 : decode cX1_init 25 = .ok (.iload_n 1, 1) := by decide +kernel
theorem dX1_init_26 : decode cX1_init 26 = .ok (.new 9, 3) := by decide +kernel
theorem dX1_init_29 : decode cX1_init 29 = .ok (.dup, 1) := by decide +kernel
theorem dX1_init_30 : decode cX1_init 30 = .ok (.invokespecial 17, 3) := by decide +kernel
theorem dX1_init_33 : decode cX1_init 33 = .ok (.aastore, 1) := by decide +kernel
theorem dX1_init_34 : decode cX1_init 34 = .ok (.iinc 1 1, 3) := by decide +kernel
theorem dX1_init_37 : decode cX1_init 37 = .ok (.goto (-22), 3) := by decide +kernel
theorem dX1_init_40 : decode cX1_init 40 = .ok (.aload_n 0, 1) := by decide +kernel
theorem dX1_init_41 : decode cX1_init 41 = .ok (.bipush 8, 2) := by decide +kernel
theorem dX1_init_43 : decode cX1_init 43 = .ok (.anewarray 18, 3) := by decide +kernel
theorem dX1_init_46 : decode cX1_init 46 = .ok (.putfield 20, 3) := by decide +kernel
theorem dX1_init_49 : decode cX1_init 49 = .ok (.iconst 0, 1) := by decide +kernel
theorem dX1_init_50 : decode cX1_init 50 = .ok (.istore_n 1, 1) := by decide +kernel
theorem dX1_init_51 : decode cX1_init 51 = .ok (.iload_n 1, 1) := by decide +kernel
theorem dX1_init_52 : decode cX1_init 52 = .ok (.bipush 8, 2) := by decide +kernel
theorem dX1_init_54 : decode cX1_init 54 = .ok (.if_icmp .ge 22, 3) := by decide +kernel
theorem dX1_init_57 : decode cX1_init 57 = .ok (.aload_n 0, 1) := by decide +kernel
theorem dX1_init_58 : decode cX1_init 58 = .ok (.getfield 20, 3) := by decide +kernel
theorem dX1_init_61 : decode cX1_init 61 = .ok (.iload_n 1, 1) := by decide +kernel
theorem dX1_init_62 : decode cX1_init 62 = .ok (.new 18, 3) := by decide +kernel
theorem dX1_init_65 : decode cX1_init 65 = .ok (.dup, 1) := by decide +kernel
theorem dX1_init_66 : decode cX1_init 66 = .ok (.invokespecial 24, 3) := by decide +kernel
theorem dX1_init_69 : decode cX1_init 69 = .ok (.aastore, 1) := by decide +kernel
theorem dX1_init_70 : decode cX1_init 70 = .ok (.iinc 1 1, 3) := by decide +kernel
theorem dX1_init_73 : decode cX1_init 73 = .ok (.goto (-22), 3) := by decide +kernel
theorem dX1_init_76 : decode cX1_init 76 = .ok (.aload_n 0, 1) := by decide +kernel
theorem dX1_init_77 : decode cX1_init 77 = .ok (.bipush 40, 2) := by decide +kernel
theorem dX1_init_79 : decode cX1_init 79 = .ok (.anewarray 25, 3) := by decide +kernel
theorem dX1_init_82 : decode cX1_init 82 = .ok (.putfield 27, 3) := by decide +kernel
theorem dX1_init_85 : decode cX1_init 85 = .ok (.iconst 0, 1) := by decide +kernel
theorem dX1_init_86 : decode cX1_init 86 = .ok (.istore_n 1, 1) := by decide +kernel
theorem dX1_init_87 : decode cX1_init 87 = .ok (.iload_n 1, 1) := by decide +kernel
theorem dX1_init_88 : decode cX1_init 88 = .ok (.bipush 40, 2) := by decide +kernel
theorem dX1_init_90 : decode cX1_init 90 = .ok (.if_icmp .ge 22, 3) := by decide +kernel
theorem dX1_init_93 : decode cX1_init 93 = .ok (.aload_n 0, 1) := by decide +kernel
theorem dX1_init_94 : decode cX1_init 94 = .ok (.getfield 27, 3) := by decide +kernel
theorem dX1_init_97 : decode cX1_init 97 = .ok (.iload_n 1, 1) := by decide +kernel
theorem dX1_init_98 : decode cX1_init 98 = .ok (.new 25, 3) := by decide +kernel
theorem dX1_init_101 : decode cX1_init 101 = .ok (.dup, 1) := by decide +kernel
theorem dX1_init_102 : decode cX1_init 102 = .ok (.invokespecial 31, 3) := by decide +kernel
theorem dX1_init_105 : decode cX1_init 105 = .ok (.aastore, 1) := by decide +kernel
theorem dX1_init_106 : decode cX1_init 106 = .ok (.iinc 1 1, 3) := by decide +kernel
theorem dX1_init_109 : decode cX1_init 109 = .ok (.goto (-22), 3) := by decide +kernel
theorem dX1_init_112 : decode cX1_init 112 = .ok (.aload_n 0, 1) := by decide +kernel
theorem dX1_init_113 : decode cX1_init 113 = .ok (.bipush 100, 2) := by decide +kernel
theorem dX1_init_115 : decode cX1_init 115 = .ok (.putfield 32, 3) := by decide +kernel
theorem dX1_init_118 : decode cX1_init 118 = .ok (.aload_n 0, 1) := by decide +kernel
theorem dX1_init_119 : decode cX1_init 119 = .ok (.bipush 20, 2) := by decide +kernel
theorem dX1_init_121 : decode cX1_init 121 = .ok (.putfield 36, 3) := by decide +kernel
theorem dX1_init_124 : decode cX1_init 124 = .ok (.return_, 1) := by decide +kernel
theorem dX1_copyFrom_0 : decode cX1_copyFrom 0 = .ok (.aload_n 0, 1) := by decide +kernel
theorem dX1_copyFrom_1 : decode cX1_copyFrom 1 = .ok (.aload_n 1, 1) := by decide +kernel
theorem dX1_copyFrom_2 : decode cX1_copyFrom 2 = .ok (.getfield 39, 3) := by decide +kernel
theorem dX1_copyFrom_5 : decode cX1_copyFrom 5 = .ok (.putfield 39, 3) := by decide +kernel
theorem dX1_copyFrom_8 : decode cX1_copyFrom 8 = .ok (.iconst 0, 1) := by decide +kernel
theorem dX1_copyFrom_9 : decode cX1_copyFrom 9 = .ok (.istore_n 2, 1) := by decide +kernel
theorem dX1_copyFrom_10 : decode cX1_copyFrom 10 = .ok (.iload_n 2, 1) := by decide +kernel
theorem dX1_copyFrom_11 : decode cX1_copyFrom 11 = .ok (.aload_n 0, 1) := by decide +kernel
theorem dX1_copyFrom_12 : decode cX1_copyFrom 12 = .ok (.getfield 39, 3) := by decide +kernel
theorem dX1_copyFrom_15 : decode cX1_copyFrom 15 = .ok (.if_icmp .ge 24, 3) := by decide +kernel
theorem dX1_copyFrom_18 : decode cX1_copyFrom 18 = .ok (.aload_n 0, 1) := by decide +kernel
theorem dX1_copyFrom_19 : decode cX1_copyFrom 19 = .ok (.getfield 11, 3) := by decide +kernel
theorem dX1_copyFrom_22 : decode cX1_copyFrom 22 = .ok (.iload_n 2, 1) := by decide +kernel
theorem dX1_copyFrom_23 : decode cX1_copyFrom 23 = .ok (.aaload, 1) := by decide +kernel
theorem dX1_copyFrom_24 : decode cX1_copyFrom 24 = .ok (.aload_n 1, 1) := by decide +kernel
theorem dX1_copyFrom_25 : decode cX1_copyFrom 25 = .ok (.getfield 11, 3) := by decide +kernel
theorem dX1_copyFrom_28 : decode cX1_copyFrom 28 = .ok (.iload_n 2, 1) := by decide +kernel
theorem dX1_copyFrom_29 : decode cX1_copyFrom 29 = .ok (.aaload, 1) := by decide +kernel
theorem dX1_copyFrom_30 : decode cX1_copyFrom 30 = .ok (.invokevirtual 42, 3) := by decide +kernel
theorem dX1_copyFrom_33 : decode cX1_copyFrom 33 = .ok (.iinc 2 1, 3) := by decide +kernel
theorem dX1_copyFrom_36 : decode cX1_copyFrom 36 = .ok (.goto (-26), 3) := by decide +kernel
theorem dX1_copyFrom_39 : decode cX1_copyFrom 39 = .ok (.aload_n 0, 1) := by decide +kernel
theorem dX1_copyFrom_40 : decode cX1_copyFrom 40 = .ok (.aload_n 1, 1) := by decide +kernel
theorem dX1_copyFrom_41 : decode cX1_copyFrom 41 = .ok (.getfield 46, 3) := by decide +kernel
theorem dX1_copyFrom_44 : decode cX1_copyFrom 44 = .ok (.putfield 46, 3) := by decide +kernel
theorem dX1_copyFrom_47 : decode cX1_copyFrom 47 = .ok (.iconst 0, 1) := by decide +kernel
theorem dX1_copyFrom_48 : decode cX1_copyFrom 48 = .ok (.istore_n 2, 1) := by decide +kernel
theorem dX1_copyFrom_49 : decode cX1_copyFrom 49 = .ok (.iload_n 2, 1) := by decide +kernel
theorem dX1_copyFrom_50 : decode cX1_copyFrom 50 = .ok (.aload_n 0, 1) := by decide +kernel
theorem dX1_copyFrom_51 : decode cX1_copyFrom 51 = .ok (.getfield 46, 3) := by decide +kernel
theorem dX1_copyFrom_54 : decode cX1_copyFrom 54 = .ok (.if_icmp .ge 24, 3) := by decide +kernel
theorem dX1_copyFrom_57 : decode cX1_copyFrom 57 = .ok (.aload_n 0, 1) := by decide +kernel
theorem dX1_copyFrom_58 : decode cX1_copyFrom 58 = .ok (.getfield 20, 3) := by decide +kernel
theorem dX1_copyFrom_61 : decode cX1_copyFrom 61 = .ok (.iload_n 2, 1) := by decide +kernel
theorem dX1_copyFrom_62 : decode cX1_copyFrom 62 = .ok (.aaload, 1) := by decide +kernel
theorem dX1_copyFrom_63 : decode cX1_copyFrom 63 = .ok (.aload_n 1, 1) := by decide +kernel
theorem dX1_copyFrom_64 : decode cX1_copyFrom 64 = .ok (.getfield 20, 3) := by decide +kernel
theorem dX1_copyFrom_67 : decode cX1_copyFrom 67 = .ok (.iload_n 2, 1) := by decide +kernel
theorem dX1_copyFrom_68 : decode cX1_copyFrom 68 = .ok (.aaload, 1) := by decide +kernel
theorem dX1_copyFrom_69 : decode cX1_copyFrom 69 = .ok (.invokevirtual 49, 3) := by decide +kernel
theorem dX1_copyFrom_72 : decode cX1_copyFrom 72 = .ok (.iinc 2 1, 3) := by decide +kernel
theorem dX1_copyFrom_75 : decode cX1_copyFrom 75 = .ok (.goto (-26), 3) := by decide +kernel
theorem dX1_copyFrom_78 : decode cX1_copyFrom 78 = .ok (.aload_n 0, 1) := by decide +kernel
theorem dX1_copyFrom_79 : decode cX1_copyFrom 79 = .ok (.aload_n 1, 1) := by decide +kernel
theorem dX1_copyFrom_80 : decode cX1_copyFrom 80 = .ok (.getfield 52, 3) := by decide +kernel
theorem dX1_copyFrom_83 : decode cX1_copyFrom 83 = .ok (.putfield 52, 3) := by decide +kernel
theorem dX1_copyFrom_86 : decode cX1_copyFrom 86 = .ok (.iconst 0, 1) := by decide +kernel
theorem dX1_copyFrom_87 : decode cX1_copyFrom 87 = .ok (.istore_n 2, 1) := by decide +kernel
theorem dX1_copyFrom_88 : decode cX1_copyFrom 88 = .ok (.iload_n 2, 1) := by decide +kernel
theorem dX1_copyFrom_89 : decode cX1_copyFrom 89 = .ok (.aload_n 0, 1) := by decide +kernel
theorem dX1_copyFrom_90 : decode cX1_copyFrom 90 = .ok (.getfield 52, 3) := by decide +kernel
theorem dX1_copyFrom_93 : decode cX1_copyFrom 93 = .ok (.if_icmp .ge 24, 3) := by decide +kernel
theorem dX1_copyFrom_96 : decode cX1_copyFrom 96 = .ok (.aload_n 0, 1) := by decide +kernel
theorem dX1_copyFrom_97 : decode cX1_copyFrom 97 = .ok (.getfield 27, 3) := by decide +kernel
theorem dX1_copyFrom_100 : decode cX1_copyFrom 100 = .ok (.iload_n 2, 1) := by decide +kernel
theorem dX1_copyFrom_101 : decode cX1_copyFrom 101 = .ok (.aaload, 1) := by decide +kernel
theorem dX1_copyFrom_102 : decode cX1_copyFrom 102 = .ok (.aload_n 1, 1) := by decide +kernel
theorem dX1_copyFrom_103 : decode cX1_copyFrom 103 = .ok (.getfield 27, 3) := by decide +kernel
theorem dX1_copyFrom_106 : decode cX1_copyFrom 106 = .ok (.iload_n 2, 1) := by decide +kernel
theorem dX1_copyFrom_107 : decode cX1_copyFrom 107 = .ok (.aaload, 1) := by decide +kernel
theorem dX1_copyFrom_108 : decode cX1_copyFrom 108 = .ok (.invokevirtual 55, 3) := by decide +kernel
theorem dX1_copyFrom_111 : decode cX1_copyFrom 111 = .ok (.iinc 2 1, 3) := by decide +kernel
theorem dX1_copyFrom_114 : decode cX1_copyFrom 114 = .ok (.goto (-26), 3) := by decide +kernel
theorem dX1_copyFrom_117 : decode cX1_copyFrom 117 = .ok (.aload_n 0, 1) := by decide +kernel
theorem dX1_copyFrom_118 : decode cX1_copyFrom 118 = .ok (.aload_n 1, 1) := by decide +kernel
theorem dX1_copyFrom_119 : decode cX1_copyFrom 119 = .ok (.getfield 58, 3) := by decide +kernel
theorem dX1_copyFrom_122 : decode cX1_copyFrom 122 = .ok (.putfield 58, 3) := by decide +kernel
theorem dX1_copyFrom_125 : decode cX1_copyFrom 125 = .ok (.aload_n 0, 1) := by decide +kernel
theorem dX1_copyFrom_126 : decode cX1_copyFrom 126 = .ok (.aload_n 1, 1) := by decide +kernel
theorem dX1_copyFrom_127 : decode cX1_copyFrom 127 = .ok (.getfield 61, 3) := by decide +kernel
theorem dX1_copyFrom_130 : decode cX1_copyFrom 130 = .ok (.putfield 61, 3) := by decide +kernel
theorem dX1_copyFrom_133 : decode cX1_copyFrom 133 = .ok (.aload_n 0, 1) := by decide +kernel
theorem dX1_copyFrom_134 : decode cX1_copyFrom 134 = .ok (.aload_n 1, 1) := by decide +kernel
theorem dX1_copyFrom_135 : decode cX1_copyFrom 135 = .ok (.getfield 32, 3) := by decide +kernel
theorem dX1_copyFrom_138 : decode cX1_copyFrom 138 = .ok (.putfield 32, 3) := by decide +kernel
theorem dX1_copyFrom_141 : decode cX1_copyFrom 141 = .ok (.aload_n 0, 1) := by decide +kernel
theorem dX1_copyFrom_142 : decode cX1_copyFrom 142 = .ok (.aload_n 1, 1) := by decide +kernel
theorem dX1_copyFrom_143 : decode cX1_copyFrom 143 = .ok (.getfield 36, 3) := by decide +kernel
theorem dX1_copyFrom_146 : decode cX1_copyFrom 146 = .ok (.putfield 36, 3) := by decide +kernel
theorem dX1_copyFrom_149 : decode cX1_copyFrom 149 = .ok (.aload_n 0, 1) := by decide +kernel
theorem dX1_copyFrom_150 : decode cX1_copyFrom 150 = .ok (.aload_n 1, 1) := by decide +kernel
theorem dX1_copyFrom_151 : decode cX1_copyFrom 151 = .ok (.getfield 64, 3) := by decide +kernel
theorem dX1_copyFrom_154 : decode cX1_copyFrom 154 = .ok (.putfield 64, 3) := by decide +kernel
theorem dX1_copyFrom_157 : decode cX1_copyFrom 157 = .ok (.aload_n 0, 1) := by decide +kernel
theorem dX1_copyFrom_158 : decode cX1_copyFrom 158 = .ok (.aload_n 1, 1) := by decide +kernel
theorem dX1_copyFrom_159 : decode cX1_copyFrom 159 = .ok (.getfield 67, 3) := by decide +kernel
theorem dX1_copyFrom_162 : decode cX1_copyFrom 162 = .ok (.putfield 67, 3) := by decide +kernel
theorem dX1_copyFrom_165 : decode cX1_copyFrom 165 = .ok (.return_, 1) := by decide +kernel
theorem dX1_hasAsset_0 : decode cX1_hasAsset 0 = .ok (.iload_n 1, 1) := by decide +kernel
theorem dX1_hasAsset_1 : decode cX1_hasAsset 1 = .ok (.ifCond .lt 15, 3) := by decide +kernel
theorem dX1_hasAsset_4 : decode cX1_hasAsset 4 = .ok (.iload_n 1, 1) := by decide +kernel
theorem dX1_hasAsset_5 : decode cX1_hasAsset 5 = .ok (.aload_n 0, 1) := by decide +kernel
theorem dX1_hasAsset_6 : decode cX1_hasAsset 6 = .ok (.getfield 39, 3) := by decide +kernel
theorem dX1_hasAsset_9 : decode cX1_hasAsset 9 = .ok (.if_icmp .ge 7, 3) := by decide +kernel
theorem dX1_hasAsset_12 : decode cX1_hasAsset 12 = .ok (.iconst 1, 1) := by decide +kernel
theorem dX1_hasAsset_13 : decode cX1_hasAsset 13 = .ok (.goto 4, 3) := by decide +kernel
theorem dX1_hasAsset_16 : decode cX1_hasAsset 16 = .ok (.iconst 0, 1) := by decide +kernel
theorem dX1_hasAsset_17 : decode cX1_hasAsset 17 = .ok (.ireturn, 1) := by decide +kernel
theorem dX1_hasHunter_0 : decode cX1_hasHunter 0 = .ok (.iload_n 1, 1) := by decide +kernel
theorem dX1_hasHunter_1 : decode cX1_hasHunter 1 = .ok (.ifCond .lt 15, 3) := by decide +kernel
theorem dX1_hasHunter_4 : decode cX1_hasHunter 4 = .ok (.iload_n 1, 1) := by decide +kernel
theorem dX1_hasHunter_5 : decode cX1_hasHunter 5 = .ok (.aload_n 0, 1) := by decide +kernel
theorem dX1_hasHunter_6 : decode cX1_hasHunter 6 = .ok (.getfield 46, 3) := by decide +kernel
theorem dX1_hasHunter_9 : decode cX1_hasHunter 9 = .ok (.if_icmp .ge 7, 3) := by decide +kernel
theorem dX1_hasHunter_12 : decode cX1_hasHunter 12 = .ok (.iconst 1, 1) := by decide +kernel
theorem dX1_hasHunter_13 : decode cX1_hasHunter 13 = .ok (.goto 4, 3) := by decide +kernel
theorem dX1_hasHunter_16 : decode cX1_hasHunter 16 = .ok (.iconst 0, 1) := by decide +kernel
theorem dX1_hasHunter_17 : decode cX1_hasHunter 17 = .ok (.ireturn, 1) := by decide +kernel
theorem dX1_hasReport_0 : decode cX1_hasReport 0 = .ok (.iload_n 1, 1) := by decide +kernel
theorem dX1_hasReport_1 : decode cX1_hasReport 1 = .ok (.ifCond .lt 15, 3) := by decide +kernel
theorem dX1_hasReport_4 : decode cX1_hasReport 4 = .ok (.iload_n 1, 1) := by decide +kernel
theorem dX1_hasReport_5 : decode cX1_hasReport 5 = .ok (.aload_n 0, 1) := by decide +kernel
theorem dX1_hasReport_6 : decode cX1_hasReport 6 = .ok (.getfield 52, 3) := by decide +kernel
theorem dX1_hasReport_9 : decode cX1_hasReport 9 = .ok (.if_icmp .ge 7, 3) := by decide +kernel
theorem dX1_hasReport_12 : decode cX1_hasReport 12 = .ok (.iconst 1, 1) := by decide +kernel
theorem dX1_hasReport_13 : decode cX1_hasReport 13 = .ok (.goto 4, 3) := by decide +kernel
theorem dX1_hasReport_16 : decode cX1_hasReport 16 = .ok (.iconst 0, 1) := by decide +kernel
theorem dX1_hasReport_17 : decode cX1_hasReport 17 = .ok (.ireturn, 1) := by decide +kernel
theorem dX1_openAsset_0 : decode cX1_openAsset 0 = .ok (.aload_n 0, 1) := by decide +kernel
theorem dX1_openAsset_1 : decode cX1_openAsset 1 = .ok (.getfield 11, 3) := by decide +kernel
theorem dX1_openAsset_4 : decode cX1_openAsset 4 = .ok (.aload_n 0, 1) := by decide +kernel
theorem dX1_openAsset_5 : decode cX1_openAsset 5 = .ok (.getfield 39, 3) := by decide +kernel
theorem dX1_openAsset_8 : decode cX1_openAsset 8 = .ok (.aaload, 1) := by decide +kernel
theorem dX1_openAsset_9 : decode cX1_openAsset 9 = .ok (.astore_n 3, 1) := by decide +kernel
theorem dX1_openAsset_10 : decode cX1_openAsset 10 = .ok (.aload_n 3, 1) := by decide +kernel
theorem dX1_openAsset_11 : decode cX1_openAsset 11 = .ok (.iload_n 1, 1) := by decide +kernel
theorem dX1_openAsset_12 : decode cX1_openAsset 12 = .ok (.putfield 70, 3) := by decide +kernel
theorem dX1_openAsset_15 : decode cX1_openAsset 15 = .ok (.aload_n 3, 1) := by decide +kernel
theorem dX1_openAsset_16 : decode cX1_openAsset 16 = .ok (.iload_n 2, 1) := by decide +kernel
theorem dX1_openAsset_17 : decode cX1_openAsset 17 = .ok (.putfield 73, 3) := by decide +kernel
theorem dX1_openAsset_20 : decode cX1_openAsset 20 = .ok (.aload_n 3, 1) := by decide +kernel
theorem dX1_openAsset_21 : decode cX1_openAsset 21 = .ok (.iload_n 2, 1) := by decide +kernel
theorem dX1_openAsset_22 : decode cX1_openAsset 22 = .ok (.putfield 76, 3) := by decide +kernel
theorem dX1_openAsset_25 : decode cX1_openAsset 25 = .ok (.aload_n 0, 1) := by decide +kernel
theorem dX1_openAsset_26 : decode cX1_openAsset 26 = .ok (.dup, 1) := by decide +kernel
theorem dX1_openAsset_27 : decode cX1_openAsset 27 = .ok (.getfield 39, 3) := by decide +kernel
theorem dX1_openAsset_30 : decode cX1_openAsset 30 = .ok (.iconst 1, 1) := by decide +kernel
theorem dX1_openAsset_31 : decode cX1_openAsset 31 = .ok (.iadd, 1) := by decide +kernel
theorem dX1_openAsset_32 : decode cX1_openAsset 32 = .ok (.putfield 39, 3) := by decide +kernel
theorem dX1_openAsset_35 : decode cX1_openAsset 35 = .ok (.aload_n 0, 1) := by decide +kernel
theorem dX1_openAsset_36 : decode cX1_openAsset 36 = .ok (.getfield 39, 3) := by decide +kernel
theorem dX1_openAsset_39 : decode cX1_openAsset 39 = .ok (.iconst 1, 1) := by decide +kernel
theorem dX1_openAsset_40 : decode cX1_openAsset 40 = .ok (.isub, 1) := by decide +kernel
theorem dX1_openAsset_41 : decode cX1_openAsset 41 = .ok (.ireturn, 1) := by decide +kernel
theorem dX1_openHunter_0 : decode cX1_openHunter 0 = .ok (.aload_n 0, 1) := by decide +kernel
theorem dX1_openHunter_1 : decode cX1_openHunter 1 = .ok (.getfield 20, 3) := by decide +kernel
theorem dX1_openHunter_4 : decode cX1_openHunter 4 = .ok (.aload_n 0, 1) := by decide +kernel
theorem dX1_openHunter_5 : decode cX1_openHunter 5 = .ok (.getfield 46, 3) := by decide +kernel
theorem dX1_openHunter_8 : decode cX1_openHunter 8 = .ok (.aaload, 1) := by decide +kernel
theorem dX1_openHunter_9 : decode cX1_openHunter 9 = .ok (.invokevirtual 79, 3) := by decide +kernel
theorem dX1_openHunter_12 : decode cX1_openHunter 12 = .ok (.aload_n 0, 1) := by decide +kernel
theorem dX1_openHunter_13 : decode cX1_openHunter 13 = .ok (.dup, 1) := by decide +kernel
theorem dX1_openHunter_14 : decode cX1_openHunter 14 = .ok (.getfield 46, 3) := by decide +kernel
theorem dX1_openHunter_17 : decode cX1_openHunter 17 = .ok (.iconst 1, 1) := by decide +kernel
theorem dX1_openHunter_18 : decode cX1_openHunter 18 = .ok (.iadd, 1) := by decide +kernel
theorem dX1_openHunter_19 : decode cX1_openHunter 19 = .ok (.putfield 46, 3) := by decide +kernel
theorem dX1_openHunter_22 : decode cX1_openHunter 22 = .ok (.aload_n 0, 1) := by decide +kernel
theorem dX1_openHunter_23 : decode cX1_openHunter 23 = .ok (.getfield 46, 3) := by decide +kernel
theorem dX1_openHunter_26 : decode cX1_openHunter 26 = .ok (.iconst 1, 1) := by decide +kernel
theorem dX1_openHunter_27 : decode cX1_openHunter 27 = .ok (.isub, 1) := by decide +kernel
theorem dX1_openHunter_28 : decode cX1_openHunter 28 = .ok (.ireturn, 1) := by decide +kernel
theorem dX1_openReport_0 : decode cX1_openReport 0 = .ok (.aload_n 0, 1) := by decide +kernel
theorem dX1_openReport_1 : decode cX1_openReport 1 = .ok (.getfield 27, 3) := by decide +kernel
theorem dX1_openReport_4 : decode cX1_openReport 4 = .ok (.aload_n 0, 1) := by decide +kernel
theorem dX1_openReport_5 : decode cX1_openReport 5 = .ok (.getfield 52, 3) := by decide +kernel
theorem dX1_openReport_8 : decode cX1_openReport 8 = .ok (.aaload, 1) := by decide +kernel
theorem dX1_openReport_9 : decode cX1_openReport 9 = .ok (.iload_n 1, 1) := by decide +kernel
theorem dX1_openReport_10 : decode cX1_openReport 10 = .ok (.iload_n 2, 1) := by decide +kernel
theorem dX1_openReport_11 : decode cX1_openReport 11 = .ok (.iload_n 3, 1) := by decide +kernel
theorem dX1_openReport_12 : decode cX1_openReport 12 = .ok (.invokevirtual 82, 3) := by decide +kernel
theorem dX1_openReport_15 : decode cX1_openReport 15 = .ok (.aload_n 0, 1) := by decide +kernel
theorem dX1_openReport_16 : decode cX1_openReport 16 = .ok (.dup, 1) := by decide +kernel
theorem dX1_openReport_17 : decode cX1_openReport 17 = .ok (.getfield 52, 3) := by decide +kernel
theorem dX1_openReport_20 : decode cX1_openReport 20 = .ok (.iconst 1, 1) := by decide +kernel
theorem dX1_openReport_21 : decode cX1_openReport 21 = .ok (.iadd, 1) := by decide +kernel
theorem dX1_openReport_22 : decode cX1_openReport 22 = .ok (.putfield 52, 3) := by decide +kernel
theorem dX1_openReport_25 : decode cX1_openReport 25 = .ok (.aload_n 0, 1) := by decide +kernel
theorem dX1_openReport_26 : decode cX1_openReport 26 = .ok (.getfield 52, 3) := by decide +kernel
theorem dX1_openReport_29 : decode cX1_openReport 29 = .ok (.iconst 1, 1) := by decide +kernel
theorem dX1_openReport_30 : decode cX1_openReport 30 = .ok (.isub, 1) := by decide +kernel
theorem dX1_openReport_31 : decode cX1_openReport 31 = .ok (.ireturn, 1) := by decide +kernel
theorem dX1_foldTarget_0 : decode cX1_foldTarget 0 = .ok (.aload_n 0, 1) := by decide +kernel
theorem dX1_foldTarget_1 : decode cX1_foldTarget 1 = .ok (.getfield 27, 3) := by decide +kernel
theorem dX1_foldTarget_4 : decode cX1_foldTarget 4 = .ok (.iload_n 1, 1) := by decide +kernel
theorem dX1_foldTarget_5 : decode cX1_foldTarget 5 = .ok (.aaload, 1) := by decide +kernel
theorem dX1_foldTarget_6 : decode cX1_foldTarget 6 = .ok (.astore_n 2, 1) := by decide +kernel
theorem dX1_foldTarget_7 : decode cX1_foldTarget 7 = .ok (.aload_n 2, 1) := by decide +kernel
theorem dX1_foldTarget_8 : decode cX1_foldTarget 8 = .ok (.getfield 86, 3) := by decide +kernel
theorem dX1_foldTarget_11 : decode cX1_foldTarget 11 = .ok (.ifCond .eq 7, 3) := by decide +kernel
theorem dX1_foldTarget_14 : decode cX1_foldTarget 14 = .ok (.sipush (-10009), 3) := by decide +kernel
theorem dX1_foldTarget_17 : decode cX1_foldTarget 17 = .ok (.ireturn, 1) := by decide +kernel
theorem dX1_foldTarget_18 : decode cX1_foldTarget 18 = .ok (.iconst 0, 1) := by decide +kernel
theorem dX1_foldTarget_19 : decode cX1_foldTarget 19 = .ok (.istore_n 3, 1) := by decide +kernel
theorem dX1_foldTarget_20 : decode cX1_foldTarget 20 = .ok (.iload_n 3, 1) := by decide +kernel
theorem dX1_foldTarget_21 : decode cX1_foldTarget 21 = .ok (.iload_n 1, 1) := by decide +kernel
theorem dX1_foldTarget_22 : decode cX1_foldTarget 22 = .ok (.if_icmp .ge 58, 3) := by decide +kernel
theorem dX1_foldTarget_25 : decode cX1_foldTarget 25 = .ok (.aload_n 0, 1) := by decide +kernel
theorem dX1_foldTarget_26 : decode cX1_foldTarget 26 = .ok (.getfield 27, 3) := by decide +kernel
theorem dX1_foldTarget_29 : decode cX1_foldTarget 29 = .ok (.iload_n 3, 1) := by decide +kernel
theorem dX1_foldTarget_30 : decode cX1_foldTarget 30 = .ok (.aaload, 1) := by decide +kernel
theorem dX1_foldTarget_31 : decode cX1_foldTarget 31 = .ok (.astore 4, 2) := by decide +kernel
theorem dX1_foldTarget_33 : decode cX1_foldTarget 33 = .ok (.aload 4, 2) := by decide +kernel
theorem dX1_foldTarget_35 : decode cX1_foldTarget 35 = .ok (.getfield 86, 3) := by decide +kernel
theorem dX1_foldTarget_38 : decode cX1_foldTarget 38 = .ok (.iconst 4, 1) := by decide +kernel
theorem dX1_foldTarget_39 : decode cX1_foldTarget 39 = .ok (.if_icmp .eq 16, 3) := by decide +kernel
theorem dX1_foldTarget_42 : decode cX1_foldTarget 42 = .ok (.aload 4, 2) := by decide +kernel
theorem dX1_foldTarget_44 : decode cX1_foldTarget 44 = .ok (.getfield 86, 3) := by decide +kernel
theorem dX1_foldTarget_47 : decode cX1_foldTarget 47 = .ok (.iconst 5, 1) := by decide +kernel
theorem dX1_foldTarget_48 : decode cX1_foldTarget 48 = .ok (.if_icmp .eq 7, 3) := by decide +kernel
theorem dX1_foldTarget_51 : decode cX1_foldTarget 51 = .ok (.iconst 1, 1) := by decide +kernel
theorem dX1_foldTarget_52 : decode cX1_foldTarget 52 = .ok (.goto 4, 3) := by decide +kernel
theorem dX1_foldTarget_55 : decode cX1_foldTarget 55 = .ok (.iconst 0, 1) := by decide +kernel
theorem dX1_foldTarget_56 : decode cX1_foldTarget 56 = .ok (.istore 5, 2) := by decide +kernel
theorem dX1_foldTarget_58 : decode cX1_foldTarget 58 = .ok (.iload 5, 2) := by decide +kernel
theorem dX1_foldTarget_60 : decode cX1_foldTarget 60 = .ok (.ifCond .eq 14, 3) := by decide +kernel
theorem dX1_foldTarget_63 : decode cX1_foldTarget 63 = .ok (.aload 4, 2) := by decide +kernel
theorem dX1_foldTarget_65 : decode cX1_foldTarget 65 = .ok (.aload_n 2, 1) := by decide +kernel
theorem dX1_foldTarget_66 : decode cX1_foldTarget 66 = .ok (.invokevirtual 89, 3) := by decide +kernel
theorem dX1_foldTarget_69 : decode cX1_foldTarget 69 = .ok (.ifCond .eq 5, 3) := by decide +kernel
theorem dX1_foldTarget_72 : decode cX1_foldTarget 72 = .ok (.iload_n 3, 1) := by decide +kernel
theorem dX1_foldTarget_73 : decode cX1_foldTarget 73 = .ok (.ireturn, 1) := by decide +kernel
theorem dX1_foldTarget_74 : decode cX1_foldTarget 74 = .ok (.iinc 3 1, 3) := by decide +kernel
theorem dX1_foldTarget_77 : decode cX1_foldTarget 77 = .ok (.goto (-57), 3) := by decide +kernel
theorem dX1_foldTarget_80 : decode cX1_foldTarget 80 = .ok (.sipush (-10009), 3) := by decide +kernel
theorem dX1_foldTarget_83 : decode cX1_foldTarget 83 = .ok (.ireturn, 1) := by decide +kernel
theorem dX1_releaseFolded_0 : decode cX1_releaseFolded 0 = .ok (.iconst 0, 1) := by decide +kernel
theorem dX1_releaseFolded_1 : decode cX1_releaseFolded 1 = .ok (.istore_n 2, 1) := by decide +kernel
theorem dX1_releaseFolded_2 : decode cX1_releaseFolded 2 = .ok (.iconst 0, 1) := by decide +kernel
theorem dX1_releaseFolded_3 : decode cX1_releaseFolded 3 = .ok (.istore_n 3, 1) := by decide +kernel
theorem dX1_releaseFolded_4 : decode cX1_releaseFolded 4 = .ok (.iload_n 3, 1) := by decide +kernel
theorem dX1_releaseFolded_5 : decode cX1_releaseFolded 5 = .ok (.aload_n 0, 1) := by decide +kernel
theorem dX1_releaseFolded_6 : decode cX1_releaseFolded 6 = .ok (.getfield 52, 3) := by decide +kernel
theorem dX1_releaseFolded_9 : decode cX1_releaseFolded 9 = .ok (.if_icmp .ge 34, 3) := by decide +kernel
theorem dX1_releaseFolded_12 : decode cX1_releaseFolded 12 = .ok (.aload_n 0, 1) := by decide +kernel
theorem dX1_releaseFolded_13 : decode cX1_releaseFolded 13 = .ok (.getfield 27, 3) := by decide +kernel
theorem dX1_releaseFolded_16 : decode cX1_releaseFolded 16 = .ok (.iload_n 3, 1) := by decide +kernel
theorem dX1_releaseFolded_17 : decode cX1_releaseFolded 17 = .ok (.aaload, 1) := by decide +kernel
theorem dX1_releaseFolded_18 : decode cX1_releaseFolded 18 = .ok (.getfield 93, 3) := by decide +kernel
theorem dX1_releaseFolded_21 : decode cX1_releaseFolded 21 = .ok (.iload_n 1, 1) := by decide +kernel
theorem dX1_releaseFolded_22 : decode cX1_releaseFolded 22 = .ok (.if_icmp .ne 15, 3) := by decide +kernel
theorem dX1_releaseFolded_25 : decode cX1_releaseFolded 25 = .ok (.aload_n 0, 1) := by decide +kernel
theorem dX1_releaseFolded_26 : decode cX1_releaseFolded 26 = .ok (.getfield 27, 3) := by decide +kernel
theorem dX1_releaseFolded_29 : decode cX1_releaseFolded 29 = .ok (.iload_n 3, 1) := by decide +kernel
theorem dX1_releaseFolded_30 : decode cX1_releaseFolded 30 = .ok (.aaload, 1) := by decide +kernel
theorem dX1_releaseFolded_31 : decode cX1_releaseFolded 31 = .ok (.invokevirtual 96, 3) := by decide +kernel
theorem dX1_releaseFolded_34 : decode cX1_releaseFolded 34 = .ok (.iinc 2 1, 3) := by decide +kernel
theorem dX1_releaseFolded_37 : decode cX1_releaseFolded 37 = .ok (.iinc 3 1, 3) := by decide +kernel
theorem dX1_releaseFolded_40 : decode cX1_releaseFolded 40 = .ok (.goto (-36), 3) := by decide +kernel
theorem dX1_releaseFolded_43 : decode cX1_releaseFolded 43 = .ok (.iload_n 2, 1) := by decide +kernel
theorem dX1_releaseFolded_44 : decode cX1_releaseFolded 44 = .ok (.ireturn, 1) := by decide +kernel
theorem dX1_priceWith_0 : decode cX1_priceWith 0 = .ok (.iload_n 2, 1) := by decide +kernel
theorem dX1_priceWith_1 : decode cX1_priceWith 1 = .ok (.iload_n 2, 1) := by decide +kernel
theorem dX1_priceWith_2 : decode cX1_priceWith 2 = .ok (.imul, 1) := by decide +kernel
theorem dX1_priceWith_3 : decode cX1_priceWith 3 = .ok (.aload_n 0, 1) := by decide +kernel
theorem dX1_priceWith_4 : decode cX1_priceWith 4 = .ok (.getfield 11, 3) := by decide +kernel
theorem dX1_priceWith_7 : decode cX1_priceWith 7 = .ok (.aload_n 1, 1) := by decide +kernel
theorem dX1_priceWith_8 : decode cX1_priceWith 8 = .ok (.getfield 99, 3) := by decide +kernel
theorem dX1_priceWith_11 : decode cX1_priceWith 11 = .ok (.aaload, 1) := by decide +kernel
theorem dX1_priceWith_12 : decode cX1_priceWith 12 = .ok (.getfield 70, 3) := by decide +kernel
theorem dX1_priceWith_15 : decode cX1_priceWith 15 = .ok (.imul, 1) := by decide +kernel
theorem dX1_priceWith_16 : decode cX1_priceWith 16 = .ok (.bipush 10, 2) := by decide +kernel
theorem dX1_priceWith_18 : decode cX1_priceWith 18 = .ok (.imul, 1) := by decide +kernel
theorem dX1_priceWith_19 : decode cX1_priceWith 19 = .ok (.aload_n 0, 1) := by decide +kernel
theorem dX1_priceWith_20 : decode cX1_priceWith 20 = .ok (.getfield 32, 3) := by decide +kernel
theorem dX1_priceWith_23 : decode cX1_priceWith 23 = .ok (.imul, 1) := by decide +kernel
theorem dX1_priceWith_24 : decode cX1_priceWith 24 = .ok (.bipush 100, 2) := by decide +kernel
theorem dX1_priceWith_26 : decode cX1_priceWith 26 = .ok (.idiv, 1) := by decide +kernel
theorem dX1_priceWith_27 : decode cX1_priceWith 27 = .ok (.ireturn, 1) := by decide +kernel
theorem dX1_priceOf_0 : decode cX1_priceOf 0 = .ok (.aload_n 0, 1) := by decide +kernel
theorem dX1_priceOf_1 : decode cX1_priceOf 1 = .ok (.aload_n 1, 1) := by decide +kernel
theorem dX1_priceOf_2 : decode cX1_priceOf 2 = .ok (.aload_n 1, 1) := by decide +kernel
theorem dX1_priceOf_3 : decode cX1_priceOf 3 = .ok (.getfield 102, 3) := by decide +kernel
theorem dX1_priceOf_6 : decode cX1_priceOf 6 = .ok (.invokevirtual 105, 3) := by decide +kernel
theorem dX1_priceOf_9 : decode cX1_priceOf 9 = .ok (.ireturn, 1) := by decide +kernel
theorem dX1_closeAppeal_0 : decode cX1_closeAppeal 0 = .ok (.aload_n 1, 1) := by decide +kernel
theorem dX1_closeAppeal_1 : decode cX1_closeAppeal 1 = .ok (.getfield 102, 3) := by decide +kernel
theorem dX1_closeAppeal_4 : decode cX1_closeAppeal 4 = .ok (.istore_n 3, 1) := by decide +kernel
theorem dX1_closeAppeal_5 : decode cX1_closeAppeal 5 = .ok (.aload_n 1, 1) := by decide +kernel
theorem dX1_closeAppeal_6 : decode cX1_closeAppeal 6 = .ok (.iconst 2, 1) := by decide +kernel
theorem dX1_closeAppeal_7 : decode cX1_closeAppeal 7 = .ok (.putfield 109, 3) := by decide +kernel
theorem dX1_closeAppeal_10 : decode cX1_closeAppeal 10 = .ok (.aload_n 1, 1) := by decide +kernel
theorem dX1_closeAppeal_11 : decode cX1_closeAppeal 11 = .ok (.iload_n 2, 1) := by decide +kernel
theorem dX1_closeAppeal_12 : decode cX1_closeAppeal 12 = .ok (.putfield 102, 3) := by decide +kernel
theorem dX1_closeAppeal_15 : decode cX1_closeAppeal 15 = .ok (.iload_n 2, 1) := by decide +kernel
theorem dX1_closeAppeal_16 : decode cX1_closeAppeal 16 = .ok (.aload_n 1, 1) := by decide +kernel
theorem dX1_closeAppeal_17 : decode cX1_closeAppeal 17 = .ok (.getfield 112, 3) := by decide +kernel
theorem dX1_closeAppeal_20 : decode cX1_closeAppeal 20 = .ok (.if_icmp .ne 23, 3) := by decide +kernel
theorem dX1_closeAppeal_23 : decode cX1_closeAppeal 23 = .ok (.aload_n 0, 1) := by decide +kernel
theorem dX1_closeAppeal_24 : decode cX1_closeAppeal 24 = .ok (.getfield 20, 3) := by decide +kernel
theorem dX1_closeAppeal_27 : decode cX1_closeAppeal 27 = .ok (.aload_n 1, 1) := by decide +kernel
theorem dX1_closeAppeal_28 : decode cX1_closeAppeal 28 = .ok (.getfield 115, 3) := by decide +kernel
theorem dX1_closeAppeal_31 : decode cX1_closeAppeal 31 = .ok (.aaload, 1) := by decide +kernel
theorem dX1_closeAppeal_32 : decode cX1_closeAppeal 32 = .ok (.dup, 1) := by decide +kernel
theorem dX1_closeAppeal_33 : decode cX1_closeAppeal 33 = .ok (.getfield 118, 3) := by decide +kernel
theorem dX1_closeAppeal_36 : decode cX1_closeAppeal 36 = .ok (.iconst 1, 1) := by decide +kernel
theorem dX1_closeAppeal_37 : decode cX1_closeAppeal 37 = .ok (.iadd, 1) := by decide +kernel
theorem dX1_closeAppeal_38 : decode cX1_closeAppeal 38 = .ok (.putfield 118, 3) := by decide +kernel
theorem dX1_closeAppeal_41 : decode cX1_closeAppeal 41 = .ok (.iconst 2, 1) := by decide +kernel
theorem dX1_closeAppeal_42 : decode cX1_closeAppeal 42 = .ok (.ireturn, 1) := by decide +kernel
theorem dX1_closeAppeal_43 : decode cX1_closeAppeal 43 = .ok (.iload_n 2, 1) := by decide +kernel
theorem dX1_closeAppeal_44 : decode cX1_closeAppeal 44 = .ok (.iload_n 3, 1) := by decide +kernel
theorem dX1_closeAppeal_45 : decode cX1_closeAppeal 45 = .ok (.if_icmp .le 5, 3) := by decide +kernel
theorem dX1_closeAppeal_48 : decode cX1_closeAppeal 48 = .ok (.iconst 1, 1) := by decide +kernel
theorem dX1_closeAppeal_49 : decode cX1_closeAppeal 49 = .ok (.ireturn, 1) := by decide +kernel
theorem dX1_closeAppeal_50 : decode cX1_closeAppeal 50 = .ok (.aload_n 0, 1) := by decide +kernel
theorem dX1_closeAppeal_51 : decode cX1_closeAppeal 51 = .ok (.getfield 20, 3) := by decide +kernel
theorem dX1_closeAppeal_54 : decode cX1_closeAppeal 54 = .ok (.aload_n 1, 1) := by decide +kernel
theorem dX1_closeAppeal_55 : decode cX1_closeAppeal 55 = .ok (.getfield 115, 3) := by decide +kernel
theorem dX1_closeAppeal_58 : decode cX1_closeAppeal 58 = .ok (.aaload, 1) := by decide +kernel
theorem dX1_closeAppeal_59 : decode cX1_closeAppeal 59 = .ok (.dup, 1) := by decide +kernel
theorem dX1_closeAppeal_60 : decode cX1_closeAppeal 60 = .ok (.getfield 121, 3) := by decide +kernel
theorem dX1_closeAppeal_63 : decode cX1_closeAppeal 63 = .ok (.iconst 1, 1) := by decide +kernel
theorem dX1_closeAppeal_64 : decode cX1_closeAppeal 64 = .ok (.iadd, 1) := by decide +kernel
theorem dX1_closeAppeal_65 : decode cX1_closeAppeal 65 = .ok (.putfield 121, 3) := by decide +kernel
theorem dX1_closeAppeal_68 : decode cX1_closeAppeal 68 = .ok (.iconst 0, 1) := by decide +kernel
theorem dX1_closeAppeal_69 : decode cX1_closeAppeal 69 = .ok (.ireturn, 1) := by decide +kernel
theorem dX1_payOrWait_0 : decode cX1_payOrWait 0 = .ok (.aload_n 0, 1) := by decide +kernel
theorem dX1_payOrWait_1 : decode cX1_payOrWait 1 = .ok (.getfield 27, 3) := by decide +kernel
theorem dX1_payOrWait_4 : decode cX1_payOrWait 4 = .ok (.iload_n 1, 1) := by decide +kernel
theorem dX1_payOrWait_5 : decode cX1_payOrWait 5 = .ok (.aaload, 1) := by decide +kernel
theorem dX1_payOrWait_6 : decode cX1_payOrWait 6 = .ok (.astore_n 2, 1) := by decide +kernel
theorem dX1_payOrWait_7 : decode cX1_payOrWait 7 = .ok (.aload_n 0, 1) := by decide +kernel
theorem dX1_payOrWait_8 : decode cX1_payOrWait 8 = .ok (.getfield 11, 3) := by decide +kernel
theorem dX1_payOrWait_11 : decode cX1_payOrWait 11 = .ok (.aload_n 2, 1) := by decide +kernel
theorem dX1_payOrWait_12 : decode cX1_payOrWait 12 = .ok (.getfield 99, 3) := by decide +kernel
theorem dX1_payOrWait_15 : decode cX1_payOrWait 15 = .ok (.aaload, 1) := by decide +kernel
theorem dX1_payOrWait_16 : decode cX1_payOrWait 16 = .ok (.astore_n 3, 1) := by decide +kernel
theorem dX1_payOrWait_17 : decode cX1_payOrWait 17 = .ok (.aload_n 0, 1) := by decide +kernel
theorem dX1_payOrWait_18 : decode cX1_payOrWait 18 = .ok (.aload_n 2, 1) := by decide +kernel
theorem dX1_payOrWait_19 : decode cX1_payOrWait 19 = .ok (.invokevirtual 124, 3) := by decide +kernel
theorem dX1_payOrWait_22 : decode cX1_payOrWait 22 = .ok (.istore 4, 2) := by decide +kernel
theorem dX1_payOrWait_24 : decode cX1_payOrWait 24 = .ok (.iload 4, 2) := by decide +kernel
theorem dX1_payOrWait_26 : decode cX1_payOrWait 26 = .ok (.aload_n 3, 1) := by decide +kernel
theorem dX1_payOrWait_27 : decode cX1_payOrWait 27 = .ok (.getfield 76, 3) := by decide +kernel
theorem dX1_payOrWait_30 : decode cX1_payOrWait 30 = .ok (.aload_n 0, 1) := by decide +kernel
theorem dX1_payOrWait_31 : decode cX1_payOrWait 31 = .ok (.getfield 61, 3) := by decide +kernel
theorem dX1_payOrWait_34 : decode cX1_payOrWait 34 = .ok (.iadd, 1) := by decide +kernel
theorem dX1_payOrWait_35 : decode cX1_payOrWait 35 = .ok (.if_icmp .le 10, 3) := by decide +kernel
theorem dX1_payOrWait_38 : decode cX1_payOrWait 38 = .ok (.aload_n 2, 1) := by decide +kernel
theorem dX1_payOrWait_39 : decode cX1_payOrWait 39 = .ok (.iconst 2, 1) := by decide +kernel
theorem dX1_payOrWait_40 : decode cX1_payOrWait 40 = .ok (.putfield 86, 3) := by decide +kernel
theorem dX1_payOrWait_43 : decode cX1_payOrWait 43 = .ok (.iconst 0, 1) := by decide +kernel
theorem dX1_payOrWait_44 : decode cX1_payOrWait 44 = .ok (.ireturn, 1) := by decide +kernel
theorem dX1_payOrWait_45 : decode cX1_payOrWait 45 = .ok (.iload 4, 2) := by decide +kernel
theorem dX1_payOrWait_47 : decode cX1_payOrWait 47 = .ok (.aload_n 3, 1) := by decide +kernel
theorem dX1_payOrWait_48 : decode cX1_payOrWait 48 = .ok (.getfield 76, 3) := by decide +kernel
theorem dX1_payOrWait_51 : decode cX1_payOrWait 51 = .ok (.invokestatic 128, 3) := by decide +kernel
theorem dX1_payOrWait_54 : decode cX1_payOrWait 54 = .ok (.istore 5, 2) := by decide +kernel
theorem dX1_payOrWait_56 : decode cX1_payOrWait 56 = .ok (.aload_n 3, 1) := by decide +kernel
theorem dX1_payOrWait_57 : decode cX1_payOrWait 57 = .ok (.dup, 1) := by decide +kernel
theorem dX1_payOrWait_58 : decode cX1_payOrWait 58 = .ok (.getfield 76, 3) := by decide +kernel
theorem dX1_payOrWait_61 : decode cX1_payOrWait 61 = .ok (.iload 5, 2) := by decide +kernel
theorem dX1_payOrWait_63 : decode cX1_payOrWait 63 = .ok (.isub, 1) := by decide +kernel
theorem dX1_payOrWait_64 : decode cX1_payOrWait 64 = .ok (.putfield 76, 3) := by decide +kernel
theorem dX1_payOrWait_67 : decode cX1_payOrWait 67 = .ok (.aload_n 0, 1) := by decide +kernel
theorem dX1_payOrWait_68 : decode cX1_payOrWait 68 = .ok (.dup, 1) := by decide +kernel
theorem dX1_payOrWait_69 : decode cX1_payOrWait 69 = .ok (.getfield 61, 3) := by decide +kernel
theorem dX1_payOrWait_72 : decode cX1_payOrWait 72 = .ok (.iload 4, 2) := by decide +kernel
theorem dX1_payOrWait_74 : decode cX1_payOrWait 74 = .ok (.iload 5, 2) := by decide +kernel
theorem dX1_payOrWait_76 : decode cX1_payOrWait 76 = .ok (.isub, 1) := by decide +kernel
theorem dX1_payOrWait_77 : decode cX1_payOrWait 77 = .ok (.isub, 1) := by decide +kernel
theorem dX1_payOrWait_78 : decode cX1_payOrWait 78 = .ok (.putfield 61, 3) := by decide +kernel
theorem dX1_payOrWait_81 : decode cX1_payOrWait 81 = .ok (.aload_n 2, 1) := by decide +kernel
theorem dX1_payOrWait_82 : decode cX1_payOrWait 82 = .ok (.iconst 3, 1) := by decide +kernel
theorem dX1_payOrWait_83 : decode cX1_payOrWait 83 = .ok (.putfield 86, 3) := by decide +kernel
theorem dX1_payOrWait_86 : decode cX1_payOrWait 86 = .ok (.aload_n 2, 1) := by decide +kernel
theorem dX1_payOrWait_87 : decode cX1_payOrWait 87 = .ok (.iload 4, 2) := by decide +kernel
theorem dX1_payOrWait_89 : decode cX1_payOrWait 89 = .ok (.putfield 134, 3) := by decide +kernel
theorem dX1_payOrWait_92 : decode cX1_payOrWait 92 = .ok (.aload_n 0, 1) := by decide +kernel
theorem dX1_payOrWait_93 : decode cX1_payOrWait 93 = .ok (.dup, 1) := by decide +kernel
theorem dX1_payOrWait_94 : decode cX1_payOrWait 94 = .ok (.getfield 64, 3) := by decide +kernel
theorem dX1_payOrWait_97 : decode cX1_payOrWait 97 = .ok (.iload 4, 2) := by decide +kernel
theorem dX1_payOrWait_99 : decode cX1_payOrWait 99 = .ok (.iadd, 1) := by decide +kernel
theorem dX1_payOrWait_100 : decode cX1_payOrWait 100 = .ok (.putfield 64, 3) := by decide +kernel
theorem dX1_payOrWait_103 : decode cX1_payOrWait 103 = .ok (.aload_n 0, 1) := by decide +kernel
theorem dX1_payOrWait_104 : decode cX1_payOrWait 104 = .ok (.iload_n 1, 1) := by decide +kernel
theorem dX1_payOrWait_105 : decode cX1_payOrWait 105 = .ok (.iload 4, 2) := by decide +kernel
theorem dX1_payOrWait_107 : decode cX1_payOrWait 107 = .ok (.invokevirtual 137, 3) := by decide +kernel
theorem dX1_payOrWait_110 : decode cX1_payOrWait 110 = .ok (.iload 4, 2) := by decide +kernel
theorem dX1_payOrWait_112 : decode cX1_payOrWait 112 = .ok (.ireturn, 1) := by decide +kernel
theorem dX1_shareOut_0 : decode cX1_shareOut 0 = .ok (.iload_n 2, 1) := by decide +kernel
theorem dX1_shareOut_1 : decode cX1_shareOut 1 = .ok (.bipush 10, 2) := by decide +kernel
theorem dX1_shareOut_3 : decode cX1_shareOut 3 = .ok (.idiv, 1) := by decide +kernel
theorem dX1_shareOut_4 : decode cX1_shareOut 4 = .ok (.istore_n 3, 1) := by decide +kernel
theorem dX1_shareOut_5 : decode cX1_shareOut 5 = .ok (.iload_n 2, 1) := by decide +kernel
theorem dX1_shareOut_6 : decode cX1_shareOut 6 = .ok (.istore 4, 2) := by decide +kernel
theorem dX1_shareOut_8 : decode cX1_shareOut 8 = .ok (.iconst 0, 1) := by decide +kernel
theorem dX1_shareOut_9 : decode cX1_shareOut 9 = .ok (.istore 5, 2) := by decide +kernel
theorem dX1_shareOut_11 : decode cX1_shareOut 11 = .ok (.iconst 0, 1) := by decide +kernel
theorem dX1_shareOut_12 : decode cX1_shareOut 12 = .ok (.istore 6, 2) := by decide +kernel
theorem dX1_shareOut_14 : decode cX1_shareOut 14 = .ok (.iload 6, 2) := by decide +kernel
theorem dX1_shareOut_16 : decode cX1_shareOut 16 = .ok (.aload_n 0, 1) := by decide +kernel
theorem dX1_shareOut_17 : decode cX1_shareOut 17 = .ok (.getfield 52, 3) := by decide +kernel
theorem dX1_shareOut_20 : decode cX1_shareOut 20 = .ok (.if_icmp .ge 62, 3) := by decide +kernel
theorem dX1_shareOut_23 : decode cX1_shareOut 23 = .ok (.iload 5, 2) := by decide +kernel
theorem dX1_shareOut_25 : decode cX1_shareOut 25 = .ok (.iconst 3, 1) := by decide +kernel
theorem dX1_shareOut_26 : decode cX1_shareOut 26 = .ok (.if_icmp .ge 56, 3) := by decide +kernel
theorem dX1_shareOut_29 : decode cX1_shareOut 29 = .ok (.aload_n 0, 1) := by decide +kernel
theorem dX1_shareOut_30 : decode cX1_shareOut 30 = .ok (.getfield 27, 3) := by decide +kernel
theorem dX1_shareOut_33 : decode cX1_shareOut 33 = .ok (.iload 6, 2) := by decide +kernel
theorem dX1_shareOut_35 : decode cX1_shareOut 35 = .ok (.aaload, 1) := by decide +kernel
theorem dX1_shareOut_36 : decode cX1_shareOut 36 = .ok (.getfield 93, 3) := by decide +kernel
theorem dX1_shareOut_39 : decode cX1_shareOut 39 = .ok (.iload_n 1, 1) := by decide +kernel
theorem dX1_shareOut_40 : decode cX1_shareOut 40 = .ok (.if_icmp .ne 36, 3) := by decide +kernel
theorem dX1_shareOut_43 : decode cX1_shareOut 43 = .ok (.aload_n 0, 1) := by decide +kernel
theorem dX1_shareOut_44 : decode cX1_shareOut 44 = .ok (.getfield 20, 3) := by decide +kernel
theorem dX1_shareOut_47 : decode cX1_shareOut 47 = .ok (.aload_n 0, 1) := by decide +kernel
theorem dX1_shareOut_48 : decode cX1_shareOut 48 = .ok (.getfield 27, 3) := by decide +kernel
theorem dX1_shareOut_51 : decode cX1_shareOut 51 = .ok (.iload 6, 2) := by decide +kernel
theorem dX1_shareOut_53 : decode cX1_shareOut 53 = .ok (.aaload, 1) := by decide +kernel
theorem dX1_shareOut_54 : decode cX1_shareOut 54 = .ok (.getfield 115, 3) := by decide +kernel
theorem dX1_shareOut_57 : decode cX1_shareOut 57 = .ok (.aaload, 1) := by decide +kernel
theorem dX1_shareOut_58 : decode cX1_shareOut 58 = .ok (.dup, 1) := by decide +kernel
theorem dX1_shareOut_59 : decode cX1_shareOut 59 = .ok (.getfield 141, 3) := by decide +kernel
theorem dX1_shareOut_62 : decode cX1_shareOut 62 = .ok (.iload_n 3, 1) := by decide +kernel
theorem dX1_shareOut_63 : decode cX1_shareOut 63 = .ok (.iadd, 1) := by decide +kernel
theorem dX1_shareOut_64 : decode cX1_shareOut 64 = .ok (.putfield 141, 3) := by decide +kernel
theorem dX1_shareOut_67 : decode cX1_shareOut 67 = .ok (.iload 4, 2) := by decide +kernel
theorem dX1_shareOut_69 : decode cX1_shareOut 69 = .ok (.iload_n 3, 1) := by decide +kernel
theorem dX1_shareOut_70 : decode cX1_shareOut 70 = .ok (.isub, 1) := by decide +kernel
theorem dX1_shareOut_71 : decode cX1_shareOut 71 = .ok (.istore 4, 2) := by decide +kernel
theorem dX1_shareOut_73 : decode cX1_shareOut 73 = .ok (.iinc 5 1, 3) := by decide +kernel
theorem dX1_shareOut_76 : decode cX1_shareOut 76 = .ok (.iinc 6 1, 3) := by decide +kernel
theorem dX1_shareOut_79 : decode cX1_shareOut 79 = .ok (.goto (-65), 3) := by decide +kernel
theorem dX1_shareOut_82 : decode cX1_shareOut 82 = .ok (.aload_n 0, 1) := by decide +kernel
theorem dX1_shareOut_83 : decode cX1_shareOut 83 = .ok (.getfield 20, 3) := by decide +kernel
theorem dX1_shareOut_86 : decode cX1_shareOut 86 = .ok (.aload_n 0, 1) := by decide +kernel
theorem dX1_shareOut_87 : decode cX1_shareOut 87 = .ok (.getfield 27, 3) := by decide +kernel
theorem dX1_shareOut_90 : decode cX1_shareOut 90 = .ok (.iload_n 1, 1) := by decide +kernel
theorem dX1_shareOut_91 : decode cX1_shareOut 91 = .ok (.aaload, 1) := by decide +kernel
theorem dX1_shareOut_92 : decode cX1_shareOut 92 = .ok (.getfield 115, 3) := by decide +kernel
theorem dX1_shareOut_95 : decode cX1_shareOut 95 = .ok (.aaload, 1) := by decide +kernel
theorem dX1_shareOut_96 : decode cX1_shareOut 96 = .ok (.dup, 1) := by decide +kernel
theorem dX1_shareOut_97 : decode cX1_shareOut 97 = .ok (.getfield 141, 3) := by decide +kernel
theorem dX1_shareOut_100 : decode cX1_shareOut 100 = .ok (.iload 4, 2) := by decide +kernel
theorem dX1_shareOut_102 : decode cX1_shareOut 102 = .ok (.iadd, 1) := by decide +kernel
theorem dX1_shareOut_103 : decode cX1_shareOut 103 = .ok (.putfield 141, 3) := by decide +kernel
theorem dX1_shareOut_106 : decode cX1_shareOut 106 = .ok (.return_, 1) := by decide +kernel
theorem dX1_beginQuarter_0 : decode cX1_beginQuarter 0 = .ok (.iconst 0, 1) := by decide +kernel
theorem dX1_beginQuarter_1 : decode cX1_beginQuarter 1 = .ok (.istore_n 1, 1) := by decide +kernel
theorem dX1_beginQuarter_2 : decode cX1_beginQuarter 2 = .ok (.iload_n 1, 1) := by decide +kernel
theorem dX1_beginQuarter_3 : decode cX1_beginQuarter 3 = .ok (.aload_n 0, 1) := by decide +kernel
theorem dX1_beginQuarter_4 : decode cX1_beginQuarter 4 = .ok (.getfield 39, 3) := by decide +kernel
theorem dX1_beginQuarter_7 : decode cX1_beginQuarter 7 = .ok (.if_icmp .ge 53, 3) := by decide +kernel
theorem dX1_beginQuarter_10 : decode cX1_beginQuarter 10 = .ok (.aload_n 0, 1) := by decide +kernel
theorem dX1_beginQuarter_11 : decode cX1_beginQuarter 11 = .ok (.getfield 11, 3) := by decide +kernel
theorem dX1_beginQuarter_14 : decode cX1_beginQuarter 14 = .ok (.iload_n 1, 1) := by decide +kernel
theorem dX1_beginQuarter_15 : decode cX1_beginQuarter 15 = .ok (.aaload, 1) := by decide +kernel
theorem dX1_beginQuarter_16 : decode cX1_beginQuarter 16 = .ok (.astore_n 2, 1) := by decide +kernel
theorem dX1_beginQuarter_17 : decode cX1_beginQuarter 17 = .ok (.aload_n 2, 1) := by decide +kernel
theorem dX1_beginQuarter_18 : decode cX1_beginQuarter 18 = .ok (.getfield 76, 3) := by decide +kernel
theorem dX1_beginQuarter_21 : decode cX1_beginQuarter 21 = .ok (.aload_n 2, 1) := by decide +kernel
theorem dX1_beginQuarter_22 : decode cX1_beginQuarter 22 = .ok (.getfield 73, 3) := by decide +kernel
theorem dX1_beginQuarter_25 : decode cX1_beginQuarter 25 = .ok (.invokestatic 128, 3) := by decide +kernel
theorem dX1_beginQuarter_28 : decode cX1_beginQuarter 28 = .ok (.istore_n 3, 1) := by decide +kernel
theorem dX1_beginQuarter_29 : decode cX1_beginQuarter 29 = .ok (.aload_n 0, 1) := by decide +kernel
theorem dX1_beginQuarter_30 : decode cX1_beginQuarter 30 = .ok (.dup, 1) := by decide +kernel
theorem dX1_beginQuarter_31 : decode cX1_beginQuarter 31 = .ok (.getfield 61, 3) := by decide +kernel
theorem dX1_beginQuarter_34 : decode cX1_beginQuarter 34 = .ok (.aload_n 2, 1) := by decide +kernel
theorem dX1_beginQuarter_35 : decode cX1_beginQuarter 35 = .ok (.getfield 76, 3) := by decide +kernel
theorem dX1_beginQuarter_38 : decode cX1_beginQuarter 38 = .ok (.iload_n 3, 1) := by decide +kernel
theorem dX1_beginQuarter_39 : decode cX1_beginQuarter 39 = .ok (.isub, 1) := by decide +kernel
theorem dX1_beginQuarter_40 : decode cX1_beginQuarter 40 = .ok (.iadd, 1) := by decide +kernel
theorem dX1_beginQuarter_41 : decode cX1_beginQuarter 41 = .ok (.putfield 61, 3) := by decide +kernel
theorem dX1_beginQuarter_44 : decode cX1_beginQuarter 44 = .ok (.aload_n 2, 1) := by decide +kernel
theorem dX1_beginQuarter_45 : decode cX1_beginQuarter 45 = .ok (.iload_n 3, 1) := by decide +kernel
theorem dX1_beginQuarter_46 : decode cX1_beginQuarter 46 = .ok (.aload_n 2, 1) := by decide +kernel
theorem dX1_beginQuarter_47 : decode cX1_beginQuarter 47 = .ok (.getfield 73, 3) := by decide +kernel
theorem dX1_beginQuarter_50 : decode cX1_beginQuarter 50 = .ok (.iadd, 1) := by decide +kernel
theorem dX1_beginQuarter_51 : decode cX1_beginQuarter 51 = .ok (.putfield 76, 3) := by decide +kernel
theorem dX1_beginQuarter_54 : decode cX1_beginQuarter 54 = .ok (.iinc 1 1, 3) := by decide +kernel
theorem dX1_beginQuarter_57 : decode cX1_beginQuarter 57 = .ok (.goto (-55), 3) := by decide +kernel
theorem dX1_beginQuarter_60 : decode cX1_beginQuarter 60 = .ok (.iconst 0, 1) := by decide +kernel
theorem dX1_beginQuarter_61 : decode cX1_beginQuarter 61 = .ok (.istore_n 1, 1) := by decide +kernel
theorem dX1_beginQuarter_62 : decode cX1_beginQuarter 62 = .ok (.iconst 0, 1) := by decide +kernel
theorem dX1_beginQuarter_63 : decode cX1_beginQuarter 63 = .ok (.istore_n 2, 1) := by decide +kernel
theorem dX1_beginQuarter_64 : decode cX1_beginQuarter 64 = .ok (.iload_n 2, 1) := by decide +kernel
theorem dX1_beginQuarter_65 : decode cX1_beginQuarter 65 = .ok (.aload_n 0, 1) := by decide +kernel
theorem dX1_beginQuarter_66 : decode cX1_beginQuarter 66 = .ok (.getfield 52, 3) := by decide +kernel
theorem dX1_beginQuarter_69 : decode cX1_beginQuarter 69 = .ok (.if_icmp .ge 55, 3) := by decide +kernel
theorem dX1_beginQuarter_72 : decode cX1_beginQuarter 72 = .ok (.aload_n 0, 1) := by decide +kernel
theorem dX1_beginQuarter_73 : decode cX1_beginQuarter 73 = .ok (.getfield 27, 3) := by decide +kernel
theorem dX1_beginQuarter_76 : decode cX1_beginQuarter 76 = .ok (.iload_n 2, 1) := by decide +kernel
theorem dX1_beginQuarter_77 : decode cX1_beginQuarter 77 = .ok (.aaload, 1) := by decide +kernel
theorem dX1_beginQuarter_78 : decode cX1_beginQuarter 78 = .ok (.astore_n 3, 1) := by decide +kernel
theorem dX1_beginQuarter_79 : decode cX1_beginQuarter 79 = .ok (.aload_n 3, 1) := by decide +kernel
theorem dX1_beginQuarter_80 : decode cX1_beginQuarter 80 = .ok (.getfield 86, 3) := by decide +kernel
theorem dX1_beginQuarter_83 : decode cX1_beginQuarter 83 = .ok (.iconst 2, 1) := by decide +kernel
theorem dX1_beginQuarter_84 : decode cX1_beginQuarter 84 = .ok (.if_icmp .ne 15, 3) := by decide +kernel
theorem dX1_beginQuarter_87 : decode cX1_beginQuarter 87 = .ok (.aload_n 3, 1) := by decide +kernel
theorem dX1_beginQuarter_88 : decode cX1_beginQuarter 88 = .ok (.getfield 109, 3) := by decide +kernel
theorem dX1_beginQuarter_91 : decode cX1_beginQuarter 91 = .ok (.iconst 1, 1) := by decide +kernel
theorem dX1_beginQuarter_92 : decode cX1_beginQuarter 92 = .ok (.if_icmp .eq 7, 3) := by decide +kernel
theorem dX1_beginQuarter_95 : decode cX1_beginQuarter 95 = .ok (.iconst 1, 1) := by decide +kernel
theorem dX1_beginQuarter_96 : decode cX1_beginQuarter 96 = .ok (.goto 4, 3) := by decide +kernel
theorem dX1_beginQuarter_99 : decode cX1_beginQuarter 99 = .ok (.iconst 0, 1) := by decide +kernel
theorem dX1_beginQuarter_100 : decode cX1_beginQuarter 100 = .ok (.istore 4, 2) := by decide +kernel
theorem dX1_beginQuarter_102 : decode cX1_beginQuarter 102 = .ok (.iload 4, 2) := by decide +kernel
theorem dX1_beginQuarter_104 : decode cX1_beginQuarter 104 = .ok (.ifCond .eq 14, 3) := by decide +kernel
theorem dX1_beginQuarter_107 : decode cX1_beginQuarter 107 = .ok (.aload_n 0, 1) := by decide +kernel
theorem dX1_beginQuarter_108 : decode cX1_beginQuarter 108 = .ok (.iload_n 2, 1) := by decide +kernel
theorem dX1_beginQuarter_109 : decode cX1_beginQuarter 109 = .ok (.invokevirtual 144, 3) := by decide +kernel
theorem dX1_beginQuarter_112 : decode cX1_beginQuarter 112 = .ok (.ifCond .le 6, 3) := by decide +kernel
theorem dX1_beginQuarter_115 : decode cX1_beginQuarter 115 = .ok (.iinc 1 1, 3) := by decide +kernel
theorem dX1_beginQuarter_118 : decode cX1_beginQuarter 118 = .ok (.iinc 2 1, 3) := by decide +kernel
theorem dX1_beginQuarter_121 : decode cX1_beginQuarter 121 = .ok (.goto (-57), 3) := by decide +kernel
theorem dX1_beginQuarter_124 : decode cX1_beginQuarter 124 = .ok (.iload_n 1, 1) := by decide +kernel
theorem dX1_beginQuarter_125 : decode cX1_beginQuarter 125 = .ok (.ireturn, 1) := by decide +kernel
theorem dX1_isReportedBy_0 : decode cX1_isReportedBy 0 = .ok (.aload_n 0, 1) := by decide +kernel
theorem dX1_isReportedBy_1 : decode cX1_isReportedBy 1 = .ok (.getfield 27, 3) := by decide +kernel
theorem dX1_isReportedBy_4 : decode cX1_isReportedBy 4 = .ok (.iload_n 2, 1) := by decide +kernel
theorem dX1_isReportedBy_5 : decode cX1_isReportedBy 5 = .ok (.aaload, 1) := by decide +kernel
theorem dX1_isReportedBy_6 : decode cX1_isReportedBy 6 = .ok (.getfield 115, 3) := by decide +kernel
theorem dX1_isReportedBy_9 : decode cX1_isReportedBy 9 = .ok (.iload_n 1, 1) := by decide +kernel
theorem dX1_isReportedBy_10 : decode cX1_isReportedBy 10 = .ok (.if_icmp .ne 5, 3) := by decide +kernel
theorem dX1_isReportedBy_13 : decode cX1_isReportedBy 13 = .ok (.iconst 1, 1) := by decide +kernel
theorem dX1_isReportedBy_14 : decode cX1_isReportedBy 14 = .ok (.ireturn, 1) := by decide +kernel
theorem dX1_isReportedBy_15 : decode cX1_isReportedBy 15 = .ok (.iconst 0, 1) := by decide +kernel
theorem dX1_isReportedBy_16 : decode cX1_isReportedBy 16 = .ok (.istore_n 3, 1) := by decide +kernel
theorem dX1_isReportedBy_17 : decode cX1_isReportedBy 17 = .ok (.iload_n 3, 1) := by decide +kernel
theorem dX1_isReportedBy_18 : decode cX1_isReportedBy 18 = .ok (.aload_n 0, 1) := by decide +kernel
theorem dX1_isReportedBy_19 : decode cX1_isReportedBy 19 = .ok (.getfield 52, 3) := by decide +kernel
theorem dX1_isReportedBy_22 : decode cX1_isReportedBy 22 = .ok (.if_icmp .ge 37, 3) := by decide +kernel
theorem dX1_isReportedBy_25 : decode cX1_isReportedBy 25 = .ok (.aload_n 0, 1) := by decide +kernel
theorem dX1_isReportedBy_26 : decode cX1_isReportedBy 26 = .ok (.getfield 27, 3) := by decide +kernel
theorem dX1_isReportedBy_29 : decode cX1_isReportedBy 29 = .ok (.iload_n 3, 1) := by decide +kernel
theorem dX1_isReportedBy_30 : decode cX1_isReportedBy 30 = .ok (.aaload, 1) := by decide +kernel
theorem dX1_isReportedBy_31 : decode cX1_isReportedBy 31 = .ok (.getfield 93, 3) := by decide +kernel
theorem dX1_isReportedBy_34 : decode cX1_isReportedBy 34 = .ok (.iload_n 2, 1) := by decide +kernel
theorem dX1_isReportedBy_35 : decode cX1_isReportedBy 35 = .ok (.if_icmp .ne 18, 3) := by decide +kernel
theorem dX1_isReportedBy_38 : decode cX1_isReportedBy 38 = .ok (.aload_n 0, 1) := by decide +kernel
theorem dX1_isReportedBy_39 : decode cX1_isReportedBy 39 = .ok (.getfield 27, 3) := by decide +kernel
theorem dX1_isReportedBy_42 : decode cX1_isReportedBy 42 = .ok (.iload_n 3, 1) := by decide +kernel
theorem dX1_isReportedBy_43 : decode cX1_isReportedBy 43 = .ok (.aaload, 1) := by decide +kernel
theorem dX1_isReportedBy_44 : decode cX1_isReportedBy 44 = .ok (.getfield 115, 3) := by decide +kernel
theorem dX1_isReportedBy_47 : decode cX1_isReportedBy 47 = .ok (.iload_n 1, 1) := by decide +kernel
theorem dX1_isReportedBy_48 : decode cX1_isReportedBy 48 = .ok (.if_icmp .ne 5, 3) := by decide +kernel
theorem dX1_isReportedBy_51 : decode cX1_isReportedBy 51 = .ok (.iconst 1, 1) := by decide +kernel
theorem dX1_isReportedBy_52 : decode cX1_isReportedBy 52 = .ok (.ireturn, 1) := by decide +kernel
theorem dX1_isReportedBy_53 : decode cX1_isReportedBy 53 = .ok (.iinc 3 1, 3) := by decide +kernel
theorem dX1_isReportedBy_56 : decode cX1_isReportedBy 56 = .ok (.goto (-39), 3) := by decide +kernel
theorem dX1_isReportedBy_59 : decode cX1_isReportedBy 59 = .ok (.iconst 0, 1) := by decide +kernel
theorem dX1_isReportedBy_60 : decode cX1_isReportedBy 60 = .ok (.ireturn, 1) := by decide +kernel
theorem dX1_takeRetest_0 : decode cX1_takeRetest 0 = .ok (.aload_n 0, 1) := by decide +kernel
theorem dX1_takeRetest_1 : decode cX1_takeRetest 1 = .ok (.getfield 27, 3) := by decide +kernel
theorem dX1_takeRetest_4 : decode cX1_takeRetest 4 = .ok (.iload_n 2, 1) := by decide +kernel
theorem dX1_takeRetest_5 : decode cX1_takeRetest 5 = .ok (.aaload, 1) := by decide +kernel
theorem dX1_takeRetest_6 : decode cX1_takeRetest 6 = .ok (.astore 4, 2) := by decide +kernel
theorem dX1_takeRetest_8 : decode cX1_takeRetest 8 = .ok (.iload_n 3, 1) := by decide +kernel
theorem dX1_takeRetest_9 : decode cX1_takeRetest 9 = .ok (.ifCond .eq 11, 3) := by decide +kernel
theorem dX1_takeRetest_12 : decode cX1_takeRetest 12 = .ok (.aload 4, 2) := by decide +kernel
theorem dX1_takeRetest_14 : decode cX1_takeRetest 14 = .ok (.getfield 148, 3) := by decide +kernel
theorem dX1_takeRetest_17 : decode cX1_takeRetest 17 = .ok (.goto 8, 3) := by decide +kernel
theorem dX1_takeRetest_20 : decode cX1_takeRetest 20 = .ok (.aload 4, 2) := by decide +kernel
theorem dX1_takeRetest_22 : decode cX1_takeRetest 22 = .ok (.getfield 151, 3) := by decide +kernel
theorem dX1_takeRetest_25 : decode cX1_takeRetest 25 = .ok (.iconst 1, 1) := by decide +kernel
theorem dX1_takeRetest_26 : decode cX1_takeRetest 26 = .ok (.iload_n 1, 1) := by decide +kernel
theorem dX1_takeRetest_27 : decode cX1_takeRetest 27 = .ok (.ishl, 1) := by decide +kernel
theorem dX1_takeRetest_28 : decode cX1_takeRetest 28 = .ok (.ior, 1) := by decide +kernel
theorem dX1_takeRetest_29 : decode cX1_takeRetest 29 = .ok (.istore 5, 2) := by decide +kernel
theorem dX1_takeRetest_31 : decode cX1_takeRetest 31 = .ok (.iload_n 3, 1) := by decide +kernel
theorem dX1_takeRetest_32 : decode cX1_takeRetest 32 = .ok (.ifCond .eq 13, 3) := by decide +kernel
theorem dX1_takeRetest_35 : decode cX1_takeRetest 35 = .ok (.aload 4, 2) := by decide +kernel
theorem dX1_takeRetest_37 : decode cX1_takeRetest 37 = .ok (.iload 5, 2) := by decide +kernel
theorem dX1_takeRetest_39 : decode cX1_takeRetest 39 = .ok (.putfield 148, 3) := by decide +kernel
theorem dX1_takeRetest_42 : decode cX1_takeRetest 42 = .ok (.goto 10, 3) := by decide +kernel
theorem dX1_takeRetest_45 : decode cX1_takeRetest 45 = .ok (.aload 4, 2) := by decide +kernel
theorem dX1_takeRetest_47 : decode cX1_takeRetest 47 = .ok (.iload 5, 2) := by decide +kernel
theorem dX1_takeRetest_49 : decode cX1_takeRetest 49 = .ok (.putfield 151, 3) := by decide +kernel
theorem dX1_takeRetest_52 : decode cX1_takeRetest 52 = .ok (.iload 5, 2) := by decide +kernel
theorem dX1_takeRetest_54 : decode cX1_takeRetest 54 = .ok (.invokestatic 154, 3) := by decide +kernel
theorem dX1_takeRetest_57 : decode cX1_takeRetest 57 = .ok (.iconst 2, 1) := by decide +kernel
theorem dX1_takeRetest_58 : decode cX1_takeRetest 58 = .ok (.if_icmp .ge 5, 3) := by decide +kernel
theorem dX1_takeRetest_61 : decode cX1_takeRetest 61 = .ok (.iconst 0, 1) := by decide +kernel
theorem dX1_takeRetest_62 : decode cX1_takeRetest 62 = .ok (.ireturn, 1) := by decide +kernel
theorem dX1_takeRetest_63 : decode cX1_takeRetest 63 = .ok (.aload_n 0, 1) := by decide +kernel
theorem dX1_takeRetest_64 : decode cX1_takeRetest 64 = .ok (.iload 5, 2) := by decide +kernel
theorem dX1_takeRetest_66 : decode cX1_takeRetest 66 = .ok (.invokevirtual 159, 3) := by decide +kernel
theorem dX1_takeRetest_69 : decode cX1_takeRetest 69 = .ok (.iload_n 3, 1) := by decide +kernel
theorem dX1_takeRetest_70 : decode cX1_takeRetest 70 = .ok (.ifCond .eq 11, 3) := by decide +kernel
theorem dX1_takeRetest_73 : decode cX1_takeRetest 73 = .ok (.aload 4, 2) := by decide +kernel
theorem dX1_takeRetest_75 : decode cX1_takeRetest 75 = .ok (.iconst 1, 1) := by decide +kernel
theorem dX1_takeRetest_76 : decode cX1_takeRetest 76 = .ok (.putfield 163, 3) := by decide +kernel
theorem dX1_takeRetest_79 : decode cX1_takeRetest 79 = .ok (.iconst 1, 1) := by decide +kernel
theorem dX1_takeRetest_80 : decode cX1_takeRetest 80 = .ok (.ireturn, 1) := by decide +kernel
theorem dX1_takeRetest_81 : decode cX1_takeRetest 81 = .ok (.aload 4, 2) := by decide +kernel
theorem dX1_takeRetest_83 : decode cX1_takeRetest 83 = .ok (.invokevirtual 96, 3) := by decide +kernel
theorem dX1_takeRetest_86 : decode cX1_takeRetest 86 = .ok (.aload_n 0, 1) := by decide +kernel
theorem dX1_takeRetest_87 : decode cX1_takeRetest 87 = .ok (.iload_n 2, 1) := by decide +kernel
theorem dX1_takeRetest_88 : decode cX1_takeRetest 88 = .ok (.invokevirtual 167, 3) := by decide +kernel
theorem dX1_takeRetest_91 : decode cX1_takeRetest 91 = .ok (.pop, 1) := by decide +kernel
theorem dX1_takeRetest_92 : decode cX1_takeRetest 92 = .ok (.iconst 2, 1) := by decide +kernel
theorem dX1_takeRetest_93 : decode cX1_takeRetest 93 = .ok (.ireturn, 1) := by decide +kernel
theorem dX1_giveBonuses_0 : decode cX1_giveBonuses 0 = .ok (.iload_n 1, 1) := by decide +kernel
theorem dX1_giveBonuses_1 : decode cX1_giveBonuses 1 = .ok (.invokestatic 154, 3) := by decide +kernel
theorem dX1_giveBonuses_4 : decode cX1_giveBonuses 4 = .ok (.aload_n 0, 1) := by decide +kernel
theorem dX1_giveBonuses_5 : decode cX1_giveBonuses 5 = .ok (.getfield 36, 3) := by decide +kernel
theorem dX1_giveBonuses_8 : decode cX1_giveBonuses 8 = .ok (.imul, 1) := by decide +kernel
theorem dX1_giveBonuses_9 : decode cX1_giveBonuses 9 = .ok (.istore_n 2, 1) := by decide +kernel
theorem dX1_giveBonuses_10 : decode cX1_giveBonuses 10 = .ok (.iload_n 2, 1) := by decide +kernel
theorem dX1_giveBonuses_11 : decode cX1_giveBonuses 11 = .ok (.aload_n 0, 1) := by decide +kernel
theorem dX1_giveBonuses_12 : decode cX1_giveBonuses 12 = .ok (.getfield 61, 3) := by decide +kernel
theorem dX1_giveBonuses_15 : decode cX1_giveBonuses 15 = .ok (.if_icmp .le 4, 3) := by decide +kernel
theorem dX1_giveBonuses_18 : decode cX1_giveBonuses 18 = .ok (.return_, 1) := by decide +kernel
theorem dX1_giveBonuses_19 : decode cX1_giveBonuses 19 = .ok (.aload_n 0, 1) := by decide +kernel
theorem dX1_giveBonuses_20 : decode cX1_giveBonuses 20 = .ok (.dup, 1) := by decide +kernel
theorem dX1_giveBonuses_21 : decode cX1_giveBonuses 21 = .ok (.getfield 61, 3) := by decide +kernel
theorem dX1_giveBonuses_24 : decode cX1_giveBonuses 24 = .ok (.iload_n 2, 1) := by decide +kernel
theorem dX1_giveBonuses_25 : decode cX1_giveBonuses 25 = .ok (.isub, 1) := by decide +kernel
theorem dX1_giveBonuses_26 : decode cX1_giveBonuses 26 = .ok (.putfield 61, 3) := by decide +kernel
theorem dX1_giveBonuses_29 : decode cX1_giveBonuses 29 = .ok (.aload_n 0, 1) := by decide +kernel
theorem dX1_giveBonuses_30 : decode cX1_giveBonuses 30 = .ok (.dup, 1) := by decide +kernel
theorem dX1_giveBonuses_31 : decode cX1_giveBonuses 31 = .ok (.getfield 67, 3) := by decide +kernel
theorem dX1_giveBonuses_34 : decode cX1_giveBonuses 34 = .ok (.iload_n 2, 1) := by decide +kernel
theorem dX1_giveBonuses_35 : decode cX1_giveBonuses 35 = .ok (.iadd, 1) := by decide +kernel
theorem dX1_giveBonuses_36 : decode cX1_giveBonuses 36 = .ok (.putfield 67, 3) := by decide +kernel
theorem dX1_giveBonuses_39 : decode cX1_giveBonuses 39 = .ok (.iconst 0, 1) := by decide +kernel
theorem dX1_giveBonuses_40 : decode cX1_giveBonuses 40 = .ok (.istore_n 3, 1) := by decide +kernel
theorem dX1_giveBonuses_41 : decode cX1_giveBonuses 41 = .ok (.iload_n 3, 1) := by decide +kernel
theorem dX1_giveBonuses_42 : decode cX1_giveBonuses 42 = .ok (.aload_n 0, 1) := by decide +kernel
theorem dX1_giveBonuses_43 : decode cX1_giveBonuses 43 = .ok (.getfield 46, 3) := by decide +kernel
theorem dX1_giveBonuses_46 : decode cX1_giveBonuses 46 = .ok (.if_icmp .ge 50, 3) := by decide +kernel
theorem dX1_giveBonuses_49 : decode cX1_giveBonuses 49 = .ok (.iload_n 1, 1) := by decide +kernel
theorem dX1_giveBonuses_50 : decode cX1_giveBonuses 50 = .ok (.iconst 1, 1) := by decide +kernel
theorem dX1_giveBonuses_51 : decode cX1_giveBonuses 51 = .ok (.iload_n 3, 1) := by decide +kernel
theorem dX1_giveBonuses_52 : decode cX1_giveBonuses 52 = .ok (.ishl, 1) := by decide +kernel
theorem dX1_giveBonuses_53 : decode cX1_giveBonuses 53 = .ok (.iand, 1) := by decide +kernel
theorem dX1_giveBonuses_54 : decode cX1_giveBonuses 54 = .ok (.ifCond .eq 36, 3) := by decide +kernel
theorem dX1_giveBonuses_57 : decode cX1_giveBonuses 57 = .ok (.aload_n 0, 1) := by decide +kernel
theorem dX1_giveBonuses_58 : decode cX1_giveBonuses 58 = .ok (.getfield 20, 3) := by decide +kernel
theorem dX1_giveBonuses_61 : decode cX1_giveBonuses 61 = .ok (.iload_n 3, 1) := by decide +kernel
theorem dX1_giveBonuses_62 : decode cX1_giveBonuses 62 = .ok (.aaload, 1) := by decide +kernel
theorem dX1_giveBonuses_63 : decode cX1_giveBonuses 63 = .ok (.dup, 1) := by decide +kernel
theorem dX1_giveBonuses_64 : decode cX1_giveBonuses 64 = .ok (.getfield 141, 3) := by decide +kernel
theorem dX1_giveBonuses_67 : decode cX1_giveBonuses 67 = .ok (.aload_n 0, 1) := by decide +kernel
theorem dX1_giveBonuses_68 : decode cX1_giveBonuses 68 = .ok (.getfield 36, 3) := by decide +kernel
theorem dX1_giveBonuses_71 : decode cX1_giveBonuses 71 = .ok (.iadd, 1) := by decide +kernel
theorem dX1_giveBonuses_72 : decode cX1_giveBonuses 72 = .ok (.putfield 141, 3) := by decide +kernel
theorem dX1_giveBonuses_75 : decode cX1_giveBonuses 75 = .ok (.aload_n 0, 1) := by decide +kernel
theorem dX1_giveBonuses_76 : decode cX1_giveBonuses 76 = .ok (.getfield 20, 3) := by decide +kernel
theorem dX1_giveBonuses_79 : decode cX1_giveBonuses 79 = .ok (.iload_n 3, 1) := by decide +kernel
theorem dX1_giveBonuses_80 : decode cX1_giveBonuses 80 = .ok (.aaload, 1) := by decide +kernel
theorem dX1_giveBonuses_81 : decode cX1_giveBonuses 81 = .ok (.dup, 1) := by decide +kernel
theorem dX1_giveBonuses_82 : decode cX1_giveBonuses 82 = .ok (.getfield 170, 3) := by decide +kernel
theorem dX1_giveBonuses_85 : decode cX1_giveBonuses 85 = .ok (.iconst 1, 1) := by decide +kernel
theorem dX1_giveBonuses_86 : decode cX1_giveBonuses 86 = .ok (.iadd, 1) := by decide +kernel
theorem dX1_giveBonuses_87 : decode cX1_giveBonuses 87 = .ok (.putfield 170, 3) := by decide +kernel
theorem dX1_giveBonuses_90 : decode cX1_giveBonuses 90 = .ok (.iinc 3 1, 3) := by decide +kernel
theorem dX1_giveBonuses_93 : decode cX1_giveBonuses 93 = .ok (.goto (-52), 3) := by decide +kernel
theorem dX1_giveBonuses_96 : decode cX1_giveBonuses 96 = .ok (.return_, 1) := by decide +kernel
theorem dX1_standingOf_0 : decode cX1_standingOf 0 = .ok (.aload_n 0, 1) := by decide +kernel
theorem dX1_standingOf_1 : decode cX1_standingOf 1 = .ok (.getfield 20, 3) := by decide +kernel
theorem dX1_standingOf_4 : decode cX1_standingOf 4 = .ok (.iload_n 1, 1) := by decide +kernel
theorem dX1_standingOf_5 : decode cX1_standingOf 5 = .ok (.aaload, 1) := by decide +kernel
theorem dX1_standingOf_6 : decode cX1_standingOf 6 = .ok (.astore_n 2, 1) := by decide +kernel
theorem dX1_standingOf_7 : decode cX1_standingOf 7 = .ok (.iconst 2, 1) := by decide +kernel
theorem dX1_standingOf_8 : decode cX1_standingOf 8 = .ok (.aload_n 2, 1) := by decide +kernel
theorem dX1_standingOf_9 : decode cX1_standingOf 9 = .ok (.getfield 118, 3) := by decide +kernel
theorem dX1_standingOf_12 : decode cX1_standingOf 12 = .ok (.imul, 1) := by decide +kernel
theorem dX1_standingOf_13 : decode cX1_standingOf 13 = .ok (.aload_n 2, 1) := by decide +kernel
theorem dX1_standingOf_14 : decode cX1_standingOf 14 = .ok (.getfield 121, 3) := by decide +kernel
theorem dX1_standingOf_17 : decode cX1_standingOf 17 = .ok (.isub, 1) := by decide +kernel
theorem dX1_standingOf_18 : decode cX1_standingOf 18 = .ok (.aload_n 2, 1) := by decide +kernel
theorem dX1_standingOf_19 : decode cX1_standingOf 19 = .ok (.getfield 170, 3) := by decide +kernel
theorem dX1_standingOf_22 : decode cX1_standingOf 22 = .ok (.iadd, 1) := by decide +kernel
theorem dX1_standingOf_23 : decode cX1_standingOf 23 = .ok (.istore_n 3, 1) := by decide +kernel
theorem dX1_standingOf_24 : decode cX1_standingOf 24 = .ok (.iconst 0, 1) := by decide +kernel
theorem dX1_standingOf_25 : decode cX1_standingOf 25 = .ok (.istore 4, 2) := by decide +kernel
theorem dX1_standingOf_27 : decode cX1_standingOf 27 = .ok (.iload 4, 2) := by decide +kernel
theorem dX1_standingOf_29 : decode cX1_standingOf 29 = .ok (.aload_n 0, 1) := by decide +kernel
theorem dX1_standingOf_30 : decode cX1_standingOf 30 = .ok (.getfield 52, 3) := by decide +kernel
theorem dX1_standingOf_33 : decode cX1_standingOf 33 = .ok (.if_icmp .ge 39, 3) := by decide +kernel
theorem dX1_standingOf_36 : decode cX1_standingOf 36 = .ok (.aload_n 0, 1) := by decide +kernel
theorem dX1_standingOf_37 : decode cX1_standingOf 37 = .ok (.getfield 27, 3) := by decide +kernel
theorem dX1_standingOf_40 : decode cX1_standingOf 40 = .ok (.iload 4, 2) := by decide +kernel
theorem dX1_standingOf_42 : decode cX1_standingOf 42 = .ok (.aaload, 1) := by decide +kernel
theorem dX1_standingOf_43 : decode cX1_standingOf 43 = .ok (.getfield 115, 3) := by decide +kernel
theorem dX1_standingOf_46 : decode cX1_standingOf 46 = .ok (.iload_n 1, 1) := by decide +kernel
theorem dX1_standingOf_47 : decode cX1_standingOf 47 = .ok (.if_icmp .ne 19, 3) := by decide +kernel
theorem dX1_standingOf_50 : decode cX1_standingOf 50 = .ok (.iload_n 3, 1) := by decide +kernel
theorem dX1_standingOf_51 : decode cX1_standingOf 51 = .ok (.aload_n 0, 1) := by decide +kernel
theorem dX1_standingOf_52 : decode cX1_standingOf 52 = .ok (.getfield 27, 3) := by decide +kernel
theorem dX1_standingOf_55 : decode cX1_standingOf 55 = .ok (.iload 4, 2) := by decide +kernel
theorem dX1_standingOf_57 : decode cX1_standingOf 57 = .ok (.aaload, 1) := by decide +kernel
theorem dX1_standingOf_58 : decode cX1_standingOf 58 = .ok (.getfield 86, 3) := by decide +kernel
theorem dX1_standingOf_61 : decode cX1_standingOf 61 = .ok (.invokestatic 173, 3) := by decide +kernel
theorem dX1_standingOf_64 : decode cX1_standingOf 64 = .ok (.iadd, 1) := by decide +kernel
theorem dX1_standingOf_65 : decode cX1_standingOf 65 = .ok (.istore_n 3, 1) := by decide +kernel
theorem dX1_standingOf_66 : decode cX1_standingOf 66 = .ok (.iinc 4 1, 3) := by decide +kernel
theorem dX1_standingOf_69 : decode cX1_standingOf 69 = .ok (.goto (-42), 3) := by decide +kernel
theorem dX1_standingOf_72 : decode cX1_standingOf 72 = .ok (.iload_n 3, 1) := by decide +kernel
theorem dX1_standingOf_73 : decode cX1_standingOf 73 = .ok (.ireturn, 1) := by decide +kernel
theorem dX1_standingFor_0 : decode cX1_standingFor 0 = .ok (.iload_n 0, 1) := by decide +kernel
theorem dX1_standingFor_1 : decode cX1_standingFor 1 = .ok (.tableswitch 34 3 5 #[27, 31, 29], 27) := by decide +kernel
theorem dX1_standingFor_28 : decode cX1_standingFor 28 = .ok (.iconst 3, 1) := by decide +kernel
theorem dX1_standingFor_29 : decode cX1_standingFor 29 = .ok (.ireturn, 1) := by decide +kernel
theorem dX1_standingFor_30 : decode cX1_standingFor 30 = .ok (.iconst 1, 1) := by decide +kernel
theorem dX1_standingFor_31 : decode cX1_standingFor 31 = .ok (.ireturn, 1) := by decide +kernel
theorem dX1_standingFor_32 : decode cX1_standingFor 32 = .ok (.bipush (-2), 2) := by decide +kernel
theorem dX1_standingFor_34 : decode cX1_standingFor 34 = .ok (.ireturn, 1) := by decide +kernel
theorem dX1_standingFor_35 : decode cX1_standingFor 35 = .ok (.iconst 0, 1) := by decide +kernel
theorem dX1_standingFor_36 : decode cX1_standingFor 36 = .ok (.ireturn, 1) := by decide +kernel
theorem dX1_reportsInState_0 : decode cX1_reportsInState 0 = .ok (.iconst 0, 1) := by decide +kernel
theorem dX1_reportsInState_1 : decode cX1_reportsInState 1 = .ok (.istore_n 2, 1) := by decide +kernel
theorem dX1_reportsInState_2 : decode cX1_reportsInState 2 = .ok (.iconst 0, 1) := by decide +kernel
theorem dX1_reportsInState_3 : decode cX1_reportsInState 3 = .ok (.istore_n 3, 1) := by decide +kernel
theorem dX1_reportsInState_4 : decode cX1_reportsInState 4 = .ok (.iload_n 3, 1) := by decide +kernel
theorem dX1_reportsInState_5 : decode cX1_reportsInState 5 = .ok (.aload_n 0, 1) := by decide +kernel
theorem dX1_reportsInState_6 : decode cX1_reportsInState 6 = .ok (.getfield 52, 3) := by decide +kernel
theorem dX1_reportsInState_9 : decode cX1_reportsInState 9 = .ok (.if_icmp .ge 25, 3) := by decide +kernel
theorem dX1_reportsInState_12 : decode cX1_reportsInState 12 = .ok (.aload_n 0, 1) := by decide +kernel
theorem dX1_reportsInState_13 : decode cX1_reportsInState 13 = .ok (.getfield 27, 3) := by decide +kernel
theorem dX1_reportsInState_16 : decode cX1_reportsInState 16 = .ok (.iload_n 3, 1) := by decide +kernel
theorem dX1_reportsInState_17 : decode cX1_reportsInState 17 = .ok (.aaload, 1) := by decide +kernel
theorem dX1_reportsInState_18 : decode cX1_reportsInState 18 = .ok (.getfield 86, 3) := by decide +kernel
theorem dX1_reportsInState_21 : decode cX1_reportsInState 21 = .ok (.iload_n 1, 1) := by decide +kernel
theorem dX1_reportsInState_22 : decode cX1_reportsInState 22 = .ok (.if_icmp .ne 6, 3) := by decide +kernel
theorem dX1_reportsInState_25 : decode cX1_reportsInState 25 = .ok (.iinc 2 1, 3) := by decide +kernel
theorem dX1_reportsInState_28 : decode cX1_reportsInState 28 = .ok (.iinc 3 1, 3) := by decide +kernel
theorem dX1_reportsInState_31 : decode cX1_reportsInState 31 = .ok (.goto (-27), 3) := by decide +kernel
theorem dX1_reportsInState_34 : decode cX1_reportsInState 34 = .ok (.iload_n 2, 1) := by decide +kernel
theorem dX1_reportsInState_35 : decode cX1_reportsInState 35 = .ok (.ireturn, 1) := by decide +kernel
theorem dX1_reportsFor_0 : decode cX1_reportsFor 0 = .ok (.iconst 0, 1) := by decide +kernel
theorem dX1_reportsFor_1 : decode cX1_reportsFor 1 = .ok (.istore_n 2, 1) := by decide +kernel
theorem dX1_reportsFor_2 : decode cX1_reportsFor 2 = .ok (.iconst 0, 1) := by decide +kernel
theorem dX1_reportsFor_3 : decode cX1_reportsFor 3 = .ok (.istore_n 3, 1) := by decide +kernel
theorem dX1_reportsFor_4 : decode cX1_reportsFor 4 = .ok (.iload_n 3, 1) := by decide +kernel
theorem dX1_reportsFor_5 : decode cX1_reportsFor 5 = .ok (.aload_n 0, 1) := by decide +kernel
theorem dX1_reportsFor_6 : decode cX1_reportsFor 6 = .ok (.getfield 52, 3) := by decide +kernel
theorem dX1_reportsFor_9 : decode cX1_reportsFor 9 = .ok (.if_icmp .ge 25, 3) := by decide +kernel
theorem dX1_reportsFor_12 : decode cX1_reportsFor 12 = .ok (.aload_n 0, 1) := by decide +kernel
theorem dX1_reportsFor_13 : decode cX1_reportsFor 13 = .ok (.getfield 27, 3) := by decide +kernel
theorem dX1_reportsFor_16 : decode cX1_reportsFor 16 = .ok (.iload_n 3, 1) := by decide +kernel
theorem dX1_reportsFor_17 : decode cX1_reportsFor 17 = .ok (.aaload, 1) := by decide +kernel
theorem dX1_reportsFor_18 : decode cX1_reportsFor 18 = .ok (.getfield 99, 3) := by decide +kernel
theorem dX1_reportsFor_21 : decode cX1_reportsFor 21 = .ok (.iload_n 1, 1) := by decide +kernel
theorem dX1_reportsFor_22 : decode cX1_reportsFor 22 = .ok (.if_icmp .ne 6, 3) := by decide +kernel
theorem dX1_reportsFor_25 : decode cX1_reportsFor 25 = .ok (.iinc 2 1, 3) := by decide +kernel
theorem dX1_reportsFor_28 : decode cX1_reportsFor 28 = .ok (.iinc 3 1, 3) := by decide +kernel
theorem dX1_reportsFor_31 : decode cX1_reportsFor 31 = .ok (.goto (-27), 3) := by decide +kernel
theorem dX1_reportsFor_34 : decode cX1_reportsFor 34 = .ok (.iload_n 2, 1) := by decide +kernel
theorem dX1_reportsFor_35 : decode cX1_reportsFor 35 = .ok (.ireturn, 1) := by decide +kernel
theorem dX1_reportsBy_0 : decode cX1_reportsBy 0 = .ok (.iconst 0, 1) := by decide +kernel
theorem dX1_reportsBy_1 : decode cX1_reportsBy 1 = .ok (.istore_n 2, 1) := by decide +kernel
theorem dX1_reportsBy_2 : decode cX1_reportsBy 2 = .ok (.iconst 0, 1) := by decide +kernel
theorem dX1_reportsBy_3 : decode cX1_reportsBy 3 = .ok (.istore_n 3, 1) := by decide +kernel
theorem dX1_reportsBy_4 : decode cX1_reportsBy 4 = .ok (.iload_n 3, 1) := by decide +kernel
theorem dX1_reportsBy_5 : decode cX1_reportsBy 5 = .ok (.aload_n 0, 1) := by decide +kernel
theorem dX1_reportsBy_6 : decode cX1_reportsBy 6 = .ok (.getfield 52, 3) := by decide +kernel
theorem dX1_reportsBy_9 : decode cX1_reportsBy 9 = .ok (.if_icmp .ge 25, 3) := by decide +kernel
theorem dX1_reportsBy_12 : decode cX1_reportsBy 12 = .ok (.aload_n 0, 1) := by decide +kernel
theorem dX1_reportsBy_13 : decode cX1_reportsBy 13 = .ok (.getfield 27, 3) := by decide +kernel
theorem dX1_reportsBy_16 : decode cX1_reportsBy 16 = .ok (.iload_n 3, 1) := by decide +kernel
theorem dX1_reportsBy_17 : decode cX1_reportsBy 17 = .ok (.aaload, 1) := by decide +kernel
theorem dX1_reportsBy_18 : decode cX1_reportsBy 18 = .ok (.getfield 115, 3) := by decide +kernel
theorem dX1_reportsBy_21 : decode cX1_reportsBy 21 = .ok (.iload_n 1, 1) := by decide +kernel
theorem dX1_reportsBy_22 : decode cX1_reportsBy 22 = .ok (.if_icmp .ne 6, 3) := by decide +kernel
theorem dX1_reportsBy_25 : decode cX1_reportsBy 25 = .ok (.iinc 2 1, 3) := by decide +kernel
theorem dX1_reportsBy_28 : decode cX1_reportsBy 28 = .ok (.iinc 3 1, 3) := by decide +kernel
theorem dX1_reportsBy_31 : decode cX1_reportsBy 31 = .ok (.goto (-27), 3) := by decide +kernel
theorem dX1_reportsBy_34 : decode cX1_reportsBy 34 = .ok (.iload_n 2, 1) := by decide +kernel
theorem dX1_reportsBy_35 : decode cX1_reportsBy 35 = .ok (.ireturn, 1) := by decide +kernel
theorem dX1_foldedReports_0 : decode cX1_foldedReports 0 = .ok (.iconst 0, 1) := by decide +kernel
theorem dX1_foldedReports_1 : decode cX1_foldedReports 1 = .ok (.istore_n 2, 1) := by decide +kernel
theorem dX1_foldedReports_2 : decode cX1_foldedReports 2 = .ok (.iconst 0, 1) := by decide +kernel
theorem dX1_foldedReports_3 : decode cX1_foldedReports 3 = .ok (.istore_n 3, 1) := by decide +kernel
theorem dX1_foldedReports_4 : decode cX1_foldedReports 4 = .ok (.iload_n 3, 1) := by decide +kernel
theorem dX1_foldedReports_5 : decode cX1_foldedReports 5 = .ok (.aload_n 0, 1) := by decide +kernel
theorem dX1_foldedReports_6 : decode cX1_foldedReports 6 = .ok (.getfield 52, 3) := by decide +kernel
theorem dX1_foldedReports_9 : decode cX1_foldedReports 9 = .ok (.if_icmp .ge 25, 3) := by decide +kernel
theorem dX1_foldedReports_12 : decode cX1_foldedReports 12 = .ok (.aload_n 0, 1) := by decide +kernel
theorem dX1_foldedReports_13 : decode cX1_foldedReports 13 = .ok (.getfield 27, 3) := by decide +kernel
theorem dX1_foldedReports_16 : decode cX1_foldedReports 16 = .ok (.iload_n 3, 1) := by decide +kernel
theorem dX1_foldedReports_17 : decode cX1_foldedReports 17 = .ok (.aaload, 1) := by decide +kernel
theorem dX1_foldedReports_18 : decode cX1_foldedReports 18 = .ok (.getfield 93, 3) := by decide +kernel
theorem dX1_foldedReports_21 : decode cX1_foldedReports 21 = .ok (.iload_n 1, 1) := by decide +kernel
theorem dX1_foldedReports_22 : decode cX1_foldedReports 22 = .ok (.if_icmp .ne 6, 3) := by decide +kernel
theorem dX1_foldedReports_25 : decode cX1_foldedReports 25 = .ok (.iinc 2 1, 3) := by decide +kernel
theorem dX1_foldedReports_28 : decode cX1_foldedReports 28 = .ok (.iinc 3 1, 3) := by decide +kernel
theorem dX1_foldedReports_31 : decode cX1_foldedReports 31 = .ok (.goto (-27), 3) := by decide +kernel
theorem dX1_foldedReports_34 : decode cX1_foldedReports 34 = .ok (.iload_n 2, 1) := by decide +kernel
theorem dX1_foldedReports_35 : decode cX1_foldedReports 35 = .ok (.ireturn, 1) := by decide +kernel
theorem dX1_openAppeals_0 : decode cX1_openAppeals 0 = .ok (.iconst 0, 1) := by decide +kernel
theorem dX1_openAppeals_1 : decode cX1_openAppeals 1 = .ok (.istore_n 1, 1) := by decide +kernel
theorem dX1_openAppeals_2 : decode cX1_openAppeals 2 = .ok (.iconst 0, 1) := by decide +kernel
theorem dX1_openAppeals_3 : decode cX1_openAppeals 3 = .ok (.istore_n 2, 1) := by decide +kernel
theorem dX1_openAppeals_4 : decode cX1_openAppeals 4 = .ok (.iload_n 2, 1) := by decide +kernel
theorem dX1_openAppeals_5 : decode cX1_openAppeals 5 = .ok (.aload_n 0, 1) := by decide +kernel
theorem dX1_openAppeals_6 : decode cX1_openAppeals 6 = .ok (.getfield 52, 3) := by decide +kernel
theorem dX1_openAppeals_9 : decode cX1_openAppeals 9 = .ok (.if_icmp .ge 25, 3) := by decide +kernel
theorem dX1_openAppeals_12 : decode cX1_openAppeals 12 = .ok (.aload_n 0, 1) := by decide +kernel
theorem dX1_openAppeals_13 : decode cX1_openAppeals 13 = .ok (.getfield 27, 3) := by decide +kernel
theorem dX1_openAppeals_16 : decode cX1_openAppeals 16 = .ok (.iload_n 2, 1) := by decide +kernel
theorem dX1_openAppeals_17 : decode cX1_openAppeals 17 = .ok (.aaload, 1) := by decide +kernel
theorem dX1_openAppeals_18 : decode cX1_openAppeals 18 = .ok (.getfield 109, 3) := by decide +kernel
theorem dX1_openAppeals_21 : decode cX1_openAppeals 21 = .ok (.iconst 1, 1) := by decide +kernel
theorem dX1_openAppeals_22 : decode cX1_openAppeals 22 = .ok (.if_icmp .ne 6, 3) := by decide +kernel
theorem dX1_openAppeals_25 : decode cX1_openAppeals 25 = .ok (.iinc 1 1, 3) := by decide +kernel
theorem dX1_openAppeals_28 : decode cX1_openAppeals 28 = .ok (.iinc 2 1, 3) := by decide +kernel
theorem dX1_openAppeals_31 : decode cX1_openAppeals 31 = .ok (.goto (-27), 3) := by decide +kernel
theorem dX1_openAppeals_34 : decode cX1_openAppeals 34 = .ok (.iload_n 1, 1) := by decide +kernel
theorem dX1_openAppeals_35 : decode cX1_openAppeals 35 = .ok (.ireturn, 1) := by decide +kernel
theorem dX1_moneyInPools_0 : decode cX1_moneyInPools 0 = .ok (.iconst 0, 1) := by decide +kernel
theorem dX1_moneyInPools_1 : decode cX1_moneyInPools 1 = .ok (.istore_n 1, 1) := by decide +kernel
theorem dX1_moneyInPools_2 : decode cX1_moneyInPools 2 = .ok (.iconst 0, 1) := by decide +kernel
theorem dX1_moneyInPools_3 : decode cX1_moneyInPools 3 = .ok (.istore_n 2, 1) := by decide +kernel
theorem dX1_moneyInPools_4 : decode cX1_moneyInPools 4 = .ok (.iload_n 2, 1) := by decide +kernel
theorem dX1_moneyInPools_5 : decode cX1_moneyInPools 5 = .ok (.aload_n 0, 1) := by decide +kernel
theorem dX1_moneyInPools_6 : decode cX1_moneyInPools 6 = .ok (.getfield 39, 3) := by decide +kernel
theorem dX1_moneyInPools_9 : decode cX1_moneyInPools 9 = .ok (.if_icmp .ge 21, 3) := by decide +kernel
theorem dX1_moneyInPools_12 : decode cX1_moneyInPools 12 = .ok (.iload_n 1, 1) := by decide +kernel
theorem dX1_moneyInPools_13 : decode cX1_moneyInPools 13 = .ok (.aload_n 0, 1) := by decide +kernel
theorem dX1_moneyInPools_14 : decode cX1_moneyInPools 14 = .ok (.getfield 11, 3) := by decide +kernel
theorem dX1_moneyInPools_17 : decode cX1_moneyInPools 17 = .ok (.iload_n 2, 1) := by decide +kernel
theorem dX1_moneyInPools_18 : decode cX1_moneyInPools 18 = .ok (.aaload, 1) := by decide +kernel
theorem dX1_moneyInPools_19 : decode cX1_moneyInPools 19 = .ok (.getfield 76, 3) := by decide +kernel
theorem dX1_moneyInPools_22 : decode cX1_moneyInPools 22 = .ok (.iadd, 1) := by decide +kernel
theorem dX1_moneyInPools_23 : decode cX1_moneyInPools 23 = .ok (.istore_n 1, 1) := by decide +kernel
theorem dX1_moneyInPools_24 : decode cX1_moneyInPools 24 = .ok (.iinc 2 1, 3) := by decide +kernel
theorem dX1_moneyInPools_27 : decode cX1_moneyInPools 27 = .ok (.goto (-23), 3) := by decide +kernel
theorem dX1_moneyInPools_30 : decode cX1_moneyInPools 30 = .ok (.iload_n 1, 1) := by decide +kernel
theorem dX1_moneyInPools_31 : decode cX1_moneyInPools 31 = .ok (.ireturn, 1) := by decide +kernel
theorem dX1_payablePrices_0 : decode cX1_payablePrices 0 = .ok (.iconst 0, 1) := by decide +kernel
theorem dX1_payablePrices_1 : decode cX1_payablePrices 1 = .ok (.istore_n 2, 1) := by decide +kernel
theorem dX1_payablePrices_2 : decode cX1_payablePrices 2 = .ok (.iconst 0, 1) := by decide +kernel
theorem dX1_payablePrices_3 : decode cX1_payablePrices 3 = .ok (.istore_n 3, 1) := by decide +kernel
theorem dX1_payablePrices_4 : decode cX1_payablePrices 4 = .ok (.iload_n 3, 1) := by decide +kernel
theorem dX1_payablePrices_5 : decode cX1_payablePrices 5 = .ok (.aload_n 0, 1) := by decide +kernel
theorem dX1_payablePrices_6 : decode cX1_payablePrices 6 = .ok (.getfield 52, 3) := by decide +kernel
theorem dX1_payablePrices_9 : decode cX1_payablePrices 9 = .ok (.if_icmp .ge 47, 3) := by decide +kernel
theorem dX1_payablePrices_12 : decode cX1_payablePrices 12 = .ok (.aload_n 0, 1) := by decide +kernel
theorem dX1_payablePrices_13 : decode cX1_payablePrices 13 = .ok (.getfield 27, 3) := by decide +kernel
theorem dX1_payablePrices_16 : decode cX1_payablePrices 16 = .ok (.iload_n 3, 1) := by decide +kernel
theorem dX1_payablePrices_17 : decode cX1_payablePrices 17 = .ok (.aaload, 1) := by decide +kernel
theorem dX1_payablePrices_18 : decode cX1_payablePrices 18 = .ok (.getfield 99, 3) := by decide +kernel
theorem dX1_payablePrices_21 : decode cX1_payablePrices 21 = .ok (.iload_n 1, 1) := by decide +kernel
theorem dX1_payablePrices_22 : decode cX1_payablePrices 22 = .ok (.if_icmp .ne 28, 3) := by decide +kernel
theorem dX1_payablePrices_25 : decode cX1_payablePrices 25 = .ok (.aload_n 0, 1) := by decide +kernel
theorem dX1_payablePrices_26 : decode cX1_payablePrices 26 = .ok (.getfield 27, 3) := by decide +kernel
theorem dX1_payablePrices_29 : decode cX1_payablePrices 29 = .ok (.iload_n 3, 1) := by decide +kernel
theorem dX1_payablePrices_30 : decode cX1_payablePrices 30 = .ok (.aaload, 1) := by decide +kernel
theorem dX1_payablePrices_31 : decode cX1_payablePrices 31 = .ok (.invokevirtual 176, 3) := by decide +kernel
theorem dX1_payablePrices_34 : decode cX1_payablePrices 34 = .ok (.ifCond .eq 16, 3) := by decide +kernel
theorem dX1_payablePrices_37 : decode cX1_payablePrices 37 = .ok (.iload_n 2, 1) := by decide +kernel
theorem dX1_payablePrices_38 : decode cX1_payablePrices 38 = .ok (.aload_n 0, 1) := by decide +kernel
theorem dX1_payablePrices_39 : decode cX1_payablePrices 39 = .ok (.aload_n 0, 1) := by decide +kernel
theorem dX1_payablePrices_40 : decode cX1_payablePrices 40 = .ok (.getfield 27, 3) := by decide +kernel
theorem dX1_payablePrices_43 : decode cX1_payablePrices 43 = .ok (.iload_n 3, 1) := by decide +kernel
theorem dX1_payablePrices_44 : decode cX1_payablePrices 44 = .ok (.aaload, 1) := by decide +kernel
theorem dX1_payablePrices_45 : decode cX1_payablePrices 45 = .ok (.invokevirtual 124, 3) := by decide +kernel
theorem dX1_payablePrices_48 : decode cX1_payablePrices 48 = .ok (.iadd, 1) := by decide +kernel
theorem dX1_payablePrices_49 : decode cX1_payablePrices 49 = .ok (.istore_n 2, 1) := by decide +kernel
theorem dX1_payablePrices_50 : decode cX1_payablePrices 50 = .ok (.iinc 3 1, 3) := by decide +kernel
theorem dX1_payablePrices_53 : decode cX1_payablePrices 53 = .ok (.goto (-49), 3) := by decide +kernel
theorem dX1_payablePrices_56 : decode cX1_payablePrices 56 = .ok (.iload_n 2, 1) := by decide +kernel
theorem dX1_payablePrices_57 : decode cX1_payablePrices 57 = .ok (.ireturn, 1) := by decide +kernel
theorem dX2_init_0 : decode cX2_init 0 = .ok (.aload_n 0, 1) := by decide +kernel
theorem dX2_init_1 : decode cX2_init 1 = .ok (.invokespecial 1, 3) := by decide +kernel
theorem dX2_init_4 : decode cX2_init 4 = .ok (.return_, 1) := by decide +kernel
theorem dX2_clear_0 : decode cX2_clear 0 = .ok (.aload_n 0, 1) := by decide +kernel
theorem dX2_clear_1 : decode cX2_clear 1 = .ok (.iconst 0, 1) := by decide +kernel
theorem dX2_clear_2 : decode cX2_clear 2 = .ok (.putfield 7, 3) := by decide +kernel
theorem dX2_clear_5 : decode cX2_clear 5 = .ok (.aload_n 0, 1) := by decide +kernel
theorem dX2_clear_6 : decode cX2_clear 6 = .ok (.iconst 0, 1) := by decide +kernel
theorem dX2_clear_7 : decode cX2_clear 7 = .ok (.putfield 13, 3) := by decide +kernel
theorem dX2_clear_10 : decode cX2_clear 10 = .ok (.aload_n 0, 1) := by decide +kernel
theorem dX2_clear_11 : decode cX2_clear 11 = .ok (.iconst 0, 1) := by decide +kernel
theorem dX2_clear_12 : decode cX2_clear 12 = .ok (.putfield 16, 3) := by decide +kernel
theorem dX2_clear_15 : decode cX2_clear 15 = .ok (.aload_n 0, 1) := by decide +kernel
theorem dX2_clear_16 : decode cX2_clear 16 = .ok (.iconst 0, 1) := by decide +kernel
theorem dX2_clear_17 : decode cX2_clear 17 = .ok (.putfield 19, 3) := by decide +kernel
theorem dX2_clear_20 : decode cX2_clear 20 = .ok (.return_, 1) := by decide +kernel
theorem dX2_copyFrom_0 : decode cX2_copyFrom 0 = .ok (.aload_n 0, 1) := by decide +kernel
theorem dX2_copyFrom_1 : decode cX2_copyFrom 1 = .ok (.aload_n 1, 1) := by decide +kernel
theorem dX2_copyFrom_2 : decode cX2_copyFrom 2 = .ok (.getfield 7, 3) := by decide +kernel
theorem dX2_copyFrom_5 : decode cX2_copyFrom 5 = .ok (.putfield 7, 3) := by decide +kernel
theorem dX2_copyFrom_8 : decode cX2_copyFrom 8 = .ok (.aload_n 0, 1) := by decide +kernel
theorem dX2_copyFrom_9 : decode cX2_copyFrom 9 = .ok (.aload_n 1, 1) := by decide +kernel
theorem dX2_copyFrom_10 : decode cX2_copyFrom 10 = .ok (.getfield 13, 3) := by decide +kernel
theorem dX2_copyFrom_13 : decode cX2_copyFrom 13 = .ok (.putfield 13, 3) := by decide +kernel
theorem dX2_copyFrom_16 : decode cX2_copyFrom 16 = .ok (.aload_n 0, 1) := by decide +kernel
theorem dX2_copyFrom_17 : decode cX2_copyFrom 17 = .ok (.aload_n 1, 1) := by decide +kernel
theorem dX2_copyFrom_18 : decode cX2_copyFrom 18 = .ok (.getfield 16, 3) := by decide +kernel
theorem dX2_copyFrom_21 : decode cX2_copyFrom 21 = .ok (.putfield 16, 3) := by decide +kernel
theorem dX2_copyFrom_24 : decode cX2_copyFrom 24 = .ok (.aload_n 0, 1) := by decide +kernel
theorem dX2_copyFrom_25 : decode cX2_copyFrom 25 = .ok (.aload_n 1, 1) := by decide +kernel
theorem dX2_copyFrom_26 : decode cX2_copyFrom 26 = .ok (.getfield 19, 3) := by decide +kernel
theorem dX2_copyFrom_29 : decode cX2_copyFrom 29 = .ok (.putfield 19, 3) := by decide +kernel
theorem dX2_copyFrom_32 : decode cX2_copyFrom 32 = .ok (.return_, 1) := by decide +kernel
theorem dX3_init_0 : decode cX3_init 0 = .ok (.aload_n 0, 1) := by decide +kernel
theorem dX3_init_1 : decode cX3_init 1 = .ok (.invokespecial 3, 3) := by decide +kernel
theorem dX3_init_4 : decode cX3_init 4 = .ok (.aload_n 0, 1) := by decide +kernel
theorem dX3_init_5 : decode cX3_init 5 = .ok (.sipush (-10009), 3) := by decide +kernel
theorem dX3_init_8 : decode cX3_init 8 = .ok (.putfield 9, 3) := by decide +kernel
theorem dX3_init_11 : decode cX3_init 11 = .ok (.return_, 1) := by decide +kernel
theorem dX3_open_0 : decode cX3_open 0 = .ok (.aload_n 0, 1) := by decide +kernel
theorem dX3_open_1 : decode cX3_open 1 = .ok (.iload_n 1, 1) := by decide +kernel
theorem dX3_open_2 : decode cX3_open 2 = .ok (.putfield 15, 3) := by decide +kernel
theorem dX3_open_5 : decode cX3_open 5 = .ok (.aload_n 0, 1) := by decide +kernel
theorem dX3_open_6 : decode cX3_open 6 = .ok (.iload_n 2, 1) := by decide +kernel
theorem dX3_open_7 : decode cX3_open 7 = .ok (.putfield 18, 3) := by decide +kernel
theorem dX3_open_10 : decode cX3_open 10 = .ok (.aload_n 0, 1) := by decide +kernel
theorem dX3_open_11 : decode cX3_open 11 = .ok (.iload_n 3, 1) := by decide +kernel
theorem dX3_open_12 : decode cX3_open 12 = .ok (.putfield 21, 3) := by decide +kernel
theorem dX3_open_15 : decode cX3_open 15 = .ok (.aload_n 0, 1) := by decide +kernel
theorem dX3_open_16 : decode cX3_open 16 = .ok (.iconst 0, 1) := by decide +kernel
theorem dX3_open_17 : decode cX3_open 17 = .ok (.putfield 24, 3) := by decide +kernel
theorem dX3_open_20 : decode cX3_open 20 = .ok (.aload_n 0, 1) := by decide +kernel
theorem dX3_open_21 : decode cX3_open 21 = .ok (.invokevirtual 27, 3) := by decide +kernel
theorem dX3_open_24 : decode cX3_open 24 = .ok (.return_, 1) := by decide +kernel
theorem dX3_makeNew_0 : decode cX3_makeNew 0 = .ok (.aload_n 0, 1) := by decide +kernel
theorem dX3_makeNew_1 : decode cX3_makeNew 1 = .ok (.iconst 0, 1) := by decide +kernel
theorem dX3_makeNew_2 : decode cX3_makeNew 2 = .ok (.putfield 30, 3) := by decide +kernel
theorem dX3_makeNew_5 : decode cX3_makeNew 5 = .ok (.aload_n 0, 1) := by decide +kernel
theorem dX3_makeNew_6 : decode cX3_makeNew 6 = .ok (.iconst 0, 1) := by decide +kernel
theorem dX3_makeNew_7 : decode cX3_makeNew 7 = .ok (.putfield 33, 3) := by decide +kernel
theorem dX3_makeNew_10 : decode cX3_makeNew 10 = .ok (.aload_n 0, 1) := by decide +kernel
theorem dX3_makeNew_11 : decode cX3_makeNew 11 = .ok (.sipush (-10009), 3) := by decide +kernel
theorem dX3_makeNew_14 : decode cX3_makeNew 14 = .ok (.putfield 9, 3) := by decide +kernel
theorem dX3_makeNew_17 : decode cX3_makeNew 17 = .ok (.aload_n 0, 1) := by decide +kernel
theorem dX3_makeNew_18 : decode cX3_makeNew 18 = .ok (.iconst 0, 1) := by decide +kernel
theorem dX3_makeNew_19 : decode cX3_makeNew 19 = .ok (.putfield 36, 3) := by decide +kernel
theorem dX3_makeNew_22 : decode cX3_makeNew 22 = .ok (.aload_n 0, 1) := by decide +kernel
theorem dX3_makeNew_23 : decode cX3_makeNew 23 = .ok (.iconst 0, 1) := by decide +kernel
theorem dX3_makeNew_24 : decode cX3_makeNew 24 = .ok (.putfield 39, 3) := by decide +kernel
theorem dX3_makeNew_27 : decode cX3_makeNew 27 = .ok (.aload_n 0, 1) := by decide +kernel
theorem dX3_makeNew_28 : decode cX3_makeNew 28 = .ok (.iconst 0, 1) := by decide +kernel
theorem dX3_makeNew_29 : decode cX3_makeNew 29 = .ok (.putfield 42, 3) := by decide +kernel
theorem dX3_makeNew_32 : decode cX3_makeNew 32 = .ok (.aload_n 0, 1) := by decide +kernel
theorem dX3_makeNew_33 : decode cX3_makeNew 33 = .ok (.iconst 0, 1) := by decide +kernel
theorem dX3_makeNew_34 : decode cX3_makeNew 34 = .ok (.putfield 45, 3) := by decide +kernel
theorem dX3_makeNew_37 : decode cX3_makeNew 37 = .ok (.aload_n 0, 1) := by decide +kernel
theorem dX3_makeNew_38 : decode cX3_makeNew 38 = .ok (.iconst 0, 1) := by decide +kernel
theorem dX3_makeNew_39 : decode cX3_makeNew 39 = .ok (.putfield 48, 3) := by decide +kernel
theorem dX3_makeNew_42 : decode cX3_makeNew 42 = .ok (.return_, 1) := by decide +kernel
theorem dX3_isPayable_0 : decode cX3_isPayable 0 = .ok (.aload_n 0, 1) := by decide +kernel
theorem dX3_isPayable_1 : decode cX3_isPayable 1 = .ok (.getfield 30, 3) := by decide +kernel
theorem dX3_isPayable_4 : decode cX3_isPayable 4 = .ok (.iconst 1, 1) := by decide +kernel
theorem dX3_isPayable_5 : decode cX3_isPayable 5 = .ok (.if_icmp .eq 11, 3) := by decide +kernel
theorem dX3_isPayable_8 : decode cX3_isPayable 8 = .ok (.aload_n 0, 1) := by decide +kernel
theorem dX3_isPayable_9 : decode cX3_isPayable 9 = .ok (.getfield 30, 3) := by decide +kernel
theorem dX3_isPayable_12 : decode cX3_isPayable 12 = .ok (.iconst 2, 1) := by decide +kernel
theorem dX3_isPayable_13 : decode cX3_isPayable 13 = .ok (.if_icmp .ne 7, 3) := by decide +kernel
theorem dX3_isPayable_16 : decode cX3_isPayable 16 = .ok (.iconst 1, 1) := by decide +kernel
theorem dX3_isPayable_17 : decode cX3_isPayable 17 = .ok (.goto 4, 3) := by decide +kernel
theorem dX3_isPayable_20 : decode cX3_isPayable 20 = .ok (.iconst 0, 1) := by decide +kernel
theorem dX3_isPayable_21 : decode cX3_isPayable 21 = .ok (.ireturn, 1) := by decide +kernel
theorem dX3_hasSeverity_0 : decode cX3_hasSeverity 0 = .ok (.aload_n 0, 1) := by decide +kernel
theorem dX3_hasSeverity_1 : decode cX3_hasSeverity 1 = .ok (.invokevirtual 52, 3) := by decide +kernel
theorem dX3_hasSeverity_4 : decode cX3_hasSeverity 4 = .ok (.ifCond .ne 11, 3) := by decide +kernel
theorem dX3_hasSeverity_7 : decode cX3_hasSeverity 7 = .ok (.aload_n 0, 1) := by decide +kernel
theorem dX3_hasSeverity_8 : decode cX3_hasSeverity 8 = .ok (.getfield 30, 3) := by decide +kernel
theorem dX3_hasSeverity_11 : decode cX3_hasSeverity 11 = .ok (.iconst 3, 1) := by decide +kernel
theorem dX3_hasSeverity_12 : decode cX3_hasSeverity 12 = .ok (.if_icmp .ne 7, 3) := by decide +kernel
theorem dX3_hasSeverity_15 : decode cX3_hasSeverity 15 = .ok (.iconst 1, 1) := by decide +kernel
theorem dX3_hasSeverity_16 : decode cX3_hasSeverity 16 = .ok (.goto 4, 3) := by decide +kernel
theorem dX3_hasSeverity_19 : decode cX3_hasSeverity 19 = .ok (.iconst 0, 1) := by decide +kernel
theorem dX3_hasSeverity_20 : decode cX3_hasSeverity 20 = .ok (.ireturn, 1) := by decide +kernel
theorem dX3_isRetestedBy_0 : decode cX3_isRetestedBy 0 = .ok (.aload_n 0, 1) := by decide +kernel
theorem dX3_isRetestedBy_1 : decode cX3_isRetestedBy 1 = .ok (.getfield 42, 3) := by decide +kernel
theorem dX3_isRetestedBy_4 : decode cX3_isRetestedBy 4 = .ok (.aload_n 0, 1) := by decide +kernel
theorem dX3_isRetestedBy_5 : decode cX3_isRetestedBy 5 = .ok (.getfield 45, 3) := by decide +kernel
theorem dX3_isRetestedBy_8 : decode cX3_isRetestedBy 8 = .ok (.ior, 1) := by decide +kernel
theorem dX3_isRetestedBy_9 : decode cX3_isRetestedBy 9 = .ok (.iconst 1, 1) := by decide +kernel
theorem dX3_isRetestedBy_10 : decode cX3_isRetestedBy 10 = .ok (.iload_n 1, 1) := by decide +kernel
theorem dX3_isRetestedBy_11 : decode cX3_isRetestedBy 11 = .ok (.ishl, 1) := by decide +kernel
theorem dX3_isRetestedBy_12 : decode cX3_isRetestedBy 12 = .ok (.iand, 1) := by decide +kernel
theorem dX3_isRetestedBy_13 : decode cX3_isRetestedBy 13 = .ok (.ifCond .eq 7, 3) := by decide +kernel
theorem dX3_isRetestedBy_16 : decode cX3_isRetestedBy 16 = .ok (.iconst 1, 1) := by decide +kernel
theorem dX3_isRetestedBy_17 : decode cX3_isRetestedBy 17 = .ok (.goto 4, 3) := by decide +kernel
theorem dX3_isRetestedBy_20 : decode cX3_isRetestedBy 20 = .ok (.iconst 0, 1) := by decide +kernel
theorem dX3_isRetestedBy_21 : decode cX3_isRetestedBy 21 = .ok (.ireturn, 1) := by decide +kernel
theorem dX3_tellsSameAs_0 : decode cX3_tellsSameAs 0 = .ok (.aload_n 0, 1) := by decide +kernel
theorem dX3_tellsSameAs_1 : decode cX3_tellsSameAs 1 = .ok (.getfield 18, 3) := by decide +kernel
theorem dX3_tellsSameAs_4 : decode cX3_tellsSameAs 4 = .ok (.aload_n 1, 1) := by decide +kernel
theorem dX3_tellsSameAs_5 : decode cX3_tellsSameAs 5 = .ok (.getfield 18, 3) := by decide +kernel
theorem dX3_tellsSameAs_8 : decode cX3_tellsSameAs 8 = .ok (.if_icmp .ne 18, 3) := by decide +kernel
theorem dX3_tellsSameAs_11 : decode cX3_tellsSameAs 11 = .ok (.aload_n 0, 1) := by decide +kernel
theorem dX3_tellsSameAs_12 : decode cX3_tellsSameAs 12 = .ok (.getfield 21, 3) := by decide +kernel
theorem dX3_tellsSameAs_15 : decode cX3_tellsSameAs 15 = .ok (.aload_n 1, 1) := by decide +kernel
theorem dX3_tellsSameAs_16 : decode cX3_tellsSameAs 16 = .ok (.getfield 21, 3) := by decide +kernel
theorem dX3_tellsSameAs_19 : decode cX3_tellsSameAs 19 = .ok (.if_icmp .ne 7, 3) := by decide +kernel
theorem dX3_tellsSameAs_22 : decode cX3_tellsSameAs 22 = .ok (.iconst 1, 1) := by decide +kernel
theorem dX3_tellsSameAs_23 : decode cX3_tellsSameAs 23 = .ok (.goto 4, 3) := by decide +kernel
theorem dX3_tellsSameAs_26 : decode cX3_tellsSameAs 26 = .ok (.iconst 0, 1) := by decide +kernel
theorem dX3_tellsSameAs_27 : decode cX3_tellsSameAs 27 = .ok (.ireturn, 1) := by decide +kernel
theorem dX3_copyFrom_0 : decode cX3_copyFrom 0 = .ok (.aload_n 0, 1) := by decide +kernel
theorem dX3_copyFrom_1 : decode cX3_copyFrom 1 = .ok (.aload_n 1, 1) := by decide +kernel
theorem dX3_copyFrom_2 : decode cX3_copyFrom 2 = .ok (.getfield 15, 3) := by decide +kernel
theorem dX3_copyFrom_5 : decode cX3_copyFrom 5 = .ok (.putfield 15, 3) := by decide +kernel
theorem dX3_copyFrom_8 : decode cX3_copyFrom 8 = .ok (.aload_n 0, 1) := by decide +kernel
theorem dX3_copyFrom_9 : decode cX3_copyFrom 9 = .ok (.aload_n 1, 1) := by decide +kernel
theorem dX3_copyFrom_10 : decode cX3_copyFrom 10 = .ok (.getfield 18, 3) := by decide +kernel
theorem dX3_copyFrom_13 : decode cX3_copyFrom 13 = .ok (.putfield 18, 3) := by decide +kernel
theorem dX3_copyFrom_16 : decode cX3_copyFrom 16 = .ok (.aload_n 0, 1) := by decide +kernel
theorem dX3_copyFrom_17 : decode cX3_copyFrom 17 = .ok (.aload_n 1, 1) := by decide +kernel
theorem dX3_copyFrom_18 : decode cX3_copyFrom 18 = .ok (.getfield 21, 3) := by decide +kernel
theorem dX3_copyFrom_21 : decode cX3_copyFrom 21 = .ok (.putfield 21, 3) := by decide +kernel
theorem dX3_copyFrom_24 : decode cX3_copyFrom 24 = .ok (.aload_n 0, 1) := by decide +kernel
theorem dX3_copyFrom_25 : decode cX3_copyFrom 25 = .ok (.aload_n 1, 1) := by decide +kernel
theorem dX3_copyFrom_26 : decode cX3_copyFrom 26 = .ok (.getfield 30, 3) := by decide +kernel
theorem dX3_copyFrom_29 : decode cX3_copyFrom 29 = .ok (.putfield 30, 3) := by decide +kernel
theorem dX3_copyFrom_32 : decode cX3_copyFrom 32 = .ok (.aload_n 0, 1) := by decide +kernel
theorem dX3_copyFrom_33 : decode cX3_copyFrom 33 = .ok (.aload_n 1, 1) := by decide +kernel
theorem dX3_copyFrom_34 : decode cX3_copyFrom 34 = .ok (.getfield 33, 3) := by decide +kernel
theorem dX3_copyFrom_37 : decode cX3_copyFrom 37 = .ok (.putfield 33, 3) := by decide +kernel
theorem dX3_copyFrom_40 : decode cX3_copyFrom 40 = .ok (.aload_n 0, 1) := by decide +kernel
theorem dX3_copyFrom_41 : decode cX3_copyFrom 41 = .ok (.aload_n 1, 1) := by decide +kernel
theorem dX3_copyFrom_42 : decode cX3_copyFrom 42 = .ok (.getfield 9, 3) := by decide +kernel
theorem dX3_copyFrom_45 : decode cX3_copyFrom 45 = .ok (.putfield 9, 3) := by decide +kernel
theorem dX3_copyFrom_48 : decode cX3_copyFrom 48 = .ok (.aload_n 0, 1) := by decide +kernel
theorem dX3_copyFrom_49 : decode cX3_copyFrom 49 = .ok (.aload_n 1, 1) := by decide +kernel
theorem dX3_copyFrom_50 : decode cX3_copyFrom 50 = .ok (.getfield 36, 3) := by decide +kernel
theorem dX3_copyFrom_53 : decode cX3_copyFrom 53 = .ok (.putfield 36, 3) := by decide +kernel
theorem dX3_copyFrom_56 : decode cX3_copyFrom 56 = .ok (.aload_n 0, 1) := by decide +kernel
theorem dX3_copyFrom_57 : decode cX3_copyFrom 57 = .ok (.aload_n 1, 1) := by decide +kernel
theorem dX3_copyFrom_58 : decode cX3_copyFrom 58 = .ok (.getfield 39, 3) := by decide +kernel
theorem dX3_copyFrom_61 : decode cX3_copyFrom 61 = .ok (.putfield 39, 3) := by decide +kernel
theorem dX3_copyFrom_64 : decode cX3_copyFrom 64 = .ok (.aload_n 0, 1) := by decide +kernel
theorem dX3_copyFrom_65 : decode cX3_copyFrom 65 = .ok (.aload_n 1, 1) := by decide +kernel
theorem dX3_copyFrom_66 : decode cX3_copyFrom 66 = .ok (.getfield 24, 3) := by decide +kernel
theorem dX3_copyFrom_69 : decode cX3_copyFrom 69 = .ok (.putfield 24, 3) := by decide +kernel
theorem dX3_copyFrom_72 : decode cX3_copyFrom 72 = .ok (.aload_n 0, 1) := by decide +kernel
theorem dX3_copyFrom_73 : decode cX3_copyFrom 73 = .ok (.aload_n 1, 1) := by decide +kernel
theorem dX3_copyFrom_74 : decode cX3_copyFrom 74 = .ok (.getfield 42, 3) := by decide +kernel
theorem dX3_copyFrom_77 : decode cX3_copyFrom 77 = .ok (.putfield 42, 3) := by decide +kernel
theorem dX3_copyFrom_80 : decode cX3_copyFrom 80 = .ok (.aload_n 0, 1) := by decide +kernel
theorem dX3_copyFrom_81 : decode cX3_copyFrom 81 = .ok (.aload_n 1, 1) := by decide +kernel
theorem dX3_copyFrom_82 : decode cX3_copyFrom 82 = .ok (.getfield 45, 3) := by decide +kernel
theorem dX3_copyFrom_85 : decode cX3_copyFrom 85 = .ok (.putfield 45, 3) := by decide +kernel
theorem dX3_copyFrom_88 : decode cX3_copyFrom 88 = .ok (.aload_n 0, 1) := by decide +kernel
theorem dX3_copyFrom_89 : decode cX3_copyFrom 89 = .ok (.aload_n 1, 1) := by decide +kernel
theorem dX3_copyFrom_90 : decode cX3_copyFrom 90 = .ok (.getfield 48, 3) := by decide +kernel
theorem dX3_copyFrom_93 : decode cX3_copyFrom 93 = .ok (.putfield 48, 3) := by decide +kernel
theorem dX3_copyFrom_96 : decode cX3_copyFrom 96 = .ok (.return_, 1) := by decide +kernel
theorem dX4_init_0 : decode cX4_init 0 = .ok (.aload_n 0, 1) := by decide +kernel
theorem dX4_init_1 : decode cX4_init 1 = .ok (.invokespecial 1, 3) := by decide +kernel
theorem dX4_init_4 : decode cX4_init 4 = .ok (.aload_n 0, 1) := by decide +kernel
theorem dX4_init_5 : decode cX4_init 5 = .ok (.new 7, 3) := by decide +kernel
theorem dX4_init_8 : decode cX4_init 8 = .ok (.dup, 1) := by decide +kernel
theorem dX4_init_9 : decode cX4_init 9 = .ok (.invokespecial 9, 3) := by decide +kernel
theorem dX4_init_12 : decode cX4_init 12 = .ok (.putfield 10, 3) := by decide +kernel
theorem dX4_init_15 : decode cX4_init 15 = .ok (.aload_n 0, 1) := by decide +kernel
theorem dX4_init_16 : decode cX4_init 16 = .ok (.new 7, 3) := by decide +kernel
theorem dX4_init_19 : decode cX4_init 19 = .ok (.dup, 1) := by decide +kernel
theorem dX4_init_20 : decode cX4_init 20 = .ok (.invokespecial 9, 3) := by decide +kernel
theorem dX4_init_23 : decode cX4_init 23 = .ok (.putfield 16, 3) := by decide +kernel
theorem dX4_init_26 : decode cX4_init 26 = .ok (.aload_n 0, 1) := by decide +kernel
theorem dX4_init_27 : decode cX4_init 27 = .ok (.bipush 8, 2) := by decide +kernel
theorem dX4_init_29 : decode cX4_init 29 = .ok (.anewarray 7, 3) := by decide +kernel
theorem dX4_init_32 : decode cX4_init 32 = .ok (.putfield 19, 3) := by decide +kernel
theorem dX4_init_35 : decode cX4_init 35 = .ok (.iconst 0, 1) := by decide +kernel
theorem dX4_init_36 : decode cX4_init 36 = .ok (.istore_n 1, 1) := by decide +kernel
theorem dX4_init_37 : decode cX4_init 37 = .ok (.iload_n 1, 1) := by decide +kernel
theorem dX4_init_38 : decode cX4_init 38 = .ok (.bipush 8, 2) := by decide +kernel
theorem dX4_init_40 : decode cX4_init 40 = .ok (.if_icmp .ge 22, 3) := by decide +kernel
theorem dX4_init_43 : decode cX4_init 43 = .ok (.aload_n 0, 1) := by decide +kernel
theorem dX4_init_44 : decode cX4_init 44 = .ok (.getfield 19, 3) := by decide +kernel
theorem dX4_init_47 : decode cX4_init 47 = .ok (.iload_n 1, 1) := by decide +kernel
theorem dX4_init_48 : decode cX4_init 48 = .ok (.new 7, 3) := by decide +kernel
theorem dX4_init_51 : decode cX4_init 51 = .ok (.dup, 1) := by decide +kernel
theorem dX4_init_52 : decode cX4_init 52 = .ok (.invokespecial 9, 3) := by decide +kernel
theorem dX4_init_55 : decode cX4_init 55 = .ok (.aastore, 1) := by decide +kernel
theorem dX4_init_56 : decode cX4_init 56 = .ok (.iinc 1 1, 3) := by decide +kernel
theorem dX4_init_59 : decode cX4_init 59 = .ok (.goto (-22), 3) := by decide +kernel
theorem dX4_init_62 : decode cX4_init 62 = .ok (.aload_n 0, 1) := by decide +kernel
theorem dX4_init_63 : decode cX4_init 63 = .ok (.bipush 8, 2) := by decide +kernel
theorem dX4_init_65 : decode cX4_init 65 = .ok (.newarray .int, 2) := by decide +kernel
theorem dX4_init_67 : decode cX4_init 67 = .ok (.putfield 23, 3) := by decide +kernel
theorem dX4_init_70 : decode cX4_init 70 = .ok (.aload_n 0, 1) := by decide +kernel
theorem dX4_init_71 : decode cX4_init 71 = .ok (.iconst 0, 1) := by decide +kernel
theorem dX4_init_72 : decode cX4_init 72 = .ok (.putfield 27, 3) := by decide +kernel
theorem dX4_init_75 : decode cX4_init 75 = .ok (.aload_n 0, 1) := by decide +kernel
theorem dX4_init_76 : decode cX4_init 76 = .ok (.iconst 0, 1) := by decide +kernel
theorem dX4_init_77 : decode cX4_init 77 = .ok (.putfield 31, 3) := by decide +kernel
theorem dX4_init_80 : decode cX4_init 80 = .ok (.return_, 1) := by decide +kernel
theorem dX4_addAsset_0 : decode cX4_addAsset 0 = .ok (.iload_n 1, 1) := by decide +kernel
theorem dX4_addAsset_1 : decode cX4_addAsset 1 = .ok (.iconst 1, 1) := by decide +kernel
theorem dX4_addAsset_2 : decode cX4_addAsset 2 = .ok (.bipush 9, 2) := by decide +kernel
theorem dX4_addAsset_4 : decode cX4_addAsset 4 = .ok (.invokestatic 34, 3) := by decide +kernel
theorem dX4_addAsset_7 : decode cX4_addAsset 7 = .ok (.ifCond .ne 14, 3) := by decide +kernel
theorem dX4_addAsset_10 : decode cX4_addAsset 10 = .ok (.iload_n 2, 1) := by decide +kernel
theorem dX4_addAsset_11 : decode cX4_addAsset 11 = .ok (.iconst 0, 1) := by decide +kernel
theorem dX4_addAsset_12 : decode cX4_addAsset 12 = .ok (.sipush 10000, 3) := by decide +kernel
theorem dX4_addAsset_15 : decode cX4_addAsset 15 = .ok (.invokestatic 34, 3) := by decide +kernel
theorem dX4_addAsset_18 : decode cX4_addAsset 18 = .ok (.ifCond .eq 7, 3) := by decide +kernel
theorem dX4_addAsset_21 : decode cX4_addAsset 21 = .ok (.sipush (-10001), 3) := by decide +kernel
theorem dX4_addAsset_24 : decode cX4_addAsset 24 = .ok (.ireturn, 1) := by decide +kernel
theorem dX4_addAsset_25 : decode cX4_addAsset 25 = .ok (.aload_n 0, 1) := by decide +kernel
theorem dX4_addAsset_26 : decode cX4_addAsset 26 = .ok (.getfield 10, 3) := by decide +kernel
theorem dX4_addAsset_29 : decode cX4_addAsset 29 = .ok (.getfield 38, 3) := by decide +kernel
theorem dX4_addAsset_32 : decode cX4_addAsset 32 = .ok (.bipush 6, 2) := by decide +kernel
theorem dX4_addAsset_34 : decode cX4_addAsset 34 = .ok (.if_icmp .lt 7, 3) := by decide +kernel
theorem dX4_addAsset_37 : decode cX4_addAsset 37 = .ok (.sipush (-10003), 3) := by decide +kernel
theorem dX4_addAsset_40 : decode cX4_addAsset 40 = .ok (.ireturn, 1) := by decide +kernel
theorem dX4_addAsset_41 : decode cX4_addAsset 41 = .ok (.aload_n 0, 1) := by decide +kernel
theorem dX4_addAsset_42 : decode cX4_addAsset 42 = .ok (.invokevirtual 41, 3) := by decide +kernel
theorem dX4_addAsset_45 : decode cX4_addAsset 45 = .ok (.aload_n 0, 1) := by decide +kernel
theorem dX4_addAsset_46 : decode cX4_addAsset 46 = .ok (.getfield 10, 3) := by decide +kernel
theorem dX4_addAsset_49 : decode cX4_addAsset 49 = .ok (.iload_n 1, 1) := by decide +kernel
theorem dX4_addAsset_50 : decode cX4_addAsset 50 = .ok (.iload_n 2, 1) := by decide +kernel
theorem dX4_addAsset_51 : decode cX4_addAsset 51 = .ok (.invokevirtual 44, 3) := by decide +kernel
theorem dX4_addAsset_54 : decode cX4_addAsset 54 = .ok (.ireturn, 1) := by decide +kernel
theorem dX4_addHunter_0 : decode cX4_addHunter 0 = .ok (.aload_n 0, 1) := by decide +kernel
theorem dX4_addHunter_1 : decode cX4_addHunter 1 = .ok (.getfield 10, 3) := by decide +kernel
theorem dX4_addHunter_4 : decode cX4_addHunter 4 = .ok (.getfield 48, 3) := by decide +kernel
theorem dX4_addHunter_7 : decode cX4_addHunter 7 = .ok (.bipush 8, 2) := by decide +kernel
theorem dX4_addHunter_9 : decode cX4_addHunter 9 = .ok (.if_icmp .lt 7, 3) := by decide +kernel
theorem dX4_addHunter_12 : decode cX4_addHunter 12 = .ok (.sipush (-10003), 3) := by decide +kernel
theorem dX4_addHunter_15 : decode cX4_addHunter 15 = .ok (.ireturn, 1) := by decide +kernel
theorem dX4_addHunter_16 : decode cX4_addHunter 16 = .ok (.aload_n 0, 1) := by decide +kernel
theorem dX4_addHunter_17 : decode cX4_addHunter 17 = .ok (.invokevirtual 41, 3) := by decide +kernel
theorem dX4_addHunter_20 : decode cX4_addHunter 20 = .ok (.aload_n 0, 1) := by decide +kernel
theorem dX4_addHunter_21 : decode cX4_addHunter 21 = .ok (.getfield 10, 3) := by decide +kernel
theorem dX4_addHunter_24 : decode cX4_addHunter 24 = .ok (.invokevirtual 51, 3) := by decide +kernel
theorem dX4_addHunter_27 : decode cX4_addHunter 27 = .ok (.ireturn, 1) := by decide +kernel
theorem dX4_fill_0 : decode cX4_fill 0 = .ok (.iload_n 1, 1) := by decide +kernel
theorem dX4_fill_1 : decode cX4_fill 1 = .ok (.iconst 1, 1) := by decide +kernel
theorem dX4_fill_2 : decode cX4_fill 2 = .ok (.ldc 55, 2) := by decide +kernel
theorem dX4_fill_4 : decode cX4_fill 4 = .ok (.invokestatic 34, 3) := by decide +kernel
theorem dX4_fill_7 : decode cX4_fill 7 = .ok (.ifCond .eq 7, 3) := by decide +kernel
theorem dX4_fill_10 : decode cX4_fill 10 = .ok (.sipush (-10001), 3) := by decide +kernel
theorem dX4_fill_13 : decode cX4_fill 13 = .ok (.ireturn, 1) := by decide +kernel
theorem dX4_fill_14 : decode cX4_fill 14 = .ok (.aload_n 0, 1) := by decide +kernel
theorem dX4_fill_15 : decode cX4_fill 15 = .ok (.getfield 10, 3) := by decide +kernel
theorem dX4_fill_18 : decode cX4_fill 18 = .ok (.getfield 56, 3) := by decide +kernel
theorem dX4_fill_21 : decode cX4_fill 21 = .ok (.iload_n 1, 1) := by decide +kernel
theorem dX4_fill_22 : decode cX4_fill 22 = .ok (.iadd, 1) := by decide +kernel
theorem dX4_fill_23 : decode cX4_fill 23 = .ok (.ldc 59, 2) := by decide +kernel
theorem dX4_fill_25 : decode cX4_fill 25 = .ok (.if_icmp .le 7, 3) := by decide +kernel
theorem dX4_fill_28 : decode cX4_fill 28 = .ok (.sipush (-10002), 3) := by decide +kernel
theorem dX4_fill_31 : decode cX4_fill 31 = .ok (.ireturn, 1) := by decide +kernel
theorem dX4_fill_32 : decode cX4_fill 32 = .ok (.aload_n 0, 1) := by decide +kernel
theorem dX4_fill_33 : decode cX4_fill 33 = .ok (.invokevirtual 41, 3) := by decide +kernel
theorem dX4_fill_36 : decode cX4_fill 36 = .ok (.aload_n 0, 1) := by decide +kernel
theorem dX4_fill_37 : decode cX4_fill 37 = .ok (.getfield 10, 3) := by decide +kernel
theorem dX4_fill_40 : decode cX4_fill 40 = .ok (.dup, 1) := by decide +kernel
theorem dX4_fill_41 : decode cX4_fill 41 = .ok (.getfield 56, 3) := by decide +kernel
theorem dX4_fill_44 : decode cX4_fill 44 = .ok (.iload_n 1, 1) := by decide +kernel
theorem dX4_fill_45 : decode cX4_fill 45 = .ok (.iadd, 1) := by decide +kernel
theorem dX4_fill_46 : decode cX4_fill 46 = .ok (.putfield 56, 3) := by decide +kernel
theorem dX4_fill_49 : decode cX4_fill 49 = .ok (.aload_n 0, 1) := by decide +kernel
theorem dX4_fill_50 : decode cX4_fill 50 = .ok (.getfield 10, 3) := by decide +kernel
theorem dX4_fill_53 : decode cX4_fill 53 = .ok (.getfield 56, 3) := by decide +kernel
theorem dX4_fill_56 : decode cX4_fill 56 = .ok (.ireturn, 1) := by decide +kernel
theorem dX4_setRate_0 : decode cX4_setRate 0 = .ok (.iload_n 1, 1) := by decide +kernel
theorem dX4_setRate_1 : decode cX4_setRate 1 = .ok (.bipush 50, 2) := by decide +kernel
theorem dX4_setRate_3 : decode cX4_setRate 3 = .ok (.sipush 200, 3) := by decide +kernel
theorem dX4_setRate_6 : decode cX4_setRate 6 = .ok (.invokestatic 34, 3) := by decide +kernel
theorem dX4_setRate_9 : decode cX4_setRate 9 = .ok (.ifCond .eq 7, 3) := by decide +kernel
theorem dX4_setRate_12 : decode cX4_setRate 12 = .ok (.sipush (-10001), 3) := by decide +kernel
theorem dX4_setRate_15 : decode cX4_setRate 15 = .ok (.ireturn, 1) := by decide +kernel
theorem dX4_setRate_16 : decode cX4_setRate 16 = .ok (.aload_n 0, 1) := by decide +kernel
theorem dX4_setRate_17 : decode cX4_setRate 17 = .ok (.invokevirtual 41, 3) := by decide +kernel
theorem dX4_setRate_20 : decode cX4_setRate 20 = .ok (.aload_n 0, 1) := by decide +kernel
theorem dX4_setRate_21 : decode cX4_setRate 21 = .ok (.getfield 10, 3) := by decide +kernel
theorem dX4_setRate_24 : decode cX4_setRate 24 = .ok (.getfield 60, 3) := by decide +kernel
theorem dX4_setRate_27 : decode cX4_setRate 27 = .ok (.istore_n 2, 1) := by decide +kernel
theorem dX4_setRate_28 : decode cX4_setRate 28 = .ok (.aload_n 0, 1) := by decide +kernel
theorem dX4_setRate_29 : decode cX4_setRate 29 = .ok (.getfield 10, 3) := by decide +kernel
theorem dX4_setRate_32 : decode cX4_setRate 32 = .ok (.iload_n 1, 1) := by decide +kernel
theorem dX4_setRate_33 : decode cX4_setRate 33 = .ok (.putfield 60, 3) := by decide +kernel
theorem dX4_setRate_36 : decode cX4_setRate 36 = .ok (.iload_n 2, 1) := by decide +kernel
theorem dX4_setRate_37 : decode cX4_setRate 37 = .ok (.ireturn, 1) := by decide +kernel
theorem dX4_setBonus_0 : decode cX4_setBonus 0 = .ok (.iload_n 1, 1) := by decide +kernel
theorem dX4_setBonus_1 : decode cX4_setBonus 1 = .ok (.iconst 0, 1) := by decide +kernel
theorem dX4_setBonus_2 : decode cX4_setBonus 2 = .ok (.sipush 500, 3) := by decide +kernel
theorem dX4_setBonus_5 : decode cX4_setBonus 5 = .ok (.invokestatic 34, 3) := by decide +kernel
theorem dX4_setBonus_8 : decode cX4_setBonus 8 = .ok (.ifCond .eq 7, 3) := by decide +kernel
theorem dX4_setBonus_11 : decode cX4_setBonus 11 = .ok (.sipush (-10001), 3) := by decide +kernel
theorem dX4_setBonus_14 : decode cX4_setBonus 14 = .ok (.ireturn, 1) := by decide +kernel
theorem dX4_setBonus_15 : decode cX4_setBonus 15 = .ok (.aload_n 0, 1) := by decide +kernel
theorem dX4_setBonus_16 : decode cX4_setBonus 16 = .ok (.invokevirtual 41, 3) := by decide +kernel
theorem dX4_setBonus_19 : decode cX4_setBonus 19 = .ok (.aload_n 0, 1) := by decide +kernel
theorem dX4_setBonus_20 : decode cX4_setBonus 20 = .ok (.getfield 10, 3) := by decide +kernel
theorem dX4_setBonus_23 : decode cX4_setBonus 23 = .ok (.getfield 63, 3) := by decide +kernel
theorem dX4_setBonus_26 : decode cX4_setBonus 26 = .ok (.istore_n 2, 1) := by decide +kernel
theorem dX4_setBonus_27 : decode cX4_setBonus 27 = .ok (.aload_n 0, 1) := by decide +kernel
theorem dX4_setBonus_28 : decode cX4_setBonus 28 = .ok (.getfield 10, 3) := by decide +kernel
theorem dX4_setBonus_31 : decode cX4_setBonus 31 = .ok (.iload_n 1, 1) := by decide +kernel
theorem dX4_setBonus_32 : decode cX4_setBonus 32 = .ok (.putfield 63, 3) := by decide +kernel
theorem dX4_setBonus_35 : decode cX4_setBonus 35 = .ok (.iload_n 2, 1) := by decide +kernel
theorem dX4_setBonus_36 : decode cX4_setBonus 36 = .ok (.ireturn, 1) := by decide +kernel
theorem dX4_report_0 : decode cX4_report 0 = .ok (.aload_n 0, 1) := by decide +kernel
theorem dX4_report_1 : decode cX4_report 1 = .ok (.getfield 10, 3) := by decide +kernel
theorem dX4_report_4 : decode cX4_report 4 = .ok (.iload_n 1, 1) := by decide +kernel
theorem dX4_report_5 : decode cX4_report 5 = .ok (.invokevirtual 66, 3) := by decide +kernel
theorem dX4_report_8 : decode cX4_report 8 = .ok (.ifCond .eq 24, 3) := by decide +kernel
theorem dX4_report_11 : decode cX4_report 11 = .ok (.aload_n 0, 1) := by decide +kernel
theorem dX4_report_12 : decode cX4_report 12 = .ok (.getfield 10, 3) := by decide +kernel
theorem dX4_report_15 : decode cX4_report 15 = .ok (.iload_n 2, 1) := by decide +kernel
theorem dX4_report_16 : decode cX4_report 16 = .ok (.invokevirtual 70, 3) := by decide +kernel
theorem dX4_report_19 : decode cX4_report 19 = .ok (.ifCond .eq 13, 3) := by decide +kernel
theorem dX4_report_22 : decode cX4_report 22 = .ok (.iload_n 3, 1) := by decide +kernel
theorem dX4_report_23 : decode cX4_report 23 = .ok (.iconst 0, 1) := by decide +kernel
theorem dX4_report_24 : decode cX4_report 24 = .ok (.bipush 99, 2) := by decide +kernel
theorem dX4_report_26 : decode cX4_report 26 = .ok (.invokestatic 34, 3) := by decide +kernel
theorem dX4_report_29 : decode cX4_report 29 = .ok (.ifCond .eq 7, 3) := by decide +kernel
theorem dX4_report_32 : decode cX4_report 32 = .ok (.sipush (-10001), 3) := by decide +kernel
theorem dX4_report_35 : decode cX4_report 35 = .ok (.ireturn, 1) := by decide +kernel
theorem dX4_report_36 : decode cX4_report 36 = .ok (.aload_n 0, 1) := by decide +kernel
theorem dX4_report_37 : decode cX4_report 37 = .ok (.getfield 10, 3) := by decide +kernel
theorem dX4_report_40 : decode cX4_report 40 = .ok (.getfield 73, 3) := by decide +kernel
theorem dX4_report_43 : decode cX4_report 43 = .ok (.bipush 40, 2) := by decide +kernel
theorem dX4_report_45 : decode cX4_report 45 = .ok (.if_icmp .lt 7, 3) := by decide +kernel
theorem dX4_report_48 : decode cX4_report 48 = .ok (.sipush (-10003), 3) := by decide +kernel
theorem dX4_report_51 : decode cX4_report 51 = .ok (.ireturn, 1) := by decide +kernel
theorem dX4_report_52 : decode cX4_report 52 = .ok (.aload_n 0, 1) := by decide +kernel
theorem dX4_report_53 : decode cX4_report 53 = .ok (.invokevirtual 41, 3) := by decide +kernel
theorem dX4_report_56 : decode cX4_report 56 = .ok (.aload_n 0, 1) := by decide +kernel
theorem dX4_report_57 : decode cX4_report 57 = .ok (.getfield 10, 3) := by decide +kernel
theorem dX4_report_60 : decode cX4_report 60 = .ok (.iload_n 1, 1) := by decide +kernel
theorem dX4_report_61 : decode cX4_report 61 = .ok (.iload_n 2, 1) := by decide +kernel
theorem dX4_report_62 : decode cX4_report 62 = .ok (.iload_n 3, 1) := by decide +kernel
theorem dX4_report_63 : decode cX4_report 63 = .ok (.invokevirtual 76, 3) := by decide +kernel
theorem dX4_report_66 : decode cX4_report 66 = .ok (.ireturn, 1) := by decide +kernel
theorem dX4_fold_0 : decode cX4_fold 0 = .ok (.aload_n 0, 1) := by decide +kernel
theorem dX4_fold_1 : decode cX4_fold 1 = .ok (.getfield 10, 3) := by decide +kernel
theorem dX4_fold_4 : decode cX4_fold 4 = .ok (.iload_n 1, 1) := by decide +kernel
theorem dX4_fold_5 : decode cX4_fold 5 = .ok (.invokevirtual 80, 3) := by decide +kernel
theorem dX4_fold_8 : decode cX4_fold 8 = .ok (.ifCond .ne 7, 3) := by decide +kernel
theorem dX4_fold_11 : decode cX4_fold 11 = .ok (.sipush (-10001), 3) := by decide +kernel
theorem dX4_fold_14 : decode cX4_fold 14 = .ok (.ireturn, 1) := by decide +kernel
theorem dX4_fold_15 : decode cX4_fold 15 = .ok (.aload_n 0, 1) := by decide +kernel
theorem dX4_fold_16 : decode cX4_fold 16 = .ok (.getfield 10, 3) := by decide +kernel
theorem dX4_fold_19 : decode cX4_fold 19 = .ok (.iload_n 1, 1) := by decide +kernel
theorem dX4_fold_20 : decode cX4_fold 20 = .ok (.invokevirtual 83, 3) := by decide +kernel
theorem dX4_fold_23 : decode cX4_fold 23 = .ok (.istore_n 2, 1) := by decide +kernel
theorem dX4_fold_24 : decode cX4_fold 24 = .ok (.iload_n 2, 1) := by decide +kernel
theorem dX4_fold_25 : decode cX4_fold 25 = .ok (.sipush (-10009), 3) := by decide +kernel
theorem dX4_fold_28 : decode cX4_fold 28 = .ok (.if_icmp .ne 7, 3) := by decide +kernel
theorem dX4_fold_31 : decode cX4_fold 31 = .ok (.sipush (-10002), 3) := by decide +kernel
theorem dX4_fold_34 : decode cX4_fold 34 = .ok (.ireturn, 1) := by decide +kernel
theorem dX4_fold_35 : decode cX4_fold 35 = .ok (.aload_n 0, 1) := by decide +kernel
theorem dX4_fold_36 : decode cX4_fold 36 = .ok (.invokevirtual 41, 3) := by decide +kernel
theorem dX4_fold_39 : decode cX4_fold 39 = .ok (.aload_n 0, 1) := by decide +kernel
theorem dX4_fold_40 : decode cX4_fold 40 = .ok (.getfield 10, 3) := by decide +kernel
theorem dX4_fold_43 : decode cX4_fold 43 = .ok (.getfield 87, 3) := by decide +kernel
theorem dX4_fold_46 : decode cX4_fold 46 = .ok (.iload_n 1, 1) := by decide +kernel
theorem dX4_fold_47 : decode cX4_fold 47 = .ok (.aaload, 1) := by decide +kernel
theorem dX4_fold_48 : decode cX4_fold 48 = .ok (.astore_n 3, 1) := by decide +kernel
theorem dX4_fold_49 : decode cX4_fold 49 = .ok (.aload_n 3, 1) := by decide +kernel
theorem dX4_fold_50 : decode cX4_fold 50 = .ok (.iconst 5, 1) := by decide +kernel
theorem dX4_fold_51 : decode cX4_fold 51 = .ok (.putfield 91, 3) := by decide +kernel
theorem dX4_fold_54 : decode cX4_fold 54 = .ok (.aload_n 3, 1) := by decide +kernel
theorem dX4_fold_55 : decode cX4_fold 55 = .ok (.iload_n 2, 1) := by decide +kernel
theorem dX4_fold_56 : decode cX4_fold 56 = .ok (.putfield 96, 3) := by decide +kernel
theorem dX4_fold_59 : decode cX4_fold 59 = .ok (.iload_n 2, 1) := by decide +kernel
theorem dX4_fold_60 : decode cX4_fold 60 = .ok (.ireturn, 1) := by decide +kernel
theorem dX4_grade_0 : decode cX4_grade 0 = .ok (.aload_n 0, 1) := by decide +kernel
theorem dX4_grade_1 : decode cX4_grade 1 = .ok (.getfield 10, 3) := by decide +kernel
theorem dX4_grade_4 : decode cX4_grade 4 = .ok (.iload_n 1, 1) := by decide +kernel
theorem dX4_grade_5 : decode cX4_grade 5 = .ok (.invokevirtual 80, 3) := by decide +kernel
theorem dX4_grade_8 : decode cX4_grade 8 = .ok (.ifCond .eq 12, 3) := by decide +kernel
theorem dX4_grade_11 : decode cX4_grade 11 = .ok (.iload_n 2, 1) := by decide +kernel
theorem dX4_grade_12 : decode cX4_grade 12 = .ok (.iconst 1, 1) := by decide +kernel
theorem dX4_grade_13 : decode cX4_grade 13 = .ok (.iconst 4, 1) := by decide +kernel
theorem dX4_grade_14 : decode cX4_grade 14 = .ok (.invokestatic 34, 3) := by decide +kernel
theorem dX4_grade_17 : decode cX4_grade 17 = .ok (.ifCond .eq 7, 3) := by decide +kernel
theorem dX4_grade_20 : decode cX4_grade 20 = .ok (.sipush (-10001), 3) := by decide +kernel
theorem dX4_grade_23 : decode cX4_grade 23 = .ok (.ireturn, 1) := by decide +kernel
theorem dX4_grade_24 : decode cX4_grade 24 = .ok (.aload_n 0, 1) := by decide +kernel
theorem dX4_grade_25 : decode cX4_grade 25 = .ok (.getfield 10, 3) := by decide +kernel
theorem dX4_grade_28 : decode cX4_grade 28 = .ok (.getfield 87, 3) := by decide +kernel
theorem dX4_grade_31 : decode cX4_grade 31 = .ok (.iload_n 1, 1) := by decide +kernel
theorem dX4_grade_32 : decode cX4_grade 32 = .ok (.aaload, 1) := by decide +kernel
theorem dX4_grade_33 : decode cX4_grade 33 = .ok (.astore_n 3, 1) := by decide +kernel
theorem dX4_grade_34 : decode cX4_grade 34 = .ok (.aload_n 3, 1) := by decide +kernel
theorem dX4_grade_35 : decode cX4_grade 35 = .ok (.getfield 91, 3) := by decide +kernel
theorem dX4_grade_38 : decode cX4_grade 38 = .ok (.ifCond .eq 7, 3) := by decide +kernel
theorem dX4_grade_41 : decode cX4_grade 41 = .ok (.sipush (-10002), 3) := by decide +kernel
theorem dX4_grade_44 : decode cX4_grade 44 = .ok (.ireturn, 1) := by decide +kernel
theorem dX4_grade_45 : decode cX4_grade 45 = .ok (.aload_n 0, 1) := by decide +kernel
theorem dX4_grade_46 : decode cX4_grade 46 = .ok (.invokevirtual 41, 3) := by decide +kernel
theorem dX4_grade_49 : decode cX4_grade 49 = .ok (.aload_n 3, 1) := by decide +kernel
theorem dX4_grade_50 : decode cX4_grade 50 = .ok (.iconst 1, 1) := by decide +kernel
theorem dX4_grade_51 : decode cX4_grade 51 = .ok (.putfield 91, 3) := by decide +kernel
theorem dX4_grade_54 : decode cX4_grade 54 = .ok (.aload_n 3, 1) := by decide +kernel
theorem dX4_grade_55 : decode cX4_grade 55 = .ok (.iload_n 2, 1) := by decide +kernel
theorem dX4_grade_56 : decode cX4_grade 56 = .ok (.putfield 99, 3) := by decide +kernel
theorem dX4_grade_59 : decode cX4_grade 59 = .ok (.aload_n 0, 1) := by decide +kernel
theorem dX4_grade_60 : decode cX4_grade 60 = .ok (.getfield 10, 3) := by decide +kernel
theorem dX4_grade_63 : decode cX4_grade 63 = .ok (.aload_n 3, 1) := by decide +kernel
theorem dX4_grade_64 : decode cX4_grade 64 = .ok (.invokevirtual 102, 3) := by decide +kernel
theorem dX4_grade_67 : decode cX4_grade 67 = .ok (.ireturn, 1) := by decide +kernel
theorem dX4_refuse_0 : decode cX4_refuse 0 = .ok (.aload_n 0, 1) := by decide +kernel
theorem dX4_refuse_1 : decode cX4_refuse 1 = .ok (.getfield 10, 3) := by decide +kernel
theorem dX4_refuse_4 : decode cX4_refuse 4 = .ok (.iload_n 1, 1) := by decide +kernel
theorem dX4_refuse_5 : decode cX4_refuse 5 = .ok (.invokevirtual 80, 3) := by decide +kernel
theorem dX4_refuse_8 : decode cX4_refuse 8 = .ok (.ifCond .ne 7, 3) := by decide +kernel
theorem dX4_refuse_11 : decode cX4_refuse 11 = .ok (.sipush (-10001), 3) := by decide +kernel
theorem dX4_refuse_14 : decode cX4_refuse 14 = .ok (.ireturn, 1) := by decide +kernel
theorem dX4_refuse_15 : decode cX4_refuse 15 = .ok (.aload_n 0, 1) := by decide +kernel
theorem dX4_refuse_16 : decode cX4_refuse 16 = .ok (.getfield 10, 3) := by decide +kernel
theorem dX4_refuse_19 : decode cX4_refuse 19 = .ok (.getfield 87, 3) := by decide +kernel
theorem dX4_refuse_22 : decode cX4_refuse 22 = .ok (.iload_n 1, 1) := by decide +kernel
theorem dX4_refuse_23 : decode cX4_refuse 23 = .ok (.aaload, 1) := by decide +kernel
theorem dX4_refuse_24 : decode cX4_refuse 24 = .ok (.astore_n 2, 1) := by decide +kernel
theorem dX4_refuse_25 : decode cX4_refuse 25 = .ok (.aload_n 2, 1) := by decide +kernel
theorem dX4_refuse_26 : decode cX4_refuse 26 = .ok (.getfield 91, 3) := by decide +kernel
theorem dX4_refuse_29 : decode cX4_refuse 29 = .ok (.ifCond .eq 14, 3) := by decide +kernel
theorem dX4_refuse_32 : decode cX4_refuse 32 = .ok (.aload_n 2, 1) := by decide +kernel
theorem dX4_refuse_33 : decode cX4_refuse 33 = .ok (.invokevirtual 106, 3) := by decide +kernel
theorem dX4_refuse_36 : decode cX4_refuse 36 = .ok (.ifCond .ne 7, 3) := by decide +kernel
theorem dX4_refuse_39 : decode cX4_refuse 39 = .ok (.sipush (-10002), 3) := by decide +kernel
theorem dX4_refuse_42 : decode cX4_refuse 42 = .ok (.ireturn, 1) := by decide +kernel
theorem dX4_refuse_43 : decode cX4_refuse 43 = .ok (.aload_n 2, 1) := by decide +kernel
theorem dX4_refuse_44 : decode cX4_refuse 44 = .ok (.getfield 110, 3) := by decide +kernel
theorem dX4_refuse_47 : decode cX4_refuse 47 = .ok (.iconst 1, 1) := by decide +kernel
theorem dX4_refuse_48 : decode cX4_refuse 48 = .ok (.if_icmp .ne 7, 3) := by decide +kernel
theorem dX4_refuse_51 : decode cX4_refuse 51 = .ok (.sipush (-10002), 3) := by decide +kernel
theorem dX4_refuse_54 : decode cX4_refuse 54 = .ok (.ireturn, 1) := by decide +kernel
theorem dX4_refuse_55 : decode cX4_refuse 55 = .ok (.aload_n 0, 1) := by decide +kernel
theorem dX4_refuse_56 : decode cX4_refuse 56 = .ok (.invokevirtual 41, 3) := by decide +kernel
theorem dX4_refuse_59 : decode cX4_refuse 59 = .ok (.aload_n 2, 1) := by decide +kernel
theorem dX4_refuse_60 : decode cX4_refuse 60 = .ok (.iconst 4, 1) := by decide +kernel
theorem dX4_refuse_61 : decode cX4_refuse 61 = .ok (.putfield 91, 3) := by decide +kernel
theorem dX4_refuse_64 : decode cX4_refuse 64 = .ok (.aload_n 0, 1) := by decide +kernel
theorem dX4_refuse_65 : decode cX4_refuse 65 = .ok (.getfield 10, 3) := by decide +kernel
theorem dX4_refuse_68 : decode cX4_refuse 68 = .ok (.iload_n 1, 1) := by decide +kernel
theorem dX4_refuse_69 : decode cX4_refuse 69 = .ok (.invokevirtual 113, 3) := by decide +kernel
theorem dX4_refuse_72 : decode cX4_refuse 72 = .ok (.ireturn, 1) := by decide +kernel
theorem dX4_appeal_0 : decode cX4_appeal 0 = .ok (.aload_n 0, 1) := by decide +kernel
theorem dX4_appeal_1 : decode cX4_appeal 1 = .ok (.getfield 10, 3) := by decide +kernel
theorem dX4_appeal_4 : decode cX4_appeal 4 = .ok (.iload_n 1, 1) := by decide +kernel
theorem dX4_appeal_5 : decode cX4_appeal 5 = .ok (.invokevirtual 80, 3) := by decide +kernel
theorem dX4_appeal_8 : decode cX4_appeal 8 = .ok (.ifCond .eq 12, 3) := by decide +kernel
theorem dX4_appeal_11 : decode cX4_appeal 11 = .ok (.iload_n 2, 1) := by decide +kernel
theorem dX4_appeal_12 : decode cX4_appeal 12 = .ok (.iconst 2, 1) := by decide +kernel
theorem dX4_appeal_13 : decode cX4_appeal 13 = .ok (.iconst 4, 1) := by decide +kernel
theorem dX4_appeal_14 : decode cX4_appeal 14 = .ok (.invokestatic 34, 3) := by decide +kernel
theorem dX4_appeal_17 : decode cX4_appeal 17 = .ok (.ifCond .eq 7, 3) := by decide +kernel
theorem dX4_appeal_20 : decode cX4_appeal 20 = .ok (.sipush (-10001), 3) := by decide +kernel
theorem dX4_appeal_23 : decode cX4_appeal 23 = .ok (.ireturn, 1) := by decide +kernel
theorem dX4_appeal_24 : decode cX4_appeal 24 = .ok (.aload_n 0, 1) := by decide +kernel
theorem dX4_appeal_25 : decode cX4_appeal 25 = .ok (.getfield 10, 3) := by decide +kernel
theorem dX4_appeal_28 : decode cX4_appeal 28 = .ok (.getfield 87, 3) := by decide +kernel
theorem dX4_appeal_31 : decode cX4_appeal 31 = .ok (.iload_n 1, 1) := by decide +kernel
theorem dX4_appeal_32 : decode cX4_appeal 32 = .ok (.aaload, 1) := by decide +kernel
theorem dX4_appeal_33 : decode cX4_appeal 33 = .ok (.astore_n 3, 1) := by decide +kernel
theorem dX4_appeal_34 : decode cX4_appeal 34 = .ok (.aload_n 3, 1) := by decide +kernel
theorem dX4_appeal_35 : decode cX4_appeal 35 = .ok (.invokevirtual 106, 3) := by decide +kernel
theorem dX4_appeal_38 : decode cX4_appeal 38 = .ok (.ifCond .eq 18, 3) := by decide +kernel
theorem dX4_appeal_41 : decode cX4_appeal 41 = .ok (.aload_n 3, 1) := by decide +kernel
theorem dX4_appeal_42 : decode cX4_appeal 42 = .ok (.getfield 110, 3) := by decide +kernel
theorem dX4_appeal_45 : decode cX4_appeal 45 = .ok (.ifCond .ne 11, 3) := by decide +kernel
theorem dX4_appeal_48 : decode cX4_appeal 48 = .ok (.iload_n 2, 1) := by decide +kernel
theorem dX4_appeal_49 : decode cX4_appeal 49 = .ok (.aload_n 3, 1) := by decide +kernel
theorem dX4_appeal_50 : decode cX4_appeal 50 = .ok (.getfield 99, 3) := by decide +kernel
theorem dX4_appeal_53 : decode cX4_appeal 53 = .ok (.if_icmp .gt 7, 3) := by decide +kernel
theorem dX4_appeal_56 : decode cX4_appeal 56 = .ok (.sipush (-10002), 3) := by decide +kernel
theorem dX4_appeal_59 : decode cX4_appeal 59 = .ok (.ireturn, 1) := by decide +kernel
theorem dX4_appeal_60 : decode cX4_appeal 60 = .ok (.aload_n 0, 1) := by decide +kernel
theorem dX4_appeal_61 : decode cX4_appeal 61 = .ok (.invokevirtual 41, 3) := by decide +kernel
theorem dX4_appeal_64 : decode cX4_appeal 64 = .ok (.aload_n 3, 1) := by decide +kernel
theorem dX4_appeal_65 : decode cX4_appeal 65 = .ok (.iconst 1, 1) := by decide +kernel
theorem dX4_appeal_66 : decode cX4_appeal 66 = .ok (.putfield 110, 3) := by decide +kernel
theorem dX4_appeal_69 : decode cX4_appeal 69 = .ok (.aload_n 3, 1) := by decide +kernel
theorem dX4_appeal_70 : decode cX4_appeal 70 = .ok (.iload_n 2, 1) := by decide +kernel
theorem dX4_appeal_71 : decode cX4_appeal 71 = .ok (.putfield 116, 3) := by decide +kernel
theorem dX4_appeal_74 : decode cX4_appeal 74 = .ok (.aload_n 0, 1) := by decide +kernel
theorem dX4_appeal_75 : decode cX4_appeal 75 = .ok (.getfield 10, 3) := by decide +kernel
theorem dX4_appeal_78 : decode cX4_appeal 78 = .ok (.aload_n 3, 1) := by decide +kernel
theorem dX4_appeal_79 : decode cX4_appeal 79 = .ok (.iload_n 2, 1) := by decide +kernel
theorem dX4_appeal_80 : decode cX4_appeal 80 = .ok (.invokevirtual 119, 3) := by decide +kernel
theorem dX4_appeal_83 : decode cX4_appeal 83 = .ok (.ireturn, 1) := by decide +kernel
theorem dX4_decide_0 : decode cX4_decide 0 = .ok (.aload_n 0, 1) := by decide +kernel
theorem dX4_decide_1 : decode cX4_decide 1 = .ok (.getfield 10, 3) := by decide +kernel
theorem dX4_decide_4 : decode cX4_decide 4 = .ok (.iload_n 1, 1) := by decide +kernel
theorem dX4_decide_5 : decode cX4_decide 5 = .ok (.invokevirtual 80, 3) := by decide +kernel
theorem dX4_decide_8 : decode cX4_decide 8 = .ok (.ifCond .ne 7, 3) := by decide +kernel
theorem dX4_decide_11 : decode cX4_decide 11 = .ok (.sipush (-10001), 3) := by decide +kernel
theorem dX4_decide_14 : decode cX4_decide 14 = .ok (.ireturn, 1) := by decide +kernel
theorem dX4_decide_15 : decode cX4_decide 15 = .ok (.aload_n 0, 1) := by decide +kernel
theorem dX4_decide_16 : decode cX4_decide 16 = .ok (.getfield 10, 3) := by decide +kernel
theorem dX4_decide_19 : decode cX4_decide 19 = .ok (.getfield 87, 3) := by decide +kernel
theorem dX4_decide_22 : decode cX4_decide 22 = .ok (.iload_n 1, 1) := by decide +kernel
theorem dX4_decide_23 : decode cX4_decide 23 = .ok (.aaload, 1) := by decide +kernel
theorem dX4_decide_24 : decode cX4_decide 24 = .ok (.astore_n 3, 1) := by decide +kernel
theorem dX4_decide_25 : decode cX4_decide 25 = .ok (.aload_n 3, 1) := by decide +kernel
theorem dX4_decide_26 : decode cX4_decide 26 = .ok (.getfield 110, 3) := by decide +kernel
theorem dX4_decide_29 : decode cX4_decide 29 = .ok (.iconst 1, 1) := by decide +kernel
theorem dX4_decide_30 : decode cX4_decide 30 = .ok (.if_icmp .eq 7, 3) := by decide +kernel
theorem dX4_decide_33 : decode cX4_decide 33 = .ok (.sipush (-10002), 3) := by decide +kernel
theorem dX4_decide_36 : decode cX4_decide 36 = .ok (.ireturn, 1) := by decide +kernel
theorem dX4_decide_37 : decode cX4_decide 37 = .ok (.iload_n 2, 1) := by decide +kernel
theorem dX4_decide_38 : decode cX4_decide 38 = .ok (.aload_n 3, 1) := by decide +kernel
theorem dX4_decide_39 : decode cX4_decide 39 = .ok (.getfield 99, 3) := by decide +kernel
theorem dX4_decide_42 : decode cX4_decide 42 = .ok (.aload_n 3, 1) := by decide +kernel
theorem dX4_decide_43 : decode cX4_decide 43 = .ok (.getfield 116, 3) := by decide +kernel
theorem dX4_decide_46 : decode cX4_decide 46 = .ok (.invokestatic 34, 3) := by decide +kernel
theorem dX4_decide_49 : decode cX4_decide 49 = .ok (.ifCond .eq 7, 3) := by decide +kernel
theorem dX4_decide_52 : decode cX4_decide 52 = .ok (.sipush (-10001), 3) := by decide +kernel
theorem dX4_decide_55 : decode cX4_decide 55 = .ok (.ireturn, 1) := by decide +kernel
theorem dX4_decide_56 : decode cX4_decide 56 = .ok (.aload_n 0, 1) := by decide +kernel
theorem dX4_decide_57 : decode cX4_decide 57 = .ok (.invokevirtual 41, 3) := by decide +kernel
theorem dX4_decide_60 : decode cX4_decide 60 = .ok (.aload_n 0, 1) := by decide +kernel
theorem dX4_decide_61 : decode cX4_decide 61 = .ok (.getfield 10, 3) := by decide +kernel
theorem dX4_decide_64 : decode cX4_decide 64 = .ok (.aload_n 3, 1) := by decide +kernel
theorem dX4_decide_65 : decode cX4_decide 65 = .ok (.iload_n 2, 1) := by decide +kernel
theorem dX4_decide_66 : decode cX4_decide 66 = .ok (.invokevirtual 123, 3) := by decide +kernel
theorem dX4_decide_69 : decode cX4_decide 69 = .ok (.ireturn, 1) := by decide +kernel
theorem dX4_pay_0 : decode cX4_pay 0 = .ok (.aload_n 0, 1) := by decide +kernel
theorem dX4_pay_1 : decode cX4_pay 1 = .ok (.getfield 10, 3) := by decide +kernel
theorem dX4_pay_4 : decode cX4_pay 4 = .ok (.iload_n 1, 1) := by decide +kernel
theorem dX4_pay_5 : decode cX4_pay 5 = .ok (.invokevirtual 80, 3) := by decide +kernel
theorem dX4_pay_8 : decode cX4_pay 8 = .ok (.ifCond .ne 7, 3) := by decide +kernel
theorem dX4_pay_11 : decode cX4_pay 11 = .ok (.sipush (-10001), 3) := by decide +kernel
theorem dX4_pay_14 : decode cX4_pay 14 = .ok (.ireturn, 1) := by decide +kernel
theorem dX4_pay_15 : decode cX4_pay 15 = .ok (.aload_n 0, 1) := by decide +kernel
theorem dX4_pay_16 : decode cX4_pay 16 = .ok (.getfield 10, 3) := by decide +kernel
theorem dX4_pay_19 : decode cX4_pay 19 = .ok (.getfield 87, 3) := by decide +kernel
theorem dX4_pay_22 : decode cX4_pay 22 = .ok (.iload_n 1, 1) := by decide +kernel
theorem dX4_pay_23 : decode cX4_pay 23 = .ok (.aaload, 1) := by decide +kernel
theorem dX4_pay_24 : decode cX4_pay 24 = .ok (.astore_n 2, 1) := by decide +kernel
theorem dX4_pay_25 : decode cX4_pay 25 = .ok (.aload_n 2, 1) := by decide +kernel
theorem dX4_pay_26 : decode cX4_pay 26 = .ok (.invokevirtual 106, 3) := by decide +kernel
theorem dX4_pay_29 : decode cX4_pay 29 = .ok (.ifCond .eq 11, 3) := by decide +kernel
theorem dX4_pay_32 : decode cX4_pay 32 = .ok (.aload_n 2, 1) := by decide +kernel
theorem dX4_pay_33 : decode cX4_pay 33 = .ok (.getfield 110, 3) := by decide +kernel
theorem dX4_pay_36 : decode cX4_pay 36 = .ok (.iconst 1, 1) := by decide +kernel
theorem dX4_pay_37 : decode cX4_pay 37 = .ok (.if_icmp .ne 7, 3) := by decide +kernel
theorem dX4_pay_40 : decode cX4_pay 40 = .ok (.sipush (-10002), 3) := by decide +kernel
theorem dX4_pay_43 : decode cX4_pay 43 = .ok (.ireturn, 1) := by decide +kernel
theorem dX4_pay_44 : decode cX4_pay 44 = .ok (.aload_n 0, 1) := by decide +kernel
theorem dX4_pay_45 : decode cX4_pay 45 = .ok (.invokevirtual 41, 3) := by decide +kernel
theorem dX4_pay_48 : decode cX4_pay 48 = .ok (.aload_n 0, 1) := by decide +kernel
theorem dX4_pay_49 : decode cX4_pay 49 = .ok (.getfield 10, 3) := by decide +kernel
theorem dX4_pay_52 : decode cX4_pay 52 = .ok (.iload_n 1, 1) := by decide +kernel
theorem dX4_pay_53 : decode cX4_pay 53 = .ok (.invokevirtual 126, 3) := by decide +kernel
theorem dX4_pay_56 : decode cX4_pay 56 = .ok (.ireturn, 1) := by decide +kernel
theorem dX4_retest_0 : decode cX4_retest 0 = .ok (.aload_n 0, 1) := by decide +kernel
theorem dX4_retest_1 : decode cX4_retest 1 = .ok (.getfield 10, 3) := by decide +kernel
theorem dX4_retest_4 : decode cX4_retest 4 = .ok (.iload_n 1, 1) := by decide +kernel
theorem dX4_retest_5 : decode cX4_retest 5 = .ok (.invokevirtual 66, 3) := by decide +kernel
theorem dX4_retest_8 : decode cX4_retest 8 = .ok (.ifCond .eq 23, 3) := by decide +kernel
theorem dX4_retest_11 : decode cX4_retest 11 = .ok (.aload_n 0, 1) := by decide +kernel
theorem dX4_retest_12 : decode cX4_retest 12 = .ok (.getfield 10, 3) := by decide +kernel
theorem dX4_retest_15 : decode cX4_retest 15 = .ok (.iload_n 2, 1) := by decide +kernel
theorem dX4_retest_16 : decode cX4_retest 16 = .ok (.invokevirtual 80, 3) := by decide +kernel
theorem dX4_retest_19 : decode cX4_retest 19 = .ok (.ifCond .eq 12, 3) := by decide +kernel
theorem dX4_retest_22 : decode cX4_retest 22 = .ok (.iload_n 3, 1) := by decide +kernel
theorem dX4_retest_23 : decode cX4_retest 23 = .ok (.iconst 0, 1) := by decide +kernel
theorem dX4_retest_24 : decode cX4_retest 24 = .ok (.iconst 1, 1) := by decide +kernel
theorem dX4_retest_25 : decode cX4_retest 25 = .ok (.invokestatic 34, 3) := by decide +kernel
theorem dX4_retest_28 : decode cX4_retest 28 = .ok (.ifCond .eq 7, 3) := by decide +kernel
theorem dX4_retest_31 : decode cX4_retest 31 = .ok (.sipush (-10001), 3) := by decide +kernel
theorem dX4_retest_34 : decode cX4_retest 34 = .ok (.ireturn, 1) := by decide +kernel
theorem dX4_retest_35 : decode cX4_retest 35 = .ok (.aload_n 0, 1) := by decide +kernel
theorem dX4_retest_36 : decode cX4_retest 36 = .ok (.getfield 10, 3) := by decide +kernel
theorem dX4_retest_39 : decode cX4_retest 39 = .ok (.getfield 87, 3) := by decide +kernel
theorem dX4_retest_42 : decode cX4_retest 42 = .ok (.iload_n 2, 1) := by decide +kernel
theorem dX4_retest_43 : decode cX4_retest 43 = .ok (.aaload, 1) := by decide +kernel
theorem dX4_retest_44 : decode cX4_retest 44 = .ok (.astore 4, 2) := by decide +kernel
theorem dX4_retest_46 : decode cX4_retest 46 = .ok (.aload 4, 2) := by decide +kernel
theorem dX4_retest_48 : decode cX4_retest 48 = .ok (.getfield 91, 3) := by decide +kernel
theorem dX4_retest_51 : decode cX4_retest 51 = .ok (.iconst 3, 1) := by decide +kernel
theorem dX4_retest_52 : decode cX4_retest 52 = .ok (.if_icmp .ne 11, 3) := by decide +kernel
theorem dX4_retest_55 : decode cX4_retest 55 = .ok (.aload 4, 2) := by decide +kernel
theorem dX4_retest_57 : decode cX4_retest 57 = .ok (.getfield 129, 3) := by decide +kernel
theorem dX4_retest_60 : decode cX4_retest 60 = .ok (.ifCond .eq 7, 3) := by decide +kernel
theorem dX4_retest_63 : decode cX4_retest 63 = .ok (.sipush (-10002), 3) := by decide +kernel
theorem dX4_retest_66 : decode cX4_retest 66 = .ok (.ireturn, 1) := by decide +kernel
theorem dX4_retest_67 : decode cX4_retest 67 = .ok (.aload 4, 2) := by decide +kernel
theorem dX4_retest_69 : decode cX4_retest 69 = .ok (.iload_n 1, 1) := by decide +kernel
theorem dX4_retest_70 : decode cX4_retest 70 = .ok (.invokevirtual 133, 3) := by decide +kernel
theorem dX4_retest_73 : decode cX4_retest 73 = .ok (.ifCond .ne 15, 3) := by decide +kernel
theorem dX4_retest_76 : decode cX4_retest 76 = .ok (.aload_n 0, 1) := by decide +kernel
theorem dX4_retest_77 : decode cX4_retest 77 = .ok (.getfield 10, 3) := by decide +kernel
theorem dX4_retest_80 : decode cX4_retest 80 = .ok (.iload_n 1, 1) := by decide +kernel
theorem dX4_retest_81 : decode cX4_retest 81 = .ok (.iload_n 2, 1) := by decide +kernel
theorem dX4_retest_82 : decode cX4_retest 82 = .ok (.invokevirtual 136, 3) := by decide +kernel
theorem dX4_retest_85 : decode cX4_retest 85 = .ok (.ifCond .eq 7, 3) := by decide +kernel
theorem dX4_retest_88 : decode cX4_retest 88 = .ok (.sipush (-10002), 3) := by decide +kernel
theorem dX4_retest_91 : decode cX4_retest 91 = .ok (.ireturn, 1) := by decide +kernel
theorem dX4_retest_92 : decode cX4_retest 92 = .ok (.aload_n 0, 1) := by decide +kernel
theorem dX4_retest_93 : decode cX4_retest 93 = .ok (.invokevirtual 41, 3) := by decide +kernel
theorem dX4_retest_96 : decode cX4_retest 96 = .ok (.aload_n 0, 1) := by decide +kernel
theorem dX4_retest_97 : decode cX4_retest 97 = .ok (.getfield 10, 3) := by decide +kernel
theorem dX4_retest_100 : decode cX4_retest 100 = .ok (.iload_n 1, 1) := by decide +kernel
theorem dX4_retest_101 : decode cX4_retest 101 = .ok (.iload_n 2, 1) := by decide +kernel
theorem dX4_retest_102 : decode cX4_retest 102 = .ok (.iload_n 3, 1) := by decide +kernel
theorem dX4_retest_103 : decode cX4_retest 103 = .ok (.iconst 1, 1) := by decide +kernel
theorem dX4_retest_104 : decode cX4_retest 104 = .ok (.if_icmp .ne 7, 3) := by decide +kernel
theorem dX4_retest_107 : decode cX4_retest 107 = .ok (.iconst 1, 1) := by decide +kernel
theorem dX4_retest_108 : decode cX4_retest 108 = .ok (.goto 4, 3) := by decide +kernel
theorem dX4_retest_111 : decode cX4_retest 111 = .ok (.iconst 0, 1) := by decide +kernel
theorem dX4_retest_112 : decode cX4_retest 112 = .ok (.invokevirtual 140, 3) := by decide +kernel
theorem dX4_retest_115 : decode cX4_retest 115 = .ok (.ireturn, 1) := by decide +kernel
theorem dX4_pass_0 : decode cX4_pass 0 = .ok (.iload_n 1, 1) := by decide +kernel
theorem dX4_pass_1 : decode cX4_pass 1 = .ok (.iconst 1, 1) := by decide +kernel
theorem dX4_pass_2 : decode cX4_pass 2 = .ok (.sipush 400, 3) := by decide +kernel
theorem dX4_pass_5 : decode cX4_pass 5 = .ok (.invokestatic 34, 3) := by decide +kernel
theorem dX4_pass_8 : decode cX4_pass 8 = .ok (.ifCond .eq 7, 3) := by decide +kernel
theorem dX4_pass_11 : decode cX4_pass 11 = .ok (.sipush (-10001), 3) := by decide +kernel
theorem dX4_pass_14 : decode cX4_pass 14 = .ok (.ireturn, 1) := by decide +kernel
theorem dX4_pass_15 : decode cX4_pass 15 = .ok (.aload_n 0, 1) := by decide +kernel
theorem dX4_pass_16 : decode cX4_pass 16 = .ok (.getfield 10, 3) := by decide +kernel
theorem dX4_pass_19 : decode cX4_pass 19 = .ok (.getfield 144, 3) := by decide +kernel
theorem dX4_pass_22 : decode cX4_pass 22 = .ok (.iload_n 1, 1) := by decide +kernel
theorem dX4_pass_23 : decode cX4_pass 23 = .ok (.iadd, 1) := by decide +kernel
theorem dX4_pass_24 : decode cX4_pass 24 = .ok (.sipush 9999, 3) := by decide +kernel
theorem dX4_pass_27 : decode cX4_pass 27 = .ok (.if_icmp .le 7, 3) := by decide +kernel
theorem dX4_pass_30 : decode cX4_pass 30 = .ok (.sipush (-10002), 3) := by decide +kernel
theorem dX4_pass_33 : decode cX4_pass 33 = .ok (.ireturn, 1) := by decide +kernel
theorem dX4_pass_34 : decode cX4_pass 34 = .ok (.aload_n 0, 1) := by decide +kernel
theorem dX4_pass_35 : decode cX4_pass 35 = .ok (.invokevirtual 41, 3) := by decide +kernel
theorem dX4_pass_38 : decode cX4_pass 38 = .ok (.aload_n 0, 1) := by decide +kernel
theorem dX4_pass_39 : decode cX4_pass 39 = .ok (.getfield 10, 3) := by decide +kernel
theorem dX4_pass_42 : decode cX4_pass 42 = .ok (.getfield 144, 3) := by decide +kernel
theorem dX4_pass_45 : decode cX4_pass 45 = .ok (.iload_n 1, 1) := by decide +kernel
theorem dX4_pass_46 : decode cX4_pass 46 = .ok (.iadd, 1) := by decide +kernel
theorem dX4_pass_47 : decode cX4_pass 47 = .ok (.bipush 90, 2) := by decide +kernel
theorem dX4_pass_49 : decode cX4_pass 49 = .ok (.idiv, 1) := by decide +kernel
theorem dX4_pass_50 : decode cX4_pass 50 = .ok (.aload_n 0, 1) := by decide +kernel
theorem dX4_pass_51 : decode cX4_pass 51 = .ok (.getfield 10, 3) := by decide +kernel
theorem dX4_pass_54 : decode cX4_pass 54 = .ok (.getfield 144, 3) := by decide +kernel
theorem dX4_pass_57 : decode cX4_pass 57 = .ok (.bipush 90, 2) := by decide +kernel
theorem dX4_pass_59 : decode cX4_pass 59 = .ok (.idiv, 1) := by decide +kernel
theorem dX4_pass_60 : decode cX4_pass 60 = .ok (.isub, 1) := by decide +kernel
theorem dX4_pass_61 : decode cX4_pass 61 = .ok (.istore_n 2, 1) := by decide +kernel
theorem dX4_pass_62 : decode cX4_pass 62 = .ok (.aload_n 0, 1) := by decide +kernel
theorem dX4_pass_63 : decode cX4_pass 63 = .ok (.getfield 10, 3) := by decide +kernel
theorem dX4_pass_66 : decode cX4_pass 66 = .ok (.dup, 1) := by decide +kernel
theorem dX4_pass_67 : decode cX4_pass 67 = .ok (.getfield 144, 3) := by decide +kernel
theorem dX4_pass_70 : decode cX4_pass 70 = .ok (.iload_n 1, 1) := by decide +kernel
theorem dX4_pass_71 : decode cX4_pass 71 = .ok (.iadd, 1) := by decide +kernel
theorem dX4_pass_72 : decode cX4_pass 72 = .ok (.putfield 144, 3) := by decide +kernel
theorem dX4_pass_75 : decode cX4_pass 75 = .ok (.iconst 0, 1) := by decide +kernel
theorem dX4_pass_76 : decode cX4_pass 76 = .ok (.istore_n 3, 1) := by decide +kernel
theorem dX4_pass_77 : decode cX4_pass 77 = .ok (.iconst 0, 1) := by decide +kernel
theorem dX4_pass_78 : decode cX4_pass 78 = .ok (.istore 4, 2) := by decide +kernel
theorem dX4_pass_80 : decode cX4_pass 80 = .ok (.iload 4, 2) := by decide +kernel
theorem dX4_pass_82 : decode cX4_pass 82 = .ok (.iload_n 2, 1) := by decide +kernel
theorem dX4_pass_83 : decode cX4_pass 83 = .ok (.if_icmp .ge 19, 3) := by decide +kernel
theorem dX4_pass_86 : decode cX4_pass 86 = .ok (.iload_n 3, 1) := by decide +kernel
theorem dX4_pass_87 : decode cX4_pass 87 = .ok (.aload_n 0, 1) := by decide +kernel
theorem dX4_pass_88 : decode cX4_pass 88 = .ok (.getfield 10, 3) := by decide +kernel
theorem dX4_pass_91 : decode cX4_pass 91 = .ok (.invokevirtual 147, 3) := by decide +kernel
theorem dX4_pass_94 : decode cX4_pass 94 = .ok (.iadd, 1) := by decide +kernel
theorem dX4_pass_95 : decode cX4_pass 95 = .ok (.istore_n 3, 1) := by decide +kernel
theorem dX4_pass_96 : decode cX4_pass 96 = .ok (.iinc 4 1, 3) := by decide +kernel
theorem dX4_pass_99 : decode cX4_pass 99 = .ok (.goto (-19), 3) := by decide +kernel
theorem dX4_pass_102 : decode cX4_pass 102 = .ok (.iload_n 3, 1) := by decide +kernel
theorem dX4_pass_103 : decode cX4_pass 103 = .ok (.ireturn, 1) := by decide +kernel
theorem dX4_undo_0 : decode cX4_undo 0 = .ok (.aload_n 0, 1) := by decide +kernel
theorem dX4_undo_1 : decode cX4_undo 1 = .ok (.getfield 31, 3) := by decide +kernel
theorem dX4_undo_4 : decode cX4_undo 4 = .ok (.ifCond .ne 7, 3) := by decide +kernel
theorem dX4_undo_7 : decode cX4_undo 7 = .ok (.sipush (-10002), 3) := by decide +kernel
theorem dX4_undo_10 : decode cX4_undo 10 = .ok (.ireturn, 1) := by decide +kernel
theorem dX4_undo_11 : decode cX4_undo 11 = .ok (.aload_n 0, 1) := by decide +kernel
theorem dX4_undo_12 : decode cX4_undo 12 = .ok (.aload_n 0, 1) := by decide +kernel
theorem dX4_undo_13 : decode cX4_undo 13 = .ok (.getfield 27, 3) := by decide +kernel
theorem dX4_undo_16 : decode cX4_undo 16 = .ok (.ifCond .ne 8, 3) := by decide +kernel
theorem dX4_undo_19 : decode cX4_undo 19 = .ok (.bipush 7, 2) := by decide +kernel
theorem dX4_undo_21 : decode cX4_undo 21 = .ok (.goto 9, 3) := by decide +kernel
theorem dX4_undo_24 : decode cX4_undo 24 = .ok (.aload_n 0, 1) := by decide +kernel
theorem dX4_undo_25 : decode cX4_undo 25 = .ok (.getfield 27, 3) := by decide +kernel
theorem dX4_undo_28 : decode cX4_undo 28 = .ok (.iconst 1, 1) := by decide +kernel
theorem dX4_undo_29 : decode cX4_undo 29 = .ok (.isub, 1) := by decide +kernel
theorem dX4_undo_30 : decode cX4_undo 30 = .ok (.putfield 27, 3) := by decide +kernel
theorem dX4_undo_33 : decode cX4_undo 33 = .ok (.aload_n 0, 1) := by decide +kernel
theorem dX4_undo_34 : decode cX4_undo 34 = .ok (.getfield 10, 3) := by decide +kernel
theorem dX4_undo_37 : decode cX4_undo 37 = .ok (.aload_n 0, 1) := by decide +kernel
theorem dX4_undo_38 : decode cX4_undo 38 = .ok (.getfield 19, 3) := by decide +kernel
theorem dX4_undo_41 : decode cX4_undo 41 = .ok (.aload_n 0, 1) := by decide +kernel
theorem dX4_undo_42 : decode cX4_undo 42 = .ok (.getfield 27, 3) := by decide +kernel
theorem dX4_undo_45 : decode cX4_undo 45 = .ok (.aaload, 1) := by decide +kernel
theorem dX4_undo_46 : decode cX4_undo 46 = .ok (.invokevirtual 150, 3) := by decide +kernel
theorem dX4_undo_49 : decode cX4_undo 49 = .ok (.aload_n 0, 1) := by decide +kernel
theorem dX4_undo_50 : decode cX4_undo 50 = .ok (.dup, 1) := by decide +kernel
theorem dX4_undo_51 : decode cX4_undo 51 = .ok (.getfield 31, 3) := by decide +kernel
theorem dX4_undo_54 : decode cX4_undo 54 = .ok (.iconst 1, 1) := by decide +kernel
theorem dX4_undo_55 : decode cX4_undo 55 = .ok (.isub, 1) := by decide +kernel
theorem dX4_undo_56 : decode cX4_undo 56 = .ok (.putfield 31, 3) := by decide +kernel
theorem dX4_undo_59 : decode cX4_undo 59 = .ok (.aload_n 0, 1) := by decide +kernel
theorem dX4_undo_60 : decode cX4_undo 60 = .ok (.getfield 31, 3) := by decide +kernel
theorem dX4_undo_63 : decode cX4_undo 63 = .ok (.ireturn, 1) := by decide +kernel
theorem dX4_count_0 : decode cX4_count 0 = .ok (.iload_n 1, 1) := by decide +kernel
theorem dX4_count_1 : decode cX4_count 1 = .ok (.tableswitch 225 0 16 #[83, 91, 102, 110, 118, 126, 134, 143, 152, 161, 170, 179, 188, 196, 204, 212, 220], 83) := by decide +kernel
theorem dX4_count_84 : decode cX4_count 84 = .ok (.aload_n 0, 1) := by decide +kernel
theorem dX4_count_85 : decode cX4_count 85 = .ok (.getfield 10, 3) := by decide +kernel
theorem dX4_count_88 : decode cX4_count 88 = .ok (.getfield 144, 3) := by decide +kernel
theorem dX4_count_91 : decode cX4_count 91 = .ok (.ireturn, 1) := by decide +kernel
theorem dX4_count_92 : decode cX4_count 92 = .ok (.aload_n 0, 1) := by decide +kernel
theorem dX4_count_93 : decode cX4_count 93 = .ok (.getfield 10, 3) := by decide +kernel
theorem dX4_count_96 : decode cX4_count 96 = .ok (.getfield 144, 3) := by decide +kernel
theorem dX4_count_99 : decode cX4_count 99 = .ok (.bipush 90, 2) := by decide +kernel
theorem dX4_count_101 : decode cX4_count 101 = .ok (.idiv, 1) := by decide +kernel
theorem dX4_count_102 : decode cX4_count 102 = .ok (.ireturn, 1) := by decide +kernel
theorem dX4_count_103 : decode cX4_count 103 = .ok (.aload_n 0, 1) := by decide +kernel
theorem dX4_count_104 : decode cX4_count 104 = .ok (.getfield 10, 3) := by decide +kernel
theorem dX4_count_107 : decode cX4_count 107 = .ok (.getfield 56, 3) := by decide +kernel
theorem dX4_count_110 : decode cX4_count 110 = .ok (.ireturn, 1) := by decide +kernel
theorem dX4_count_111 : decode cX4_count 111 = .ok (.aload_n 0, 1) := by decide +kernel
theorem dX4_count_112 : decode cX4_count 112 = .ok (.getfield 10, 3) := by decide +kernel
theorem dX4_count_115 : decode cX4_count 115 = .ok (.getfield 38, 3) := by decide +kernel
theorem dX4_count_118 : decode cX4_count 118 = .ok (.ireturn, 1) := by decide +kernel
theorem dX4_count_119 : decode cX4_count 119 = .ok (.aload_n 0, 1) := by decide +kernel
theorem dX4_count_120 : decode cX4_count 120 = .ok (.getfield 10, 3) := by decide +kernel
theorem dX4_count_123 : decode cX4_count 123 = .ok (.getfield 48, 3) := by decide +kernel
theorem dX4_count_126 : decode cX4_count 126 = .ok (.ireturn, 1) := by decide +kernel
theorem dX4_count_127 : decode cX4_count 127 = .ok (.aload_n 0, 1) := by decide +kernel
theorem dX4_count_128 : decode cX4_count 128 = .ok (.getfield 10, 3) := by decide +kernel
theorem dX4_count_131 : decode cX4_count 131 = .ok (.getfield 73, 3) := by decide +kernel
theorem dX4_count_134 : decode cX4_count 134 = .ok (.ireturn, 1) := by decide +kernel
theorem dX4_count_135 : decode cX4_count 135 = .ok (.aload_n 0, 1) := by decide +kernel
theorem dX4_count_136 : decode cX4_count 136 = .ok (.getfield 10, 3) := by decide +kernel
theorem dX4_count_139 : decode cX4_count 139 = .ok (.iconst 0, 1) := by decide +kernel
theorem dX4_count_140 : decode cX4_count 140 = .ok (.invokevirtual 154, 3) := by decide +kernel
theorem dX4_count_143 : decode cX4_count 143 = .ok (.ireturn, 1) := by decide +kernel
theorem dX4_count_144 : decode cX4_count 144 = .ok (.aload_n 0, 1) := by decide +kernel
theorem dX4_count_145 : decode cX4_count 145 = .ok (.getfield 10, 3) := by decide +kernel
theorem dX4_count_148 : decode cX4_count 148 = .ok (.iconst 1, 1) := by decide +kernel
theorem dX4_count_149 : decode cX4_count 149 = .ok (.invokevirtual 154, 3) := by decide +kernel
theorem dX4_count_152 : decode cX4_count 152 = .ok (.ireturn, 1) := by decide +kernel
theorem dX4_count_153 : decode cX4_count 153 = .ok (.aload_n 0, 1) := by decide +kernel
theorem dX4_count_154 : decode cX4_count 154 = .ok (.getfield 10, 3) := by decide +kernel
theorem dX4_count_157 : decode cX4_count 157 = .ok (.iconst 2, 1) := by decide +kernel
theorem dX4_count_158 : decode cX4_count 158 = .ok (.invokevirtual 154, 3) := by decide +kernel
theorem dX4_count_161 : decode cX4_count 161 = .ok (.ireturn, 1) := by decide +kernel
