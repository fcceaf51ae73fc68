theorem dX4_count_162 : decode cX4_count 162 = .ok (.aload_n 0, 1) := by decide +kernel
theorem dX4_count_163 : decode cX4_count 163 = .ok (.getfield 10, 3) := by decide +kernel
theorem dX4_count_166 : decode cX4_count 166 = .ok (.iconst 3, 1) := by decide +kernel
theorem dX4_count_167 : decode cX4_count 167 = .ok (.invokevirtual 154, 3) := by decide +kernel
theorem dX4_count_170 : decode cX4_count 170 = .ok (.ireturn, 1) := by decide +kernel
theorem dX4_count_171 : decode cX4_count 171 = .ok (.aload_n 0, 1) := by decide +kernel
theorem dX4_count_172 : decode cX4_count 172 = .ok (.getfield 10, 3) := by decide +kernel
theorem dX4_count_175 : decode cX4_count 175 = .ok (.iconst 4, 1) := by decide +kernel
theorem dX4_count_176 : decode cX4_count 176 = .ok (.invokevirtual 154, 3) := by decide +kernel
theorem dX4_count_179 : decode cX4_count 179 = .ok (.ireturn, 1) := by decide +kernel
theorem dX4_count_180 : decode cX4_count 180 = .ok (.aload_n 0, 1) := by decide +kernel
theorem dX4_count_181 : decode cX4_count 181 = .ok (.getfield 10, 3) := by decide +kernel
theorem dX4_count_184 : decode cX4_count 184 = .ok (.iconst 5, 1) := by decide +kernel
theorem dX4_count_185 : decode cX4_count 185 = .ok (.invokevirtual 154, 3) := by decide +kernel
theorem dX4_count_188 : decode cX4_count 188 = .ok (.ireturn, 1) := by decide +kernel
theorem dX4_count_189 : decode cX4_count 189 = .ok (.aload_n 0, 1) := by decide +kernel
theorem dX4_count_190 : decode cX4_count 190 = .ok (.getfield 10, 3) := by decide +kernel
theorem dX4_count_193 : decode cX4_count 193 = .ok (.invokevirtual 157, 3) := by decide +kernel
theorem dX4_count_196 : decode cX4_count 196 = .ok (.ireturn, 1) := by decide +kernel
theorem dX4_count_197 : decode cX4_count 197 = .ok (.aload_n 0, 1) := by decide +kernel
theorem dX4_count_198 : decode cX4_count 198 = .ok (.getfield 10, 3) := by decide +kernel
theorem dX4_count_201 : decode cX4_count 201 = .ok (.getfield 160, 3) := by decide +kernel
theorem dX4_count_204 : decode cX4_count 204 = .ok (.ireturn, 1) := by decide +kernel
theorem dX4_count_205 : decode cX4_count 205 = .ok (.aload_n 0, 1) := by decide +kernel
theorem dX4_count_206 : decode cX4_count 206 = .ok (.getfield 10, 3) := by decide +kernel
theorem dX4_count_209 : decode cX4_count 209 = .ok (.getfield 163, 3) := by decide +kernel
theorem dX4_count_212 : decode cX4_count 212 = .ok (.ireturn, 1) := by decide +kernel
theorem dX4_count_213 : decode cX4_count 213 = .ok (.aload_n 0, 1) := by decide +kernel
theorem dX4_count_214 : decode cX4_count 214 = .ok (.getfield 10, 3) := by decide +kernel
theorem dX4_count_217 : decode cX4_count 217 = .ok (.invokevirtual 166, 3) := by decide +kernel
theorem dX4_count_220 : decode cX4_count 220 = .ok (.ireturn, 1) := by decide +kernel
theorem dX4_count_221 : decode cX4_count 221 = .ok (.aload_n 0, 1) := by decide +kernel
theorem dX4_count_222 : decode cX4_count 222 = .ok (.getfield 31, 3) := by decide +kernel
theorem dX4_count_225 : decode cX4_count 225 = .ok (.ireturn, 1) := by decide +kernel
theorem dX4_count_226 : decode cX4_count 226 = .ok (.sipush (-10001), 3) := by decide +kernel
theorem dX4_count_229 : decode cX4_count 229 = .ok (.ireturn, 1) := by decide +kernel
theorem dX4_asset_0 : decode cX4_asset 0 = .ok (.aload_n 0, 1) := by decide +kernel
theorem dX4_asset_1 : decode cX4_asset 1 = .ok (.getfield 10, 3) := by decide +kernel
theorem dX4_asset_4 : decode cX4_asset 4 = .ok (.iload_n 1, 1) := by decide +kernel
theorem dX4_asset_5 : decode cX4_asset 5 = .ok (.invokevirtual 70, 3) := by decide +kernel
theorem dX4_asset_8 : decode cX4_asset 8 = .ok (.ifCond .ne 7, 3) := by decide +kernel
theorem dX4_asset_11 : decode cX4_asset 11 = .ok (.sipush (-10001), 3) := by decide +kernel
theorem dX4_asset_14 : decode cX4_asset 14 = .ok (.ireturn, 1) := by decide +kernel
theorem dX4_asset_15 : decode cX4_asset 15 = .ok (.aload_n 0, 1) := by decide +kernel
theorem dX4_asset_16 : decode cX4_asset 16 = .ok (.getfield 10, 3) := by decide +kernel
theorem dX4_asset_19 : decode cX4_asset 19 = .ok (.getfield 169, 3) := by decide +kernel
theorem dX4_asset_22 : decode cX4_asset 22 = .ok (.iload_n 1, 1) := by decide +kernel
theorem dX4_asset_23 : decode cX4_asset 23 = .ok (.aaload, 1) := by decide +kernel
theorem dX4_asset_24 : decode cX4_asset 24 = .ok (.astore_n 3, 1) := by decide +kernel
theorem dX4_asset_25 : decode cX4_asset 25 = .ok (.iload_n 2, 1) := by decide +kernel
theorem dX4_asset_26 : decode cX4_asset 26 = .ok (.tableswitch 67 0 4 #[34, 39, 44, 49, 58], 34) := by decide +kernel
theorem dX4_asset_60 : decode cX4_asset 60 = .ok (.aload_n 3, 1) := by decide +kernel
theorem dX4_asset_61 : decode cX4_asset 61 = .ok (.getfield 173, 3) := by decide +kernel
theorem dX4_asset_64 : decode cX4_asset 64 = .ok (.ireturn, 1) := by decide +kernel
theorem dX4_asset_65 : decode cX4_asset 65 = .ok (.aload_n 3, 1) := by decide +kernel
theorem dX4_asset_66 : decode cX4_asset 66 = .ok (.getfield 178, 3) := by decide +kernel
theorem dX4_asset_69 : decode cX4_asset 69 = .ok (.ireturn, 1) := by decide +kernel
theorem dX4_asset_70 : decode cX4_asset 70 = .ok (.aload_n 3, 1) := by decide +kernel
theorem dX4_asset_71 : decode cX4_asset 71 = .ok (.getfield 181, 3) := by decide +kernel
theorem dX4_asset_74 : decode cX4_asset 74 = .ok (.ireturn, 1) := by decide +kernel
theorem dX4_asset_75 : decode cX4_asset 75 = .ok (.aload_n 0, 1) := by decide +kernel
theorem dX4_asset_76 : decode cX4_asset 76 = .ok (.getfield 10, 3) := by decide +kernel
theorem dX4_asset_79 : decode cX4_asset 79 = .ok (.iload_n 1, 1) := by decide +kernel
theorem dX4_asset_80 : decode cX4_asset 80 = .ok (.invokevirtual 184, 3) := by decide +kernel
theorem dX4_asset_83 : decode cX4_asset 83 = .ok (.ireturn, 1) := by decide +kernel
theorem dX4_asset_84 : decode cX4_asset 84 = .ok (.aload_n 0, 1) := by decide +kernel
theorem dX4_asset_85 : decode cX4_asset 85 = .ok (.getfield 10, 3) := by decide +kernel
theorem dX4_asset_88 : decode cX4_asset 88 = .ok (.iload_n 1, 1) := by decide +kernel
theorem dX4_asset_89 : decode cX4_asset 89 = .ok (.invokevirtual 187, 3) := by decide +kernel
theorem dX4_asset_92 : decode cX4_asset 92 = .ok (.ireturn, 1) := by decide +kernel
theorem dX4_asset_93 : decode cX4_asset 93 = .ok (.sipush (-10001), 3) := by decide +kernel
theorem dX4_asset_96 : decode cX4_asset 96 = .ok (.ireturn, 1) := by decide +kernel
theorem dX4_hunter_0 : decode cX4_hunter 0 = .ok (.aload_n 0, 1) := by decide +kernel
theorem dX4_hunter_1 : decode cX4_hunter 1 = .ok (.getfield 10, 3) := by decide +kernel
theorem dX4_hunter_4 : decode cX4_hunter 4 = .ok (.iload_n 1, 1) := by decide +kernel
theorem dX4_hunter_5 : decode cX4_hunter 5 = .ok (.invokevirtual 66, 3) := by decide +kernel
theorem dX4_hunter_8 : decode cX4_hunter 8 = .ok (.ifCond .ne 7, 3) := by decide +kernel
theorem dX4_hunter_11 : decode cX4_hunter 11 = .ok (.sipush (-10001), 3) := by decide +kernel
theorem dX4_hunter_14 : decode cX4_hunter 14 = .ok (.ireturn, 1) := by decide +kernel
theorem dX4_hunter_15 : decode cX4_hunter 15 = .ok (.aload_n 0, 1) := by decide +kernel
theorem dX4_hunter_16 : decode cX4_hunter 16 = .ok (.getfield 10, 3) := by decide +kernel
theorem dX4_hunter_19 : decode cX4_hunter 19 = .ok (.getfield 190, 3) := by decide +kernel
theorem dX4_hunter_22 : decode cX4_hunter 22 = .ok (.iload_n 1, 1) := by decide +kernel
theorem dX4_hunter_23 : decode cX4_hunter 23 = .ok (.aaload, 1) := by decide +kernel
theorem dX4_hunter_24 : decode cX4_hunter 24 = .ok (.astore_n 3, 1) := by decide +kernel
theorem dX4_hunter_25 : decode cX4_hunter 25 = .ok (.iload_n 2, 1) := by decide +kernel
theorem dX4_hunter_26 : decode cX4_hunter 26 = .ok (.tableswitch 76 0 5 #[38, 47, 52, 61, 66, 71], 38) := by decide +kernel
theorem dX4_hunter_64 : decode cX4_hunter 64 = .ok (.aload_n 0, 1) := by decide +kernel
theorem dX4_hunter_65 : decode cX4_hunter 65 = .ok (.getfield 10, 3) := by decide +kernel
theorem dX4_hunter_68 : decode cX4_hunter 68 = .ok (.iload_n 1, 1) := by decide +kernel
theorem dX4_hunter_69 : decode cX4_hunter 69 = .ok (.invokevirtual 194, 3) := by decide +kernel
theorem dX4_hunter_72 : decode cX4_hunter 72 = .ok (.ireturn, 1) := by decide +kernel
theorem dX4_hunter_73 : decode cX4_hunter 73 = .ok (.aload_n 3, 1) := by decide +kernel
theorem dX4_hunter_74 : decode cX4_hunter 74 = .ok (.getfield 197, 3) := by decide +kernel
theorem dX4_hunter_77 : decode cX4_hunter 77 = .ok (.ireturn, 1) := by decide +kernel
theorem dX4_hunter_78 : decode cX4_hunter 78 = .ok (.aload_n 0, 1) := by decide +kernel
theorem dX4_hunter_79 : decode cX4_hunter 79 = .ok (.getfield 10, 3) := by decide +kernel
theorem dX4_hunter_82 : decode cX4_hunter 82 = .ok (.iload_n 1, 1) := by decide +kernel
theorem dX4_hunter_83 : decode cX4_hunter 83 = .ok (.invokevirtual 202, 3) := by decide +kernel
theorem dX4_hunter_86 : decode cX4_hunter 86 = .ok (.ireturn, 1) := by decide +kernel
theorem dX4_hunter_87 : decode cX4_hunter 87 = .ok (.aload_n 3, 1) := by decide +kernel
theorem dX4_hunter_88 : decode cX4_hunter 88 = .ok (.getfield 205, 3) := by decide +kernel
theorem dX4_hunter_91 : decode cX4_hunter 91 = .ok (.ireturn, 1) := by decide +kernel
theorem dX4_hunter_92 : decode cX4_hunter 92 = .ok (.aload_n 3, 1) := by decide +kernel
theorem dX4_hunter_93 : decode cX4_hunter 93 = .ok (.getfield 208, 3) := by decide +kernel
theorem dX4_hunter_96 : decode cX4_hunter 96 = .ok (.ireturn, 1) := by decide +kernel
theorem dX4_hunter_97 : decode cX4_hunter 97 = .ok (.aload_n 3, 1) := by decide +kernel
theorem dX4_hunter_98 : decode cX4_hunter 98 = .ok (.getfield 211, 3) := by decide +kernel
theorem dX4_hunter_101 : decode cX4_hunter 101 = .ok (.ireturn, 1) := by decide +kernel
theorem dX4_hunter_102 : decode cX4_hunter 102 = .ok (.sipush (-10001), 3) := by decide +kernel
theorem dX4_hunter_105 : decode cX4_hunter 105 = .ok (.ireturn, 1) := by decide +kernel
theorem dX4_reportOf_0 : decode cX4_reportOf 0 = .ok (.aload_n 0, 1) := by decide +kernel
theorem dX4_reportOf_1 : decode cX4_reportOf 1 = .ok (.getfield 10, 3) := by decide +kernel
theorem dX4_reportOf_4 : decode cX4_reportOf 4 = .ok (.iload_n 1, 1) := by decide +kernel
theorem dX4_reportOf_5 : decode cX4_reportOf 5 = .ok (.invokevirtual 80, 3) := by decide +kernel
theorem dX4_reportOf_8 : decode cX4_reportOf 8 = .ok (.ifCond .ne 7, 3) := by decide +kernel
theorem dX4_reportOf_11 : decode cX4_reportOf 11 = .ok (.sipush (-10001), 3) := by decide +kernel
theorem dX4_reportOf_14 : decode cX4_reportOf 14 = .ok (.ireturn, 1) := by decide +kernel
theorem dX4_reportOf_15 : decode cX4_reportOf 15 = .ok (.aload_n 0, 1) := by decide +kernel
theorem dX4_reportOf_16 : decode cX4_reportOf 16 = .ok (.getfield 10, 3) := by decide +kernel
theorem dX4_reportOf_19 : decode cX4_reportOf 19 = .ok (.getfield 87, 3) := by decide +kernel
theorem dX4_reportOf_22 : decode cX4_reportOf 22 = .ok (.iload_n 1, 1) := by decide +kernel
theorem dX4_reportOf_23 : decode cX4_reportOf 23 = .ok (.aaload, 1) := by decide +kernel
theorem dX4_reportOf_24 : decode cX4_reportOf 24 = .ok (.astore_n 3, 1) := by decide +kernel
theorem dX4_reportOf_25 : decode cX4_reportOf 25 = .ok (.iload_n 2, 1) := by decide +kernel
theorem dX4_reportOf_26 : decode cX4_reportOf 26 = .ok (.tableswitch 179 0 12 #[66, 71, 76, 81, 86, 104, 109, 118, 140, 145, 150, 158, 166], 66) := by decide +kernel
theorem dX4_reportOf_92 : decode cX4_reportOf 92 = .ok (.aload_n 3, 1) := by decide +kernel
theorem dX4_reportOf_93 : decode cX4_reportOf 93 = .ok (.getfield 214, 3) := by decide +kernel
theorem dX4_reportOf_96 : decode cX4_reportOf 96 = .ok (.ireturn, 1) := by decide +kernel
theorem dX4_reportOf_97 : decode cX4_reportOf 97 = .ok (.aload_n 3, 1) := by decide +kernel
theorem dX4_reportOf_98 : decode cX4_reportOf 98 = .ok (.getfield 217, 3) := by decide +kernel
theorem dX4_reportOf_101 : decode cX4_reportOf 101 = .ok (.ireturn, 1) := by decide +kernel
theorem dX4_reportOf_102 : decode cX4_reportOf 102 = .ok (.aload_n 3, 1) := by decide +kernel
theorem dX4_reportOf_103 : decode cX4_reportOf 103 = .ok (.getfield 220, 3) := by decide +kernel
theorem dX4_reportOf_106 : decode cX4_reportOf 106 = .ok (.ireturn, 1) := by decide +kernel
theorem dX4_reportOf_107 : decode cX4_reportOf 107 = .ok (.aload_n 3, 1) := by decide +kernel
theorem dX4_reportOf_108 : decode cX4_reportOf 108 = .ok (.getfield 91, 3) := by decide +kernel
theorem dX4_reportOf_111 : decode cX4_reportOf 111 = .ok (.ireturn, 1) := by decide +kernel
theorem dX4_reportOf_112 : decode cX4_reportOf 112 = .ok (.aload_n 3, 1) := by decide +kernel
theorem dX4_reportOf_113 : decode cX4_reportOf 113 = .ok (.invokevirtual 223, 3) := by decide +kernel
theorem dX4_reportOf_116 : decode cX4_reportOf 116 = .ok (.ifCond .eq 10, 3) := by decide +kernel
theorem dX4_reportOf_119 : decode cX4_reportOf 119 = .ok (.aload_n 3, 1) := by decide +kernel
theorem dX4_reportOf_120 : decode cX4_reportOf 120 = .ok (.getfield 99, 3) := by decide +kernel
theorem dX4_reportOf_123 : decode cX4_reportOf 123 = .ok (.goto 6, 3) := by decide +kernel
theorem dX4_reportOf_126 : decode cX4_reportOf 126 = .ok (.sipush (-10009), 3) := by decide +kernel
theorem dX4_reportOf_129 : decode cX4_reportOf 129 = .ok (.ireturn, 1) := by decide +kernel
theorem dX4_reportOf_130 : decode cX4_reportOf 130 = .ok (.aload_n 3, 1) := by decide +kernel
theorem dX4_reportOf_131 : decode cX4_reportOf 131 = .ok (.getfield 96, 3) := by decide +kernel
theorem dX4_reportOf_134 : decode cX4_reportOf 134 = .ok (.ireturn, 1) := by decide +kernel
theorem dX4_reportOf_135 : decode cX4_reportOf 135 = .ok (.aload_n 0, 1) := by decide +kernel
theorem dX4_reportOf_136 : decode cX4_reportOf 136 = .ok (.getfield 10, 3) := by decide +kernel
theorem dX4_reportOf_139 : decode cX4_reportOf 139 = .ok (.iload_n 1, 1) := by decide +kernel
theorem dX4_reportOf_140 : decode cX4_reportOf 140 = .ok (.invokevirtual 226, 3) := by decide +kernel
theorem dX4_reportOf_143 : decode cX4_reportOf 143 = .ok (.ireturn, 1) := by decide +kernel
theorem dX4_reportOf_144 : decode cX4_reportOf 144 = .ok (.aload_n 3, 1) := by decide +kernel
theorem dX4_reportOf_145 : decode cX4_reportOf 145 = .ok (.invokevirtual 223, 3) := by decide +kernel
theorem dX4_reportOf_148 : decode cX4_reportOf 148 = .ok (.ifCond .eq 14, 3) := by decide +kernel
theorem dX4_reportOf_151 : decode cX4_reportOf 151 = .ok (.aload_n 0, 1) := by decide +kernel
theorem dX4_reportOf_152 : decode cX4_reportOf 152 = .ok (.getfield 10, 3) := by decide +kernel
theorem dX4_reportOf_155 : decode cX4_reportOf 155 = .ok (.aload_n 3, 1) := by decide +kernel
theorem dX4_reportOf_156 : decode cX4_reportOf 156 = .ok (.invokevirtual 102, 3) := by decide +kernel
theorem dX4_reportOf_159 : decode cX4_reportOf 159 = .ok (.goto 6, 3) := by decide +kernel
theorem dX4_reportOf_162 : decode cX4_reportOf 162 = .ok (.sipush (-10009), 3) := by decide +kernel
theorem dX4_reportOf_165 : decode cX4_reportOf 165 = .ok (.ireturn, 1) := by decide +kernel
theorem dX4_reportOf_166 : decode cX4_reportOf 166 = .ok (.aload_n 3, 1) := by decide +kernel
theorem dX4_reportOf_167 : decode cX4_reportOf 167 = .ok (.getfield 110, 3) := by decide +kernel
theorem dX4_reportOf_170 : decode cX4_reportOf 170 = .ok (.ireturn, 1) := by decide +kernel
theorem dX4_reportOf_171 : decode cX4_reportOf 171 = .ok (.aload_n 3, 1) := by decide +kernel
theorem dX4_reportOf_172 : decode cX4_reportOf 172 = .ok (.getfield 229, 3) := by decide +kernel
theorem dX4_reportOf_175 : decode cX4_reportOf 175 = .ok (.ireturn, 1) := by decide +kernel
theorem dX4_reportOf_176 : decode cX4_reportOf 176 = .ok (.aload_n 3, 1) := by decide +kernel
theorem dX4_reportOf_177 : decode cX4_reportOf 177 = .ok (.getfield 232, 3) := by decide +kernel
theorem dX4_reportOf_180 : decode cX4_reportOf 180 = .ok (.invokestatic 235, 3) := by decide +kernel
theorem dX4_reportOf_183 : decode cX4_reportOf 183 = .ok (.ireturn, 1) := by decide +kernel
theorem dX4_reportOf_184 : decode cX4_reportOf 184 = .ok (.aload_n 3, 1) := by decide +kernel
theorem dX4_reportOf_185 : decode cX4_reportOf 185 = .ok (.getfield 240, 3) := by decide +kernel
theorem dX4_reportOf_188 : decode cX4_reportOf 188 = .ok (.invokestatic 235, 3) := by decide +kernel
theorem dX4_reportOf_191 : decode cX4_reportOf 191 = .ok (.ireturn, 1) := by decide +kernel
theorem dX4_reportOf_192 : decode cX4_reportOf 192 = .ok (.aload_n 3, 1) := by decide +kernel
theorem dX4_reportOf_193 : decode cX4_reportOf 193 = .ok (.getfield 129, 3) := by decide +kernel
theorem dX4_reportOf_196 : decode cX4_reportOf 196 = .ok (.ifCond .eq 7, 3) := by decide +kernel
theorem dX4_reportOf_199 : decode cX4_reportOf 199 = .ok (.iconst 1, 1) := by decide +kernel
theorem dX4_reportOf_200 : decode cX4_reportOf 200 = .ok (.goto 4, 3) := by decide +kernel
theorem dX4_reportOf_203 : decode cX4_reportOf 203 = .ok (.iconst 0, 1) := by decide +kernel
theorem dX4_reportOf_204 : decode cX4_reportOf 204 = .ok (.ireturn, 1) := by decide +kernel
theorem dX4_reportOf_205 : decode cX4_reportOf 205 = .ok (.sipush (-10001), 3) := by decide +kernel
theorem dX4_reportOf_208 : decode cX4_reportOf 208 = .ok (.ireturn, 1) := by decide +kernel
theorem dX4_original_0 : decode cX4_original 0 = .ok (.aload_n 0, 1) := by decide +kernel
theorem dX4_original_1 : decode cX4_original 1 = .ok (.getfield 10, 3) := by decide +kernel
theorem dX4_original_4 : decode cX4_original 4 = .ok (.iload_n 1, 1) := by decide +kernel
theorem dX4_original_5 : decode cX4_original 5 = .ok (.invokevirtual 80, 3) := by decide +kernel
theorem dX4_original_8 : decode cX4_original 8 = .ok (.ifCond .ne 7, 3) := by decide +kernel
theorem dX4_original_11 : decode cX4_original 11 = .ok (.sipush (-10001), 3) := by decide +kernel
theorem dX4_original_14 : decode cX4_original 14 = .ok (.ireturn, 1) := by decide +kernel
theorem dX4_original_15 : decode cX4_original 15 = .ok (.aload_n 0, 1) := by decide +kernel
theorem dX4_original_16 : decode cX4_original 16 = .ok (.getfield 10, 3) := by decide +kernel
theorem dX4_original_19 : decode cX4_original 19 = .ok (.iload_n 1, 1) := by decide +kernel
theorem dX4_original_20 : decode cX4_original 20 = .ok (.invokevirtual 83, 3) := by decide +kernel
theorem dX4_original_23 : decode cX4_original 23 = .ok (.ireturn, 1) := by decide +kernel
theorem dX4_lack_0 : decode cX4_lack 0 = .ok (.iconst 0, 1) := by decide +kernel
theorem dX4_lack_1 : decode cX4_lack 1 = .ok (.istore_n 1, 1) := by decide +kernel
theorem dX4_lack_2 : decode cX4_lack 2 = .ok (.iconst 0, 1) := by decide +kernel
theorem dX4_lack_3 : decode cX4_lack 3 = .ok (.istore_n 2, 1) := by decide +kernel
theorem dX4_lack_4 : decode cX4_lack 4 = .ok (.iload_n 2, 1) := by decide +kernel
theorem dX4_lack_5 : decode cX4_lack 5 = .ok (.aload_n 0, 1) := by decide +kernel
theorem dX4_lack_6 : decode cX4_lack 6 = .ok (.getfield 10, 3) := by decide +kernel
theorem dX4_lack_9 : decode cX4_lack 9 = .ok (.getfield 38, 3) := by decide +kernel
theorem dX4_lack_12 : decode cX4_lack 12 = .ok (.if_icmp .ge 37, 3) := by decide +kernel
theorem dX4_lack_15 : decode cX4_lack 15 = .ok (.iload_n 1, 1) := by decide +kernel
theorem dX4_lack_16 : decode cX4_lack 16 = .ok (.iconst 0, 1) := by decide +kernel
theorem dX4_lack_17 : decode cX4_lack 17 = .ok (.aload_n 0, 1) := by decide +kernel
theorem dX4_lack_18 : decode cX4_lack 18 = .ok (.getfield 10, 3) := by decide +kernel
theorem dX4_lack_21 : decode cX4_lack 21 = .ok (.iload_n 2, 1) := by decide +kernel
theorem dX4_lack_22 : decode cX4_lack 22 = .ok (.invokevirtual 187, 3) := by decide +kernel
theorem dX4_lack_25 : decode cX4_lack 25 = .ok (.aload_n 0, 1) := by decide +kernel
theorem dX4_lack_26 : decode cX4_lack 26 = .ok (.getfield 10, 3) := by decide +kernel
theorem dX4_lack_29 : decode cX4_lack 29 = .ok (.getfield 169, 3) := by decide +kernel
theorem dX4_lack_32 : decode cX4_lack 32 = .ok (.iload_n 2, 1) := by decide +kernel
theorem dX4_lack_33 : decode cX4_lack 33 = .ok (.aaload, 1) := by decide +kernel
theorem dX4_lack_34 : decode cX4_lack 34 = .ok (.getfield 181, 3) := by decide +kernel
theorem dX4_lack_37 : decode cX4_lack 37 = .ok (.isub, 1) := by decide +kernel
theorem dX4_lack_38 : decode cX4_lack 38 = .ok (.invokestatic 243, 3) := by decide +kernel
theorem dX4_lack_41 : decode cX4_lack 41 = .ok (.iadd, 1) := by decide +kernel
theorem dX4_lack_42 : decode cX4_lack 42 = .ok (.istore_n 1, 1) := by decide +kernel
theorem dX4_lack_43 : decode cX4_lack 43 = .ok (.iinc 2 1, 3) := by decide +kernel
theorem dX4_lack_46 : decode cX4_lack 46 = .ok (.goto (-42), 3) := by decide +kernel
theorem dX4_lack_49 : decode cX4_lack 49 = .ok (.iconst 0, 1) := by decide +kernel
theorem dX4_lack_50 : decode cX4_lack 50 = .ok (.iload_n 1, 1) := by decide +kernel
theorem dX4_lack_51 : decode cX4_lack 51 = .ok (.aload_n 0, 1) := by decide +kernel
theorem dX4_lack_52 : decode cX4_lack 52 = .ok (.getfield 10, 3) := by decide +kernel
theorem dX4_lack_55 : decode cX4_lack 55 = .ok (.getfield 56, 3) := by decide +kernel
theorem dX4_lack_58 : decode cX4_lack 58 = .ok (.isub, 1) := by decide +kernel
theorem dX4_lack_59 : decode cX4_lack 59 = .ok (.invokestatic 243, 3) := by decide +kernel
theorem dX4_lack_62 : decode cX4_lack 62 = .ok (.ireturn, 1) := by decide +kernel
theorem dX4_best_0 : decode cX4_best 0 = .ok (.iload_n 1, 1) := by decide +kernel
theorem dX4_best_1 : decode cX4_best 1 = .ok (.ifCond .ge 7, 3) := by decide +kernel
theorem dX4_best_4 : decode cX4_best 4 = .ok (.sipush (-10001), 3) := by decide +kernel
theorem dX4_best_7 : decode cX4_best 7 = .ok (.ireturn, 1) := by decide +kernel
theorem dX4_best_8 : decode cX4_best 8 = .ok (.iconst 0, 1) := by decide +kernel
theorem dX4_best_9 : decode cX4_best 9 = .ok (.istore_n 2, 1) := by decide +kernel
theorem dX4_best_10 : decode cX4_best 10 = .ok (.iload_n 2, 1) := by decide +kernel
theorem dX4_best_11 : decode cX4_best 11 = .ok (.aload_n 0, 1) := by decide +kernel
theorem dX4_best_12 : decode cX4_best 12 = .ok (.getfield 10, 3) := by decide +kernel
theorem dX4_best_15 : decode cX4_best 15 = .ok (.getfield 48, 3) := by decide +kernel
theorem dX4_best_18 : decode cX4_best 18 = .ok (.if_icmp .ge 23, 3) := by decide +kernel
theorem dX4_best_21 : decode cX4_best 21 = .ok (.aload_n 0, 1) := by decide +kernel
theorem dX4_best_22 : decode cX4_best 22 = .ok (.getfield 23, 3) := by decide +kernel
theorem dX4_best_25 : decode cX4_best 25 = .ok (.iload_n 2, 1) := by decide +kernel
theorem dX4_best_26 : decode cX4_best 26 = .ok (.aload_n 0, 1) := by decide +kernel
theorem dX4_best_27 : decode cX4_best 27 = .ok (.getfield 10, 3) := by decide +kernel
theorem dX4_best_30 : decode cX4_best 30 = .ok (.iload_n 2, 1) := by decide +kernel
theorem dX4_best_31 : decode cX4_best 31 = .ok (.invokevirtual 202, 3) := by decide +kernel
theorem dX4_best_34 : decode cX4_best 34 = .ok (.iastore, 1) := by decide +kernel
theorem dX4_best_35 : decode cX4_best 35 = .ok (.iinc 2 1, 3) := by decide +kernel
theorem dX4_best_38 : decode cX4_best 38 = .ok (.goto (-28), 3) := by decide +kernel
theorem dX4_best_41 : decode cX4_best 41 = .ok (.iconst 0, 1) := by decide +kernel
theorem dX4_best_42 : decode cX4_best 42 = .ok (.istore_n 2, 1) := by decide +kernel
theorem dX4_best_43 : decode cX4_best 43 = .ok (.iload_n 2, 1) := by decide +kernel
theorem dX4_best_44 : decode cX4_best 44 = .ok (.aload_n 0, 1) := by decide +kernel
theorem dX4_best_45 : decode cX4_best 45 = .ok (.getfield 10, 3) := by decide +kernel
theorem dX4_best_48 : decode cX4_best 48 = .ok (.getfield 48, 3) := by decide +kernel
theorem dX4_best_51 : decode cX4_best 51 = .ok (.if_icmp .ge 20, 3) := by decide +kernel
theorem dX4_best_54 : decode cX4_best 54 = .ok (.aload_n 0, 1) := by decide +kernel
theorem dX4_best_55 : decode cX4_best 55 = .ok (.iload_n 2, 1) := by decide +kernel
theorem dX4_best_56 : decode cX4_best 56 = .ok (.invokevirtual 248, 3) := by decide +kernel
theorem dX4_best_59 : decode cX4_best 59 = .ok (.iload_n 1, 1) := by decide +kernel
theorem dX4_best_60 : decode cX4_best 60 = .ok (.if_icmp .ne 5, 3) := by decide +kernel
theorem dX4_best_63 : decode cX4_best 63 = .ok (.iload_n 2, 1) := by decide +kernel
theorem dX4_best_64 : decode cX4_best 64 = .ok (.ireturn, 1) := by decide +kernel
theorem dX4_best_65 : decode cX4_best 65 = .ok (.iinc 2 1, 3) := by decide +kernel
theorem dX4_best_68 : decode cX4_best 68 = .ok (.goto (-25), 3) := by decide +kernel
theorem dX4_best_71 : decode cX4_best 71 = .ok (.sipush (-10009), 3) := by decide +kernel
theorem dX4_best_74 : decode cX4_best 74 = .ok (.ireturn, 1) := by decide +kernel
theorem dX4_paidIn_0 : decode cX4_paidIn 0 = .ok (.aload_n 0, 1) := by decide +kernel
theorem dX4_paidIn_1 : decode cX4_paidIn 1 = .ok (.getfield 10, 3) := by decide +kernel
theorem dX4_paidIn_4 : decode cX4_paidIn 4 = .ok (.iload_n 1, 1) := by decide +kernel
theorem dX4_paidIn_5 : decode cX4_paidIn 5 = .ok (.invokevirtual 80, 3) := by decide +kernel
theorem dX4_paidIn_8 : decode cX4_paidIn 8 = .ok (.ifCond .ne 7, 3) := by decide +kernel
theorem dX4_paidIn_11 : decode cX4_paidIn 11 = .ok (.sipush (-10001), 3) := by decide +kernel
theorem dX4_paidIn_14 : decode cX4_paidIn 14 = .ok (.ireturn, 1) := by decide +kernel
theorem dX4_paidIn_15 : decode cX4_paidIn 15 = .ok (.aload_n 0, 1) := by decide +kernel
theorem dX4_paidIn_16 : decode cX4_paidIn 16 = .ok (.getfield 10, 3) := by decide +kernel
theorem dX4_paidIn_19 : decode cX4_paidIn 19 = .ok (.getfield 87, 3) := by decide +kernel
theorem dX4_paidIn_22 : decode cX4_paidIn 22 = .ok (.iload_n 1, 1) := by decide +kernel
theorem dX4_paidIn_23 : decode cX4_paidIn 23 = .ok (.aaload, 1) := by decide +kernel
theorem dX4_paidIn_24 : decode cX4_paidIn 24 = .ok (.getfield 91, 3) := by decide +kernel
theorem dX4_paidIn_27 : decode cX4_paidIn 27 = .ok (.iconst 2, 1) := by decide +kernel
theorem dX4_paidIn_28 : decode cX4_paidIn 28 = .ok (.if_icmp .eq 7, 3) := by decide +kernel
theorem dX4_paidIn_31 : decode cX4_paidIn 31 = .ok (.sipush (-10002), 3) := by decide +kernel
theorem dX4_paidIn_34 : decode cX4_paidIn 34 = .ok (.ireturn, 1) := by decide +kernel
theorem dX4_paidIn_35 : decode cX4_paidIn 35 = .ok (.aload_n 0, 1) := by decide +kernel
theorem dX4_paidIn_36 : decode cX4_paidIn 36 = .ok (.getfield 16, 3) := by decide +kernel
theorem dX4_paidIn_39 : decode cX4_paidIn 39 = .ok (.aload_n 0, 1) := by decide +kernel
theorem dX4_paidIn_40 : decode cX4_paidIn 40 = .ok (.getfield 10, 3) := by decide +kernel
theorem dX4_paidIn_43 : decode cX4_paidIn 43 = .ok (.invokevirtual 150, 3) := by decide +kernel
theorem dX4_paidIn_46 : decode cX4_paidIn 46 = .ok (.aload_n 0, 1) := by decide +kernel
theorem dX4_paidIn_47 : decode cX4_paidIn 47 = .ok (.getfield 10, 3) := by decide +kernel
theorem dX4_paidIn_50 : decode cX4_paidIn 50 = .ok (.getfield 144, 3) := by decide +kernel
theorem dX4_paidIn_53 : decode cX4_paidIn 53 = .ok (.bipush 90, 2) := by decide +kernel
theorem dX4_paidIn_55 : decode cX4_paidIn 55 = .ok (.idiv, 1) := by decide +kernel
theorem dX4_paidIn_56 : decode cX4_paidIn 56 = .ok (.istore_n 2, 1) := by decide +kernel
theorem dX4_paidIn_57 : decode cX4_paidIn 57 = .ok (.iconst 1, 1) := by decide +kernel
theorem dX4_paidIn_58 : decode cX4_paidIn 58 = .ok (.istore_n 3, 1) := by decide +kernel
theorem dX4_paidIn_59 : decode cX4_paidIn 59 = .ok (.iload_n 3, 1) := by decide +kernel
theorem dX4_paidIn_60 : decode cX4_paidIn 60 = .ok (.bipush 12, 2) := by decide +kernel
theorem dX4_paidIn_62 : decode cX4_paidIn 62 = .ok (.if_icmp .gt 48, 3) := by decide +kernel
theorem dX4_paidIn_65 : decode cX4_paidIn 65 = .ok (.aload_n 0, 1) := by decide +kernel
theorem dX4_paidIn_66 : decode cX4_paidIn 66 = .ok (.getfield 16, 3) := by decide +kernel
theorem dX4_paidIn_69 : decode cX4_paidIn 69 = .ok (.invokevirtual 147, 3) := by decide +kernel
theorem dX4_paidIn_72 : decode cX4_paidIn 72 = .ok (.pop, 1) := by decide +kernel
theorem dX4_paidIn_73 : decode cX4_paidIn 73 = .ok (.aload_n 0, 1) := by decide +kernel
theorem dX4_paidIn_74 : decode cX4_paidIn 74 = .ok (.getfield 16, 3) := by decide +kernel
theorem dX4_paidIn_77 : decode cX4_paidIn 77 = .ok (.getfield 87, 3) := by decide +kernel
theorem dX4_paidIn_80 : decode cX4_paidIn 80 = .ok (.iload_n 1, 1) := by decide +kernel
theorem dX4_paidIn_81 : decode cX4_paidIn 81 = .ok (.aaload, 1) := by decide +kernel
theorem dX4_paidIn_82 : decode cX4_paidIn 82 = .ok (.getfield 91, 3) := by decide +kernel
theorem dX4_paidIn_85 : decode cX4_paidIn 85 = .ok (.iconst 3, 1) := by decide +kernel
theorem dX4_paidIn_86 : decode cX4_paidIn 86 = .ok (.if_icmp .ne 18, 3) := by decide +kernel
theorem dX4_paidIn_89 : decode cX4_paidIn 89 = .ok (.iload_n 2, 1) := by decide +kernel
theorem dX4_paidIn_90 : decode cX4_paidIn 90 = .ok (.iload_n 3, 1) := by decide +kernel
theorem dX4_paidIn_91 : decode cX4_paidIn 91 = .ok (.iadd, 1) := by decide +kernel
theorem dX4_paidIn_92 : decode cX4_paidIn 92 = .ok (.bipush 90, 2) := by decide +kernel
theorem dX4_paidIn_94 : decode cX4_paidIn 94 = .ok (.imul, 1) := by decide +kernel
theorem dX4_paidIn_95 : decode cX4_paidIn 95 = .ok (.aload_n 0, 1) := by decide +kernel
theorem dX4_paidIn_96 : decode cX4_paidIn 96 = .ok (.getfield 10, 3) := by decide +kernel
theorem dX4_paidIn_99 : decode cX4_paidIn 99 = .ok (.getfield 144, 3) := by decide +kernel
theorem dX4_paidIn_102 : decode cX4_paidIn 102 = .ok (.isub, 1) := by decide +kernel
theorem dX4_paidIn_103 : decode cX4_paidIn 103 = .ok (.ireturn, 1) := by decide +kernel
theorem dX4_paidIn_104 : decode cX4_paidIn 104 = .ok (.iinc 3 1, 3) := by decide +kernel
theorem dX4_paidIn_107 : decode cX4_paidIn 107 = .ok (.goto (-48), 3) := by decide +kernel
theorem dX4_paidIn_110 : decode cX4_paidIn 110 = .ok (.sipush (-10009), 3) := by decide +kernel
theorem dX4_paidIn_113 : decode cX4_paidIn 113 = .ok (.ireturn, 1) := by decide +kernel
theorem dX4_isOutside_0 : decode cX4_isOutside 0 = .ok (.iload_n 0, 1) := by decide +kernel
theorem dX4_isOutside_1 : decode cX4_isOutside 1 = .ok (.iload_n 1, 1) := by decide +kernel
theorem dX4_isOutside_2 : decode cX4_isOutside 2 = .ok (.if_icmp .lt 8, 3) := by decide +kernel
theorem dX4_isOutside_5 : decode cX4_isOutside 5 = .ok (.iload_n 0, 1) := by decide +kernel
theorem dX4_isOutside_6 : decode cX4_isOutside 6 = .ok (.iload_n 2, 1) := by decide +kernel
theorem dX4_isOutside_7 : decode cX4_isOutside 7 = .ok (.if_icmp .le 7, 3) := by decide +kernel
theorem dX4_isOutside_10 : decode cX4_isOutside 10 = .ok (.iconst 1, 1) := by decide +kernel
theorem dX4_isOutside_11 : decode cX4_isOutside 11 = .ok (.goto 4, 3) := by decide +kernel
theorem dX4_isOutside_14 : decode cX4_isOutside 14 = .ok (.iconst 0, 1) := by decide +kernel
theorem dX4_isOutside_15 : decode cX4_isOutside 15 = .ok (.ireturn, 1) := by decide +kernel
theorem dX4_remember_0 : decode cX4_remember 0 = .ok (.aload_n 0, 1) := by decide +kernel
theorem dX4_remember_1 : decode cX4_remember 1 = .ok (.getfield 19, 3) := by decide +kernel
theorem dX4_remember_4 : decode cX4_remember 4 = .ok (.aload_n 0, 1) := by decide +kernel
theorem dX4_remember_5 : decode cX4_remember 5 = .ok (.getfield 27, 3) := by decide +kernel
theorem dX4_remember_8 : decode cX4_remember 8 = .ok (.aaload, 1) := by decide +kernel
theorem dX4_remember_9 : decode cX4_remember 9 = .ok (.aload_n 0, 1) := by decide +kernel
theorem dX4_remember_10 : decode cX4_remember 10 = .ok (.getfield 10, 3) := by decide +kernel
theorem dX4_remember_13 : decode cX4_remember 13 = .ok (.invokevirtual 150, 3) := by decide +kernel
theorem dX4_remember_16 : decode cX4_remember 16 = .ok (.aload_n 0, 1) := by decide +kernel
theorem dX4_remember_17 : decode cX4_remember 17 = .ok (.aload_n 0, 1) := by decide +kernel
theorem dX4_remember_18 : decode cX4_remember 18 = .ok (.getfield 27, 3) := by decide +kernel
theorem dX4_remember_21 : decode cX4_remember 21 = .ok (.bipush 7, 2) := by decide +kernel
theorem dX4_remember_23 : decode cX4_remember 23 = .ok (.if_icmp .ne 7, 3) := by decide +kernel
theorem dX4_remember_26 : decode cX4_remember 26 = .ok (.iconst 0, 1) := by decide +kernel
theorem dX4_remember_27 : decode cX4_remember 27 = .ok (.goto 9, 3) := by decide +kernel
theorem dX4_remember_30 : decode cX4_remember 30 = .ok (.aload_n 0, 1) := by decide +kernel
theorem dX4_remember_31 : decode cX4_remember 31 = .ok (.getfield 27, 3) := by decide +kernel
theorem dX4_remember_34 : decode cX4_remember 34 = .ok (.iconst 1, 1) := by decide +kernel
theorem dX4_remember_35 : decode cX4_remember 35 = .ok (.iadd, 1) := by decide +kernel
theorem dX4_remember_36 : decode cX4_remember 36 = .ok (.putfield 27, 3) := by decide +kernel
theorem dX4_remember_39 : decode cX4_remember 39 = .ok (.aload_n 0, 1) := by decide +kernel
theorem dX4_remember_40 : decode cX4_remember 40 = .ok (.aload_n 0, 1) := by decide +kernel
theorem dX4_remember_41 : decode cX4_remember 41 = .ok (.getfield 31, 3) := by decide +kernel
theorem dX4_remember_44 : decode cX4_remember 44 = .ok (.iconst 1, 1) := by decide +kernel
theorem dX4_remember_45 : decode cX4_remember 45 = .ok (.iadd, 1) := by decide +kernel
theorem dX4_remember_46 : decode cX4_remember 46 = .ok (.bipush 8, 2) := by decide +kernel
theorem dX4_remember_48 : decode cX4_remember 48 = .ok (.invokestatic 251, 3) := by decide +kernel
theorem dX4_remember_51 : decode cX4_remember 51 = .ok (.putfield 31, 3) := by decide +kernel
theorem dX4_remember_54 : decode cX4_remember 54 = .ok (.return_, 1) := by decide +kernel
theorem dX4_huntersAheadOf_0 : decode cX4_huntersAheadOf 0 = .ok (.iconst 0, 1) := by decide +kernel
theorem dX4_huntersAheadOf_1 : decode cX4_huntersAheadOf 1 = .ok (.istore_n 2, 1) := by decide +kernel
theorem dX4_huntersAheadOf_2 : decode cX4_huntersAheadOf 2 = .ok (.iconst 0, 1) := by decide +kernel
theorem dX4_huntersAheadOf_3 : decode cX4_huntersAheadOf 3 = .ok (.istore_n 3, 1) := by decide +kernel
theorem dX4_huntersAheadOf_4 : decode cX4_huntersAheadOf 4 = .ok (.iload_n 3, 1) := by decide +kernel
theorem dX4_huntersAheadOf_5 : decode cX4_huntersAheadOf 5 = .ok (.aload_n 0, 1) := by decide +kernel
theorem dX4_huntersAheadOf_6 : decode cX4_huntersAheadOf 6 = .ok (.getfield 10, 3) := by decide +kernel
theorem dX4_huntersAheadOf_9 : decode cX4_huntersAheadOf 9 = .ok (.getfield 48, 3) := by decide +kernel
theorem dX4_huntersAheadOf_12 : decode cX4_huntersAheadOf 12 = .ok (.if_icmp .ge 21, 3) := by decide +kernel
theorem dX4_huntersAheadOf_15 : decode cX4_huntersAheadOf 15 = .ok (.aload_n 0, 1) := by decide +kernel
theorem dX4_huntersAheadOf_16 : decode cX4_huntersAheadOf 16 = .ok (.iload_n 3, 1) := by decide +kernel
theorem dX4_huntersAheadOf_17 : decode cX4_huntersAheadOf 17 = .ok (.iload_n 1, 1) := by decide +kernel
theorem dX4_huntersAheadOf_18 : decode cX4_huntersAheadOf 18 = .ok (.invokevirtual 254, 3) := by decide +kernel
theorem dX4_huntersAheadOf_21 : decode cX4_huntersAheadOf 21 = .ok (.ifCond .eq 6, 3) := by decide +kernel
theorem dX4_huntersAheadOf_24 : decode cX4_huntersAheadOf 24 = .ok (.iinc 2 1, 3) := by decide +kernel
theorem dX4_huntersAheadOf_27 : decode cX4_huntersAheadOf 27 = .ok (.iinc 3 1, 3) := by decide +kernel
theorem dX4_huntersAheadOf_30 : decode cX4_huntersAheadOf 30 = .ok (.goto (-26), 3) := by decide +kernel
theorem dX4_huntersAheadOf_33 : decode cX4_huntersAheadOf 33 = .ok (.iload_n 2, 1) := by decide +kernel
theorem dX4_huntersAheadOf_34 : decode cX4_huntersAheadOf 34 = .ok (.ireturn, 1) := by decide +kernel
theorem dX4_isAhead_0 : decode cX4_isAhead 0 = .ok (.aload_n 0, 1) := by decide +kernel
theorem dX4_isAhead_1 : decode cX4_isAhead 1 = .ok (.getfield 23, 3) := by decide +kernel
theorem dX4_isAhead_4 : decode cX4_isAhead 4 = .ok (.iload_n 1, 1) := by decide +kernel
theorem dX4_isAhead_5 : decode cX4_isAhead 5 = .ok (.iaload, 1) := by decide +kernel
theorem dX4_isAhead_6 : decode cX4_isAhead 6 = .ok (.aload_n 0, 1) := by decide +kernel
theorem dX4_isAhead_7 : decode cX4_isAhead 7 = .ok (.getfield 23, 3) := by decide +kernel
theorem dX4_isAhead_10 : decode cX4_isAhead 10 = .ok (.iload_n 2, 1) := by decide +kernel
theorem dX4_isAhead_11 : decode cX4_isAhead 11 = .ok (.iaload, 1) := by decide +kernel
theorem dX4_isAhead_12 : decode cX4_isAhead 12 = .ok (.if_icmp .eq 24, 3) := by decide +kernel
theorem dX4_isAhead_15 : decode cX4_isAhead 15 = .ok (.aload_n 0, 1) := by decide +kernel
theorem dX4_isAhead_16 : decode cX4_isAhead 16 = .ok (.getfield 23, 3) := by decide +kernel
theorem dX4_isAhead_19 : decode cX4_isAhead 19 = .ok (.iload_n 1, 1) := by decide +kernel
theorem dX4_isAhead_20 : decode cX4_isAhead 20 = .ok (.iaload, 1) := by decide +kernel
theorem dX4_isAhead_21 : decode cX4_isAhead 21 = .ok (.aload_n 0, 1) := by decide +kernel
theorem dX4_isAhead_22 : decode cX4_isAhead 22 = .ok (.getfield 23, 3) := by decide +kernel
theorem dX4_isAhead_25 : decode cX4_isAhead 25 = .ok (.iload_n 2, 1) := by decide +kernel
theorem dX4_isAhead_26 : decode cX4_isAhead 26 = .ok (.iaload, 1) := by decide +kernel
theorem dX4_isAhead_27 : decode cX4_isAhead 27 = .ok (.if_icmp .le 7, 3) := by decide +kernel
theorem dX4_isAhead_30 : decode cX4_isAhead 30 = .ok (.iconst 1, 1) := by decide +kernel
theorem dX4_isAhead_31 : decode cX4_isAhead 31 = .ok (.goto 4, 3) := by decide +kernel
theorem dX4_isAhead_34 : decode cX4_isAhead 34 = .ok (.iconst 0, 1) := by decide +kernel
theorem dX4_isAhead_35 : decode cX4_isAhead 35 = .ok (.ireturn, 1) := by decide +kernel
theorem dX4_isAhead_36 : decode cX4_isAhead 36 = .ok (.aload_n 0, 1) := by decide +kernel
theorem dX4_isAhead_37 : decode cX4_isAhead 37 = .ok (.getfield 10, 3) := by decide +kernel
theorem dX4_isAhead_40 : decode cX4_isAhead 40 = .ok (.getfield 190, 3) := by decide +kernel
theorem dX4_isAhead_43 : decode cX4_isAhead 43 = .ok (.iload_n 1, 1) := by decide +kernel
theorem dX4_isAhead_44 : decode cX4_isAhead 44 = .ok (.aaload, 1) := by decide +kernel
theorem dX4_isAhead_45 : decode cX4_isAhead 45 = .ok (.getfield 197, 3) := by decide +kernel
theorem dX4_isAhead_48 : decode cX4_isAhead 48 = .ok (.istore_n 3, 1) := by decide +kernel
theorem dX4_isAhead_49 : decode cX4_isAhead 49 = .ok (.aload_n 0, 1) := by decide +kernel
theorem dX4_isAhead_50 : decode cX4_isAhead 50 = .ok (.getfield 10, 3) := by decide +kernel
theorem dX4_isAhead_53 : decode cX4_isAhead 53 = .ok (.getfield 190, 3) := by decide +kernel
theorem dX4_isAhead_56 : decode cX4_isAhead 56 = .ok (.iload_n 2, 1) := by decide +kernel
theorem dX4_isAhead_57 : decode cX4_isAhead 57 = .ok (.aaload, 1) := by decide +kernel
theorem dX4_isAhead_58 : decode cX4_isAhead 58 = .ok (.getfield 197, 3) := by decide +kernel
theorem dX4_isAhead_61 : decode cX4_isAhead 61 = .ok (.istore 4, 2) := by decide +kernel
theorem dX4_isAhead_63 : decode cX4_isAhead 63 = .ok (.iload_n 3, 1) := by decide +kernel
theorem dX4_isAhead_64 : decode cX4_isAhead 64 = .ok (.iload 4, 2) := by decide +kernel
theorem dX4_isAhead_66 : decode cX4_isAhead 66 = .ok (.if_icmp .eq 17, 3) := by decide +kernel
theorem dX4_isAhead_69 : decode cX4_isAhead 69 = .ok (.iload_n 3, 1) := by decide +kernel
theorem dX4_isAhead_70 : decode cX4_isAhead 70 = .ok (.iload 4, 2) := by decide +kernel
theorem dX4_isAhead_72 : decode cX4_isAhead 72 = .ok (.if_icmp .le 7, 3) := by decide +kernel
theorem dX4_isAhead_75 : decode cX4_isAhead 75 = .ok (.iconst 1, 1) := by decide +kernel
theorem dX4_isAhead_76 : decode cX4_isAhead 76 = .ok (.goto 17, 3) := by decide +kernel
theorem dX4_isAhead_79 : decode cX4_isAhead 79 = .ok (.iconst 0, 1) := by decide +kernel
theorem dX4_isAhead_80 : decode cX4_isAhead 80 = .ok (.goto 13, 3) := by decide +kernel
theorem dX4_isAhead_83 : decode cX4_isAhead 83 = .ok (.iload_n 1, 1) := by decide +kernel
theorem dX4_isAhead_84 : decode cX4_isAhead 84 = .ok (.iload_n 2, 1) := by decide +kernel
theorem dX4_isAhead_85 : decode cX4_isAhead 85 = .ok (.if_icmp .ge 7, 3) := by decide +kernel
theorem dX4_isAhead_88 : decode cX4_isAhead 88 = .ok (.iconst 1, 1) := by decide +kernel
theorem dX4_isAhead_89 : decode cX4_isAhead 89 = .ok (.goto 4, 3) := by decide +kernel
theorem dX4_isAhead_92 : decode cX4_isAhead 92 = .ok (.iconst 0, 1) := by decide +kernel
theorem dX4_isAhead_93 : decode cX4_isAhead 93 = .ok (.ireturn, 1) := by decide +kernel
theorem dJ6_bitCount_0f7a4_0 : decode cJ6_bitCount_0f7a4 0 = .ok (.iload_n 0, 1) := by decide +kernel
theorem dJ6_bitCount_0f7a4_1 : decode cJ6_bitCount_0f7a4 1 = .ok (.iload_n 0, 1) := by decide +kernel
theorem dJ6_bitCount_0f7a4_2 : decode cJ6_bitCount_0f7a4 2 = .ok (.iconst 1, 1) := by decide +kernel
theorem dJ6_bitCount_0f7a4_3 : decode cJ6_bitCount_0f7a4 3 = .ok (.iushr, 1) := by decide +kernel
theorem dJ6_bitCount_0f7a4_4 : decode cJ6_bitCount_0f7a4 4 = .ok (.ldc_w 265, 3) := by decide +kernel
theorem dJ6_bitCount_0f7a4_7 : decode cJ6_bitCount_0f7a4 7 = .ok (.iand, 1) := by decide +kernel
theorem dJ6_bitCount_0f7a4_8 : decode cJ6_bitCount_0f7a4 8 = .ok (.isub, 1) := by decide +kernel
theorem dJ6_bitCount_0f7a4_9 : decode cJ6_bitCount_0f7a4 9 = .ok (.istore_n 0, 1) := by decide +kernel
theorem dJ6_bitCount_0f7a4_10 : decode cJ6_bitCount_0f7a4 10 = .ok (.iload_n 0, 1) := by decide +kernel
theorem dJ6_bitCount_0f7a4_11 : decode cJ6_bitCount_0f7a4 11 = .ok (.ldc_w 266, 3) := by decide +kernel
theorem dJ6_bitCount_0f7a4_14 : decode cJ6_bitCount_0f7a4 14 = .ok (.iand, 1) := by decide +kernel
theorem dJ6_bitCount_0f7a4_15 : decode cJ6_bitCount_0f7a4 15 = .ok (.iload_n 0, 1) := by decide +kernel
theorem dJ6_bitCount_0f7a4_16 : decode cJ6_bitCount_0f7a4 16 = .ok (.iconst 2, 1) := by decide +kernel
theorem dJ6_bitCount_0f7a4_17 : decode cJ6_bitCount_0f7a4 17 = .ok (.iushr, 1) := by decide +kernel
theorem dJ6_bitCount_0f7a4_18 : decode cJ6_bitCount_0f7a4 18 = .ok (.ldc_w 266, 3) := by decide +kernel
theorem dJ6_bitCount_0f7a4_21 : decode cJ6_bitCount_0f7a4 21 = .ok (.iand, 1) := by decide +kernel
theorem dJ6_bitCount_0f7a4_22 : decode cJ6_bitCount_0f7a4 22 = .ok (.iadd, 1) := by decide +kernel
theorem dJ6_bitCount_0f7a4_23 : decode cJ6_bitCount_0f7a4 23 = .ok (.istore_n 0, 1) := by decide +kernel
theorem dJ6_bitCount_0f7a4_24 : decode cJ6_bitCount_0f7a4 24 = .ok (.iload_n 0, 1) := by decide +kernel
theorem dJ6_bitCount_0f7a4_25 : decode cJ6_bitCount_0f7a4 25 = .ok (.iload_n 0, 1) := by decide +kernel
theorem dJ6_bitCount_0f7a4_26 : decode cJ6_bitCount_0f7a4 26 = .ok (.iconst 4, 1) := by decide +kernel
theorem dJ6_bitCount_0f7a4_27 : decode cJ6_bitCount_0f7a4 27 = .ok (.iushr, 1) := by decide +kernel
theorem dJ6_bitCount_0f7a4_28 : decode cJ6_bitCount_0f7a4 28 = .ok (.iadd, 1) := by decide +kernel
theorem dJ6_bitCount_0f7a4_29 : decode cJ6_bitCount_0f7a4 29 = .ok (.ldc_w 267, 3) := by decide +kernel
theorem dJ6_bitCount_0f7a4_32 : decode cJ6_bitCount_0f7a4 32 = .ok (.iand, 1) := by decide +kernel
theorem dJ6_bitCount_0f7a4_33 : decode cJ6_bitCount_0f7a4 33 = .ok (.istore_n 0, 1) := by decide +kernel
theorem dJ6_bitCount_0f7a4_34 : decode cJ6_bitCount_0f7a4 34 = .ok (.iload_n 0, 1) := by decide +kernel
theorem dJ6_bitCount_0f7a4_35 : decode cJ6_bitCount_0f7a4 35 = .ok (.iload_n 0, 1) := by decide +kernel
theorem dJ6_bitCount_0f7a4_36 : decode cJ6_bitCount_0f7a4 36 = .ok (.bipush 8, 2) := by decide +kernel
theorem dJ6_bitCount_0f7a4_38 : decode cJ6_bitCount_0f7a4 38 = .ok (.iushr, 1) := by decide +kernel
theorem dJ6_bitCount_0f7a4_39 : decode cJ6_bitCount_0f7a4 39 = .ok (.iadd, 1) := by decide +kernel
theorem dJ6_bitCount_0f7a4_40 : decode cJ6_bitCount_0f7a4 40 = .ok (.istore_n 0, 1) := by decide +kernel
theorem dJ6_bitCount_0f7a4_41 : decode cJ6_bitCount_0f7a4 41 = .ok (.iload_n 0, 1) := by decide +kernel
theorem dJ6_bitCount_0f7a4_42 : decode cJ6_bitCount_0f7a4 42 = .ok (.iload_n 0, 1) := by decide +kernel
theorem dJ6_bitCount_0f7a4_43 : decode cJ6_bitCount_0f7a4 43 = .ok (.bipush 16, 2) := by decide +kernel
theorem dJ6_bitCount_0f7a4_45 : decode cJ6_bitCount_0f7a4 45 = .ok (.iushr, 1) := by decide +kernel
theorem dJ6_bitCount_0f7a4_46 : decode cJ6_bitCount_0f7a4 46 = .ok (.iadd, 1) := by decide +kernel
theorem dJ6_bitCount_0f7a4_47 : decode cJ6_bitCount_0f7a4 47 = .ok (.istore_n 0, 1) := by decide +kernel
theorem dJ6_bitCount_0f7a4_48 : decode cJ6_bitCount_0f7a4 48 = .ok (.iload_n 0, 1) := by decide +kernel
theorem dJ6_bitCount_0f7a4_49 : decode cJ6_bitCount_0f7a4 49 = .ok (.bipush 63, 2) := by decide +kernel
theorem dJ6_bitCount_0f7a4_51 : decode cJ6_bitCount_0f7a4 51 = .ok (.iand, 1) := by decide +kernel
theorem dJ6_bitCount_0f7a4_52 : decode cJ6_bitCount_0f7a4 52 = .ok (.ireturn, 1) := by decide +kernel
theorem dJ9_max_7cf53_0 : decode cJ9_max_7cf53 0 = .ok (.iload_n 0, 1) := by decide +kernel
theorem dJ9_max_7cf53_1 : decode cJ9_max_7cf53 1 = .ok (.iload_n 1, 1) := by decide +kernel
theorem dJ9_max_7cf53_2 : decode cJ9_max_7cf53 2 = .ok (.if_icmp .lt 7, 3) := by decide +kernel
theorem dJ9_max_7cf53_5 : decode cJ9_max_7cf53 5 = .ok (.iload_n 0, 1) := by decide +kernel
theorem dJ9_max_7cf53_6 : decode cJ9_max_7cf53 6 = .ok (.goto 4, 3) := by decide +kernel
theorem dJ9_max_7cf53_9 : decode cJ9_max_7cf53 9 = .ok (.iload_n 1, 1) := by decide +kernel
theorem dJ9_max_7cf53_10 : decode cJ9_max_7cf53 10 = .ok (.ireturn, 1) := by decide +kernel
theorem dJ9_min_7cf53_0 : decode cJ9_min_7cf53 0 = .ok (.iload_n 0, 1) := by decide +kernel
theorem dJ9_min_7cf53_1 : decode cJ9_min_7cf53 1 = .ok (.iload_n 1, 1) := by decide +kernel
theorem dJ9_min_7cf53_2 : decode cJ9_min_7cf53 2 = .ok (.if_icmp .gt 7, 3) := by decide +kernel
theorem dJ9_min_7cf53_5 : decode cJ9_min_7cf53 5 = .ok (.iload_n 0, 1) := by decide +kernel
theorem dJ9_min_7cf53_6 : decode cJ9_min_7cf53 6 = .ok (.goto 4, 3) := by decide +kernel
theorem dJ9_min_7cf53_9 : decode cJ9_min_7cf53 9 = .ok (.iload_n 1, 1) := by decide +kernel
theorem dJ9_min_7cf53_10 : decode cJ9_min_7cf53 10 = .ok (.ireturn, 1) := by decide +kernel
theorem dL_cell_0 : decode cL_cell 0 = .ok (.iload_n 1, 1) := by decide +kernel
theorem dL_cell_1 : decode cL_cell 1 = .ok (.aload_n 0, 1) := by decide +kernel
theorem dL_cell_2 : decode cL_cell 2 = .ok (.arraylength, 1) := by decide +kernel
theorem dL_cell_3 : decode cL_cell 3 = .ok (.if_icmp .ge 9, 3) := by decide +kernel
theorem dL_cell_6 : decode cL_cell 6 = .ok (.aload_n 0, 1) := by decide +kernel
theorem dL_cell_7 : decode cL_cell 7 = .ok (.iload_n 1, 1) := by decide +kernel
theorem dL_cell_8 : decode cL_cell 8 = .ok (.iaload, 1) := by decide +kernel
theorem dL_cell_9 : decode cL_cell 9 = .ok (.goto 9, 3) := by decide +kernel
theorem dL_cell_12 : decode cL_cell 12 = .ok (.ldc 7, 2) := by decide +kernel
theorem dL_cell_14 : decode cL_cell 14 = .ok (.iload_n 1, 1) := by decide +kernel
theorem dL_cell_15 : decode cL_cell 15 = .ok (.iconst 3, 1) := by decide +kernel
theorem dL_cell_16 : decode cL_cell 16 = .ok (.iadd, 1) := by decide +kernel
theorem dL_cell_17 : decode cL_cell 17 = .ok (.imul, 1) := by decide +kernel
theorem dL_cell_18 : decode cL_cell 18 = .ok (.istore_n 2, 1) := by decide +kernel
theorem dL_cell_19 : decode cL_cell 19 = .ok (.iload_n 2, 1) := by decide +kernel
theorem dL_cell_20 : decode cL_cell 20 = .ok (.iload_n 2, 1) := by decide +kernel
theorem dL_cell_21 : decode cL_cell 21 = .ok (.bipush 15, 2) := by decide +kernel
theorem dL_cell_23 : decode cL_cell 23 = .ok (.iushr, 1) := by decide +kernel
theorem dL_cell_24 : decode cL_cell 24 = .ok (.ixor, 1) := by decide +kernel
theorem dL_cell_25 : decode cL_cell 25 = .ok (.ireturn, 1) := by decide +kernel
theorem dL_low_0 : decode cL_low 0 = .ok (.iload_n 0, 1) := by decide +kernel
theorem dL_low_1 : decode cL_low 1 = .ok (.ldc 8, 2) := by decide +kernel
theorem dL_low_3 : decode cL_low 3 = .ok (.iand, 1) := by decide +kernel
theorem dL_low_4 : decode cL_low 4 = .ok (.iload_n 1, 1) := by decide +kernel
theorem dL_low_5 : decode cL_low 5 = .ok (.irem, 1) := by decide +kernel
theorem dL_low_6 : decode cL_low 6 = .ok (.ireturn, 1) := by decide +kernel
theorem dL_sum_0 : decode cL_sum 0 = .ok (.aload_n 0, 1) := by decide +kernel
theorem dL_sum_1 : decode cL_sum 1 = .ok (.invokevirtual 9, 3) := by decide +kernel
theorem dL_sum_4 : decode cL_sum 4 = .ok (.i2l, 1) := by decide +kernel
theorem dL_sum_5 : decode cL_sum 5 = .ok (.lstore_n 1, 1) := by decide +kernel
theorem dL_sum_6 : decode cL_sum 6 = .ok (.iconst 0, 1) := by decide +kernel
theorem dL_sum_7 : decode cL_sum 7 = .ok (.istore_n 3, 1) := by decide +kernel
theorem dL_sum_8 : decode cL_sum 8 = .ok (.iload_n 3, 1) := by decide +kernel
theorem dL_sum_9 : decode cL_sum 9 = .ok (.bipush 16, 2) := by decide +kernel
theorem dL_sum_11 : decode cL_sum 11 = .ok (.if_icmp .ge 22, 3) := by decide +kernel
theorem dL_sum_14 : decode cL_sum 14 = .ok (.ldc2_w 15, 3) := by decide +kernel
theorem dL_sum_17 : decode cL_sum 17 = .ok (.lload_n 1, 1) := by decide +kernel
theorem dL_sum_18 : decode cL_sum 18 = .ok (.lmul, 1) := by decide +kernel
theorem dL_sum_19 : decode cL_sum 19 = .ok (.aload_n 0, 1) := by decide +kernel
theorem dL_sum_20 : decode cL_sum 20 = .ok (.iload_n 3, 1) := by decide +kernel
theorem dL_sum_21 : decode cL_sum 21 = .ok (.invokevirtual 17, 3) := by decide +kernel
theorem dL_sum_24 : decode cL_sum 24 = .ok (.i2l, 1) := by decide +kernel
theorem dL_sum_25 : decode cL_sum 25 = .ok (.ladd, 1) := by decide +kernel
theorem dL_sum_26 : decode cL_sum 26 = .ok (.lstore_n 1, 1) := by decide +kernel
theorem dL_sum_27 : decode cL_sum 27 = .ok (.iinc 3 1, 3) := by decide +kernel
theorem dL_sum_30 : decode cL_sum 30 = .ok (.goto (-22), 3) := by decide +kernel
theorem dL_sum_33 : decode cL_sum 33 = .ok (.iconst 0, 1) := by decide +kernel
theorem dL_sum_34 : decode cL_sum 34 = .ok (.istore_n 3, 1) := by decide +kernel
theorem dL_sum_35 : decode cL_sum 35 = .ok (.iload_n 3, 1) := by decide +kernel
theorem dL_sum_36 : decode cL_sum 36 = .ok (.iconst 5, 1) := by decide +kernel
theorem dL_sum_37 : decode cL_sum 37 = .ok (.aload_n 0, 1) := by decide +kernel
theorem dL_sum_38 : decode cL_sum 38 = .ok (.iconst 3, 1) := by decide +kernel
theorem dL_sum_39 : decode cL_sum 39 = .ok (.invokevirtual 17, 3) := by decide +kernel
theorem dL_sum_42 : decode cL_sum 42 = .ok (.imul, 1) := by decide +kernel
theorem dL_sum_43 : decode cL_sum 43 = .ok (.if_icmp .ge 27, 3) := by decide +kernel
theorem dL_sum_46 : decode cL_sum 46 = .ok (.ldc2_w 15, 3) := by decide +kernel
theorem dL_sum_49 : decode cL_sum 49 = .ok (.lload_n 1, 1) := by decide +kernel
theorem dL_sum_50 : decode cL_sum 50 = .ok (.lmul, 1) := by decide +kernel
theorem dL_sum_51 : decode cL_sum 51 = .ok (.aload_n 0, 1) := by decide +kernel
theorem dL_sum_52 : decode cL_sum 52 = .ok (.iload_n 3, 1) := by decide +kernel
theorem dL_sum_53 : decode cL_sum 53 = .ok (.iconst 5, 1) := by decide +kernel
theorem dL_sum_54 : decode cL_sum 54 = .ok (.idiv, 1) := by decide +kernel
theorem dL_sum_55 : decode cL_sum 55 = .ok (.iload_n 3, 1) := by decide +kernel
theorem dL_sum_56 : decode cL_sum 56 = .ok (.iconst 5, 1) := by decide +kernel
theorem dL_sum_57 : decode cL_sum 57 = .ok (.irem, 1) := by decide +kernel
theorem dL_sum_58 : decode cL_sum 58 = .ok (.invokevirtual 21, 3) := by decide +kernel
theorem dL_sum_61 : decode cL_sum 61 = .ok (.i2l, 1) := by decide +kernel
theorem dL_sum_62 : decode cL_sum 62 = .ok (.ladd, 1) := by decide +kernel
theorem dL_sum_63 : decode cL_sum 63 = .ok (.lstore_n 1, 1) := by decide +kernel
theorem dL_sum_64 : decode cL_sum 64 = .ok (.iinc 3 1, 3) := by decide +kernel
theorem dL_sum_67 : decode cL_sum 67 = .ok (.goto (-32), 3) := by decide +kernel
theorem dL_sum_70 : decode cL_sum 70 = .ok (.iconst 0, 1) := by decide +kernel
theorem dL_sum_71 : decode cL_sum 71 = .ok (.istore_n 3, 1) := by decide +kernel
theorem dL_sum_72 : decode cL_sum 72 = .ok (.iload_n 3, 1) := by decide +kernel
theorem dL_sum_73 : decode cL_sum 73 = .ok (.bipush 6, 2) := by decide +kernel
theorem dL_sum_75 : decode cL_sum 75 = .ok (.aload_n 0, 1) := by decide +kernel
theorem dL_sum_76 : decode cL_sum 76 = .ok (.iconst 4, 1) := by decide +kernel
theorem dL_sum_77 : decode cL_sum 77 = .ok (.invokevirtual 17, 3) := by decide +kernel
theorem dL_sum_80 : decode cL_sum 80 = .ok (.imul, 1) := by decide +kernel
theorem dL_sum_81 : decode cL_sum 81 = .ok (.if_icmp .ge 29, 3) := by decide +kernel
theorem dL_sum_84 : decode cL_sum 84 = .ok (.ldc2_w 15, 3) := by decide +kernel
theorem dL_sum_87 : decode cL_sum 87 = .ok (.lload_n 1, 1) := by decide +kernel
theorem dL_sum_88 : decode cL_sum 88 = .ok (.lmul, 1) := by decide +kernel
theorem dL_sum_89 : decode cL_sum 89 = .ok (.aload_n 0, 1) := by decide +kernel
theorem dL_sum_90 : decode cL_sum 90 = .ok (.iload_n 3, 1) := by decide +kernel
theorem dL_sum_91 : decode cL_sum 91 = .ok (.bipush 6, 2) := by decide +kernel
theorem dL_sum_93 : decode cL_sum 93 = .ok (.idiv, 1) := by decide +kernel
theorem dL_sum_94 : decode cL_sum 94 = .ok (.iload_n 3, 1) := by decide +kernel
theorem dL_sum_95 : decode cL_sum 95 = .ok (.bipush 6, 2) := by decide +kernel
theorem dL_sum_97 : decode cL_sum 97 = .ok (.irem, 1) := by decide +kernel
theorem dL_sum_98 : decode cL_sum 98 = .ok (.invokevirtual 25, 3) := by decide +kernel
theorem dL_sum_101 : decode cL_sum 101 = .ok (.i2l, 1) := by decide +kernel
theorem dL_sum_102 : decode cL_sum 102 = .ok (.ladd, 1) := by decide +kernel
theorem dL_sum_103 : decode cL_sum 103 = .ok (.lstore_n 1, 1) := by decide +kernel
theorem dL_sum_104 : decode cL_sum 104 = .ok (.iinc 3 1, 3) := by decide +kernel
theorem dL_sum_107 : decode cL_sum 107 = .ok (.goto (-35), 3) := by decide +kernel
theorem dL_sum_110 : decode cL_sum 110 = .ok (.iconst 0, 1) := by decide +kernel
theorem dL_sum_111 : decode cL_sum 111 = .ok (.istore_n 3, 1) := by decide +kernel
theorem dL_sum_112 : decode cL_sum 112 = .ok (.iload_n 3, 1) := by decide +kernel
theorem dL_sum_113 : decode cL_sum 113 = .ok (.bipush 13, 2) := by decide +kernel
theorem dL_sum_115 : decode cL_sum 115 = .ok (.aload_n 0, 1) := by decide +kernel
theorem dL_sum_116 : decode cL_sum 116 = .ok (.iconst 5, 1) := by decide +kernel
theorem dL_sum_117 : decode cL_sum 117 = .ok (.invokevirtual 17, 3) := by decide +kernel
theorem dL_sum_120 : decode cL_sum 120 = .ok (.imul, 1) := by decide +kernel
theorem dL_sum_121 : decode cL_sum 121 = .ok (.if_icmp .ge 29, 3) := by decide +kernel
theorem dL_sum_124 : decode cL_sum 124 = .ok (.ldc2_w 15, 3) := by decide +kernel
theorem dL_sum_127 : decode cL_sum 127 = .ok (.lload_n 1, 1) := by decide +kernel
theorem dL_sum_128 : decode cL_sum 128 = .ok (.lmul, 1) := by decide +kernel
theorem dL_sum_129 : decode cL_sum 129 = .ok (.aload_n 0, 1) := by decide +kernel
theorem dL_sum_130 : decode cL_sum 130 = .ok (.iload_n 3, 1) := by decide +kernel
theorem dL_sum_131 : decode cL_sum 131 = .ok (.bipush 13, 2) := by decide +kernel
theorem dL_sum_133 : decode cL_sum 133 = .ok (.idiv, 1) := by decide +kernel
theorem dL_sum_134 : decode cL_sum 134 = .ok (.iload_n 3, 1) := by decide +kernel
theorem dL_sum_135 : decode cL_sum 135 = .ok (.bipush 13, 2) := by decide +kernel
theorem dL_sum_137 : decode cL_sum 137 = .ok (.irem, 1) := by decide +kernel
theorem dL_sum_138 : decode cL_sum 138 = .ok (.invokevirtual 28, 3) := by decide +kernel
theorem dL_sum_141 : decode cL_sum 141 = .ok (.i2l, 1) := by decide +kernel
theorem dL_sum_142 : decode cL_sum 142 = .ok (.ladd, 1) := by decide +kernel
theorem dL_sum_143 : decode cL_sum 143 = .ok (.lstore_n 1, 1) := by decide +kernel
theorem dL_sum_144 : decode cL_sum 144 = .ok (.iinc 3 1, 3) := by decide +kernel
theorem dL_sum_147 : decode cL_sum 147 = .ok (.goto (-35), 3) := by decide +kernel
theorem dL_sum_150 : decode cL_sum 150 = .ok (.lload_n 1, 1) := by decide +kernel
theorem dL_sum_151 : decode cL_sum 151 = .ok (.lreturn, 1) := by decide +kernel
theorem dL_refused_0 : decode cL_refused 0 = .ok (.aload_n 0, 1) := by decide +kernel
theorem dL_refused_1 : decode cL_refused 1 = .ok (.invokestatic 31, 3) := by decide +kernel
theorem dL_refused_4 : decode cL_refused 4 = .ok (.lstore_n 1, 1) := by decide +kernel
theorem dL_refused_5 : decode cL_refused 5 = .ok (.aload_n 0, 1) := by decide +kernel
theorem dL_refused_6 : decode cL_refused 6 = .ok (.bipush 16, 2) := by decide +kernel
theorem dL_refused_8 : decode cL_refused 8 = .ok (.invokevirtual 17, 3) := by decide +kernel
theorem dL_refused_11 : decode cL_refused 11 = .ok (.istore_n 3, 1) := by decide +kernel
theorem dL_refused_12 : decode cL_refused 12 = .ok (.aload_n 0, 1) := by decide +kernel
theorem dL_refused_13 : decode cL_refused 13 = .ok (.iconst 3, 1) := by decide +kernel
theorem dL_refused_14 : decode cL_refused 14 = .ok (.invokevirtual 17, 3) := by decide +kernel
theorem dL_refused_17 : decode cL_refused 17 = .ok (.istore 4, 2) := by decide +kernel
theorem dL_refused_19 : decode cL_refused 19 = .ok (.aload_n 0, 1) := by decide +kernel
theorem dL_refused_20 : decode cL_refused 20 = .ok (.iconst 4, 1) := by decide +kernel
theorem dL_refused_21 : decode cL_refused 21 = .ok (.invokevirtual 17, 3) := by decide +kernel
theorem dL_refused_24 : decode cL_refused 24 = .ok (.istore 5, 2) := by decide +kernel
theorem dL_refused_26 : decode cL_refused 26 = .ok (.aload_n 0, 1) := by decide +kernel
theorem dL_refused_27 : decode cL_refused 27 = .ok (.iconst 5, 1) := by decide +kernel
theorem dL_refused_28 : decode cL_refused 28 = .ok (.invokevirtual 17, 3) := by decide +kernel
theorem dL_refused_31 : decode cL_refused 31 = .ok (.istore 6, 2) := by decide +kernel
theorem dL_refused_33 : decode cL_refused 33 = .ok (.aload_n 0, 1) := by decide +kernel
theorem dL_refused_34 : decode cL_refused 34 = .ok (.iconst 0, 1) := by decide +kernel
theorem dL_refused_35 : decode cL_refused 35 = .ok (.iconst 0, 1) := by decide +kernel
theorem dL_refused_36 : decode cL_refused 36 = .ok (.invokevirtual 37, 3) := by decide +kernel
theorem dL_refused_39 : decode cL_refused 39 = .ok (.sipush (-10001), 3) := by decide +kernel
theorem dL_refused_42 : decode cL_refused 42 = .ok (.if_icmp .ne 293, 3) := by decide +kernel
theorem dL_refused_45 : decode cL_refused 45 = .ok (.aload_n 0, 1) := by decide +kernel
theorem dL_refused_46 : decode cL_refused 46 = .ok (.iconst (-1), 1) := by decide +kernel
theorem dL_refused_47 : decode cL_refused 47 = .ok (.invokevirtual 40, 3) := by decide +kernel
theorem dL_refused_50 : decode cL_refused 50 = .ok (.sipush (-10001), 3) := by decide +kernel
theorem dL_refused_53 : decode cL_refused 53 = .ok (.if_icmp .ne 282, 3) := by decide +kernel
theorem dL_refused_56 : decode cL_refused 56 = .ok (.aload_n 0, 1) := by decide +kernel
theorem dL_refused_57 : decode cL_refused 57 = .ok (.bipush 20, 2) := by decide +kernel
theorem dL_refused_59 : decode cL_refused 59 = .ok (.invokevirtual 43, 3) := by decide +kernel
theorem dL_refused_62 : decode cL_refused 62 = .ok (.sipush (-10001), 3) := by decide +kernel
theorem dL_refused_65 : decode cL_refused 65 = .ok (.if_icmp .ne 270, 3) := by decide +kernel
theorem dL_refused_68 : decode cL_refused 68 = .ok (.aload_n 0, 1) := by decide +kernel
theorem dL_refused_69 : decode cL_refused 69 = .ok (.sipush 1000, 3) := by decide +kernel
theorem dL_refused_72 : decode cL_refused 72 = .ok (.invokevirtual 46, 3) := by decide +kernel
theorem dL_refused_75 : decode cL_refused 75 = .ok (.sipush (-10001), 3) := by decide +kernel
theorem dL_refused_78 : decode cL_refused 78 = .ok (.if_icmp .ne 257, 3) := by decide +kernel
theorem dL_refused_81 : decode cL_refused 81 = .ok (.aload_n 0, 1) := by decide +kernel
theorem dL_refused_82 : decode cL_refused 82 = .ok (.iload 5, 2) := by decide +kernel
theorem dL_refused_84 : decode cL_refused 84 = .ok (.iconst 0, 1) := by decide +kernel
theorem dL_refused_85 : decode cL_refused 85 = .ok (.iconst 0, 1) := by decide +kernel
theorem dL_refused_86 : decode cL_refused 86 = .ok (.invokevirtual 49, 3) := by decide +kernel
theorem dL_refused_89 : decode cL_refused 89 = .ok (.sipush (-10001), 3) := by decide +kernel
theorem dL_refused_92 : decode cL_refused 92 = .ok (.if_icmp .ne 243, 3) := by decide +kernel
theorem dL_refused_95 : decode cL_refused 95 = .ok (.aload_n 0, 1) := by decide +kernel
theorem dL_refused_96 : decode cL_refused 96 = .ok (.iconst 0, 1) := by decide +kernel
theorem dL_refused_97 : decode cL_refused 97 = .ok (.iload 4, 2) := by decide +kernel
theorem dL_refused_99 : decode cL_refused 99 = .ok (.iconst 0, 1) := by decide +kernel
theorem dL_refused_100 : decode cL_refused 100 = .ok (.invokevirtual 49, 3) := by decide +kernel
theorem dL_refused_103 : decode cL_refused 103 = .ok (.sipush (-10001), 3) := by decide +kernel
theorem dL_refused_106 : decode cL_refused 106 = .ok (.if_icmp .ne 229, 3) := by decide +kernel
theorem dL_refused_109 : decode cL_refused 109 = .ok (.aload_n 0, 1) := by decide +kernel
theorem dL_refused_110 : decode cL_refused 110 = .ok (.iconst 0, 1) := by decide +kernel
theorem dL_refused_111 : decode cL_refused 111 = .ok (.iconst 0, 1) := by decide +kernel
theorem dL_refused_112 : decode cL_refused 112 = .ok (.iconst (-1), 1) := by decide +kernel
theorem dL_refused_113 : decode cL_refused 113 = .ok (.invokevirtual 49, 3) := by decide +kernel
theorem dL_refused_116 : decode cL_refused 116 = .ok (.sipush (-10001), 3) := by decide +kernel
theorem dL_refused_119 : decode cL_refused 119 = .ok (.if_icmp .ne 216, 3) := by decide +kernel
theorem dL_refused_122 : decode cL_refused 122 = .ok (.aload_n 0, 1) := by decide +kernel
theorem dL_refused_123 : decode cL_refused 123 = .ok (.iload 6, 2) := by decide +kernel
theorem dL_refused_125 : decode cL_refused 125 = .ok (.invokevirtual 53, 3) := by decide +kernel
theorem dL_refused_128 : decode cL_refused 128 = .ok (.sipush (-10001), 3) := by decide +kernel
theorem dL_refused_131 : decode cL_refused 131 = .ok (.if_icmp .ne 204, 3) := by decide +kernel
theorem dL_refused_134 : decode cL_refused 134 = .ok (.aload_n 0, 1) := by decide +kernel
theorem dL_refused_135 : decode cL_refused 135 = .ok (.iload 6, 2) := by decide +kernel
theorem dL_refused_137 : decode cL_refused 137 = .ok (.iconst 1, 1) := by decide +kernel
theorem dL_refused_138 : decode cL_refused 138 = .ok (.invokevirtual 56, 3) := by decide +kernel
theorem dL_refused_141 : decode cL_refused 141 = .ok (.sipush (-10001), 3) := by decide +kernel
theorem dL_refused_144 : decode cL_refused 144 = .ok (.if_icmp .ne 191, 3) := by decide +kernel
theorem dL_refused_147 : decode cL_refused 147 = .ok (.aload_n 0, 1) := by decide +kernel
theorem dL_refused_148 : decode cL_refused 148 = .ok (.iconst 0, 1) := by decide +kernel
theorem dL_refused_149 : decode cL_refused 149 = .ok (.iconst 0, 1) := by decide +kernel
theorem dL_refused_150 : decode cL_refused 150 = .ok (.invokevirtual 56, 3) := by decide +kernel
theorem dL_refused_153 : decode cL_refused 153 = .ok (.sipush (-10001), 3) := by decide +kernel
theorem dL_refused_156 : decode cL_refused 156 = .ok (.if_icmp .ne 179, 3) := by decide +kernel
theorem dL_refused_159 : decode cL_refused 159 = .ok (.aload_n 0, 1) := by decide +kernel
theorem dL_refused_160 : decode cL_refused 160 = .ok (.iconst (-1), 1) := by decide +kernel
theorem dL_refused_161 : decode cL_refused 161 = .ok (.invokevirtual 59, 3) := by decide +kernel
theorem dL_refused_164 : decode cL_refused 164 = .ok (.sipush (-10001), 3) := by decide +kernel
theorem dL_refused_167 : decode cL_refused 167 = .ok (.if_icmp .ne 168, 3) := by decide +kernel
theorem dL_refused_170 : decode cL_refused 170 = .ok (.aload_n 0, 1) := by decide +kernel
theorem dL_refused_171 : decode cL_refused 171 = .ok (.iconst 0, 1) := by decide +kernel
theorem dL_refused_172 : decode cL_refused 172 = .ok (.iconst 1, 1) := by decide +kernel
theorem dL_refused_173 : decode cL_refused 173 = .ok (.invokevirtual 62, 3) := by decide +kernel
theorem dL_refused_176 : decode cL_refused 176 = .ok (.sipush (-10001), 3) := by decide +kernel
theorem dL_refused_179 : decode cL_refused 179 = .ok (.if_icmp .ne 156, 3) := by decide +kernel
theorem dL_refused_182 : decode cL_refused 182 = .ok (.aload_n 0, 1) := by decide +kernel
theorem dL_refused_183 : decode cL_refused 183 = .ok (.iload 6, 2) := by decide +kernel
theorem dL_refused_185 : decode cL_refused 185 = .ok (.iconst 1, 1) := by decide +kernel
theorem dL_refused_186 : decode cL_refused 186 = .ok (.invokevirtual 65, 3) := by decide +kernel
theorem dL_refused_189 : decode cL_refused 189 = .ok (.sipush (-10001), 3) := by decide +kernel
theorem dL_refused_192 : decode cL_refused 192 = .ok (.if_icmp .ne 143, 3) := by decide +kernel
theorem dL_refused_195 : decode cL_refused 195 = .ok (.aload_n 0, 1) := by decide +kernel
theorem dL_refused_196 : decode cL_refused 196 = .ok (.iload 6, 2) := by decide +kernel
theorem dL_refused_198 : decode cL_refused 198 = .ok (.invokevirtual 68, 3) := by decide +kernel
theorem dL_refused_201 : decode cL_refused 201 = .ok (.sipush (-10001), 3) := by decide +kernel
theorem dL_refused_204 : decode cL_refused 204 = .ok (.if_icmp .ne 131, 3) := by decide +kernel
theorem dL_refused_207 : decode cL_refused 207 = .ok (.aload_n 0, 1) := by decide +kernel
theorem dL_refused_208 : decode cL_refused 208 = .ok (.iload 5, 2) := by decide +kernel
theorem dL_refused_210 : decode cL_refused 210 = .ok (.iconst 0, 1) := by decide +kernel
theorem dL_refused_211 : decode cL_refused 211 = .ok (.iconst 0, 1) := by decide +kernel
theorem dL_refused_212 : decode cL_refused 212 = .ok (.invokevirtual 71, 3) := by decide +kernel
theorem dL_refused_215 : decode cL_refused 215 = .ok (.sipush (-10001), 3) := by decide +kernel
theorem dL_refused_218 : decode cL_refused 218 = .ok (.if_icmp .ne 117, 3) := by decide +kernel
theorem dL_refused_221 : decode cL_refused 221 = .ok (.aload_n 0, 1) := by decide +kernel
theorem dL_refused_222 : decode cL_refused 222 = .ok (.bipush (-5), 2) := by decide +kernel
theorem dL_refused_224 : decode cL_refused 224 = .ok (.invokevirtual 74, 3) := by decide +kernel
theorem dL_refused_227 : decode cL_refused 227 = .ok (.sipush (-10001), 3) := by decide +kernel
theorem dL_refused_230 : decode cL_refused 230 = .ok (.if_icmp .ne 105, 3) := by decide +kernel
theorem dL_refused_233 : decode cL_refused 233 = .ok (.aload_n 0, 1) := by decide +kernel
theorem dL_refused_234 : decode cL_refused 234 = .ok (.iload 6, 2) := by decide +kernel
theorem dL_refused_236 : decode cL_refused 236 = .ok (.invokevirtual 77, 3) := by decide +kernel
theorem dL_refused_239 : decode cL_refused 239 = .ok (.sipush (-10001), 3) := by decide +kernel
theorem dL_refused_242 : decode cL_refused 242 = .ok (.if_icmp .ne 93, 3) := by decide +kernel
theorem dL_refused_245 : decode cL_refused 245 = .ok (.aload_n 0, 1) := by decide +kernel
theorem dL_refused_246 : decode cL_refused 246 = .ok (.iload 6, 2) := by decide +kernel
theorem dL_refused_248 : decode cL_refused 248 = .ok (.invokevirtual 80, 3) := by decide +kernel
theorem dL_refused_251 : decode cL_refused 251 = .ok (.sipush (-10001), 3) := by decide +kernel
theorem dL_refused_254 : decode cL_refused 254 = .ok (.if_icmp .ne 81, 3) := by decide +kernel
theorem dL_refused_257 : decode cL_refused 257 = .ok (.aload_n 0, 1) := by decide +kernel
theorem dL_refused_258 : decode cL_refused 258 = .ok (.iconst (-1), 1) := by decide +kernel
theorem dL_refused_259 : decode cL_refused 259 = .ok (.invokevirtual 83, 3) := by decide +kernel
theorem dL_refused_262 : decode cL_refused 262 = .ok (.sipush (-10001), 3) := by decide +kernel
theorem dL_refused_265 : decode cL_refused 265 = .ok (.if_icmp .ne 70, 3) := by decide +kernel
theorem dL_refused_268 : decode cL_refused 268 = .ok (.aload_n 0, 1) := by decide +kernel
theorem dL_refused_269 : decode cL_refused 269 = .ok (.iload 5, 2) := by decide +kernel
theorem dL_refused_271 : decode cL_refused 271 = .ok (.invokevirtual 83, 3) := by decide +kernel
theorem dL_refused_274 : decode cL_refused 274 = .ok (.sipush (-10009), 3) := by decide +kernel
theorem dL_refused_277 : decode cL_refused 277 = .ok (.if_icmp .ne 58, 3) := by decide +kernel
theorem dL_refused_280 : decode cL_refused 280 = .ok (.aload_n 0, 1) := by decide +kernel
theorem dL_refused_281 : decode cL_refused 281 = .ok (.iload 4, 2) := by decide +kernel
theorem dL_refused_283 : decode cL_refused 283 = .ok (.iconst 0, 1) := by decide +kernel
theorem dL_refused_284 : decode cL_refused 284 = .ok (.invokevirtual 21, 3) := by decide +kernel
theorem dL_refused_287 : decode cL_refused 287 = .ok (.sipush (-10001), 3) := by decide +kernel
theorem dL_refused_290 : decode cL_refused 290 = .ok (.if_icmp .ne 45, 3) := by decide +kernel
theorem dL_refused_293 : decode cL_refused 293 = .ok (.aload_n 0, 1) := by decide +kernel
theorem dL_refused_294 : decode cL_refused 294 = .ok (.iload 5, 2) := by decide +kernel
theorem dL_refused_296 : decode cL_refused 296 = .ok (.iconst 0, 1) := by decide +kernel
theorem dL_refused_297 : decode cL_refused 297 = .ok (.invokevirtual 25, 3) := by decide +kernel
theorem dL_refused_300 : decode cL_refused 300 = .ok (.sipush (-10001), 3) := by decide +kernel
theorem dL_refused_303 : decode cL_refused 303 = .ok (.if_icmp .ne 32, 3) := by decide +kernel
theorem dL_refused_306 : decode cL_refused 306 = .ok (.aload_n 0, 1) := by decide +kernel
theorem dL_refused_307 : decode cL_refused 307 = .ok (.iload 6, 2) := by decide +kernel
theorem dL_refused_309 : decode cL_refused 309 = .ok (.iconst 0, 1) := by decide +kernel
theorem dL_refused_310 : decode cL_refused 310 = .ok (.invokevirtual 28, 3) := by decide +kernel
theorem dL_refused_313 : decode cL_refused 313 = .ok (.sipush (-10001), 3) := by decide +kernel
theorem dL_refused_316 : decode cL_refused 316 = .ok (.if_icmp .ne 19, 3) := by decide +kernel
theorem dL_refused_319 : decode cL_refused 319 = .ok (.aload_n 0, 1) := by decide +kernel
theorem dL_refused_320 : decode cL_refused 320 = .ok (.bipush 17, 2) := by decide +kernel
theorem dL_refused_322 : decode cL_refused 322 = .ok (.invokevirtual 17, 3) := by decide +kernel
theorem dL_refused_325 : decode cL_refused 325 = .ok (.sipush (-10001), 3) := by decide +kernel
theorem dL_refused_328 : decode cL_refused 328 = .ok (.if_icmp .ne 7, 3) := by decide +kernel
theorem dL_refused_331 : decode cL_refused 331 = .ok (.iconst 1, 1) := by decide +kernel
theorem dL_refused_332 : decode cL_refused 332 = .ok (.goto 4, 3) := by decide +kernel
theorem dL_refused_335 : decode cL_refused 335 = .ok (.iconst 0, 1) := by decide +kernel
theorem dL_refused_336 : decode cL_refused 336 = .ok (.istore 7, 2) := by decide +kernel
theorem dL_refused_338 : decode cL_refused 338 = .ok (.iload 7, 2) := by decide +kernel
theorem dL_refused_340 : decode cL_refused 340 = .ok (.ifCond .eq 26, 3) := by decide +kernel
theorem dL_refused_343 : decode cL_refused 343 = .ok (.aload_n 0, 1) := by decide +kernel
theorem dL_refused_344 : decode cL_refused 344 = .ok (.invokestatic 31, 3) := by decide +kernel
theorem dL_refused_347 : decode cL_refused 347 = .ok (.lload_n 1, 1) := by decide +kernel
theorem dL_refused_348 : decode cL_refused 348 = .ok (.lcmp, 1) := by decide +kernel
theorem dL_refused_349 : decode cL_refused 349 = .ok (.ifCond .ne 17, 3) := by decide +kernel
theorem dL_refused_352 : decode cL_refused 352 = .ok (.aload_n 0, 1) := by decide +kernel
theorem dL_refused_353 : decode cL_refused 353 = .ok (.bipush 16, 2) := by decide +kernel
theorem dL_refused_355 : decode cL_refused 355 = .ok (.invokevirtual 17, 3) := by decide +kernel
theorem dL_refused_358 : decode cL_refused 358 = .ok (.iload_n 3, 1) := by decide +kernel
theorem dL_refused_359 : decode cL_refused 359 = .ok (.if_icmp .ne 7, 3) := by decide +kernel
theorem dL_refused_362 : decode cL_refused 362 = .ok (.iconst 1, 1) := by decide +kernel
theorem dL_refused_363 : decode cL_refused 363 = .ok (.goto 4, 3) := by decide +kernel
theorem dL_refused_366 : decode cL_refused 366 = .ok (.iconst 0, 1) := by decide +kernel
theorem dL_refused_367 : decode cL_refused 367 = .ok (.ireturn, 1) := by decide +kernel
theorem dL_money_0 : decode cL_money 0 = .ok (.aload_n 0, 1) := by decide +kernel
theorem dL_money_1 : decode cL_money 1 = .ok (.iconst 2, 1) := by decide +kernel
theorem dL_money_2 : decode cL_money 2 = .ok (.invokevirtual 17, 3) := by decide +kernel
theorem dL_money_5 : decode cL_money 5 = .ok (.aload_n 0, 1) := by decide +kernel
theorem dL_money_6 : decode cL_money 6 = .ok (.bipush 12, 2) := by decide +kernel
theorem dL_money_8 : decode cL_money 8 = .ok (.invokevirtual 17, 3) := by decide +kernel
theorem dL_money_11 : decode cL_money 11 = .ok (.iadd, 1) := by decide +kernel
theorem dL_money_12 : decode cL_money 12 = .ok (.i2l, 1) := by decide +kernel
theorem dL_money_13 : decode cL_money 13 = .ok (.lstore_n 1, 1) := by decide +kernel
theorem dL_money_14 : decode cL_money 14 = .ok (.iconst 0, 1) := by decide +kernel
theorem dL_money_15 : decode cL_money 15 = .ok (.istore_n 3, 1) := by decide +kernel
theorem dL_money_16 : decode cL_money 16 = .ok (.iload_n 3, 1) := by decide +kernel
theorem dL_money_17 : decode cL_money 17 = .ok (.aload_n 0, 1) := by decide +kernel
theorem dL_money_18 : decode cL_money 18 = .ok (.iconst 4, 1) := by decide +kernel
theorem dL_money_19 : decode cL_money 19 = .ok (.invokevirtual 17, 3) := by decide +kernel
theorem dL_money_22 : decode cL_money 22 = .ok (.if_icmp .ge 19, 3) := by decide +kernel
theorem dL_money_25 : decode cL_money 25 = .ok (.lload_n 1, 1) := by decide +kernel
theorem dL_money_26 : decode cL_money 26 = .ok (.aload_n 0, 1) := by decide +kernel
theorem dL_money_27 : decode cL_money 27 = .ok (.iload_n 3, 1) := by decide +kernel
theorem dL_money_28 : decode cL_money 28 = .ok (.iconst 1, 1) := by decide +kernel
theorem dL_money_29 : decode cL_money 29 = .ok (.invokevirtual 25, 3) := by decide +kernel
theorem dL_money_32 : decode cL_money 32 = .ok (.i2l, 1) := by decide +kernel
theorem dL_money_33 : decode cL_money 33 = .ok (.ladd, 1) := by decide +kernel
theorem dL_money_34 : decode cL_money 34 = .ok (.lstore_n 1, 1) := by decide +kernel
theorem dL_money_35 : decode cL_money 35 = .ok (.iinc 3 1, 3) := by decide +kernel
theorem dL_money_38 : decode cL_money 38 = .ok (.goto (-22), 3) := by decide +kernel
theorem dL_money_41 : decode cL_money 41 = .ok (.lload_n 1, 1) := by decide +kernel
theorem dL_money_42 : decode cL_money 42 = .ok (.lreturn, 1) := by decide +kernel
theorem dL_isReport_0 : decode cL_isReport 0 = .ok (.aload_n 0, 1) := by decide +kernel
theorem dL_isReport_1 : decode cL_isReport 1 = .ok (.iload_n 1, 1) := by decide +kernel
theorem dL_isReport_2 : decode cL_isReport 2 = .ok (.iconst 3, 1) := by decide +kernel
theorem dL_isReport_3 : decode cL_isReport 3 = .ok (.invokevirtual 28, 3) := by decide +kernel
theorem dL_isReport_6 : decode cL_isReport 6 = .ok (.istore_n 2, 1) := by decide +kernel
theorem dL_isReport_7 : decode cL_isReport 7 = .ok (.aload_n 0, 1) := by decide +kernel
theorem dL_isReport_8 : decode cL_isReport 8 = .ok (.iload_n 1, 1) := by decide +kernel
theorem dL_isReport_9 : decode cL_isReport 9 = .ok (.iconst 4, 1) := by decide +kernel
theorem dL_isReport_10 : decode cL_isReport 10 = .ok (.invokevirtual 28, 3) := by decide +kernel
theorem dL_isReport_13 : decode cL_isReport 13 = .ok (.istore_n 3, 1) := by decide +kernel
theorem dL_isReport_14 : decode cL_isReport 14 = .ok (.aload_n 0, 1) := by decide +kernel
theorem dL_isReport_15 : decode cL_isReport 15 = .ok (.iload_n 1, 1) := by decide +kernel
theorem dL_isReport_16 : decode cL_isReport 16 = .ok (.iconst 5, 1) := by decide +kernel
theorem dL_isReport_17 : decode cL_isReport 17 = .ok (.invokevirtual 28, 3) := by decide +kernel
theorem dL_isReport_20 : decode cL_isReport 20 = .ok (.istore 4, 2) := by decide +kernel
theorem dL_isReport_22 : decode cL_isReport 22 = .ok (.aload_n 0, 1) := by decide +kernel
theorem dL_isReport_23 : decode cL_isReport 23 = .ok (.iload_n 1, 1) := by decide +kernel
theorem dL_isReport_24 : decode cL_isReport 24 = .ok (.bipush 7, 2) := by decide +kernel
theorem dL_isReport_26 : decode cL_isReport 26 = .ok (.invokevirtual 28, 3) := by decide +kernel
theorem dL_isReport_29 : decode cL_isReport 29 = .ok (.istore 5, 2) := by decide +kernel
theorem dL_isReport_31 : decode cL_isReport 31 = .ok (.iload_n 2, 1) := by decide +kernel
theorem dL_isReport_32 : decode cL_isReport 32 = .ok (.ifCond .le 12, 3) := by decide +kernel
theorem dL_isReport_35 : decode cL_isReport 35 = .ok (.iload_n 2, 1) := by decide +kernel
theorem dL_isReport_36 : decode cL_isReport 36 = .ok (.iconst 4, 1) := by decide +kernel
theorem dL_isReport_37 : decode cL_isReport 37 = .ok (.if_icmp .ge 7, 3) := by decide +kernel
theorem dL_isReport_40 : decode cL_isReport 40 = .ok (.iconst 1, 1) := by decide +kernel
theorem dL_isReport_41 : decode cL_isReport 41 = .ok (.goto 4, 3) := by decide +kernel
theorem dL_isReport_44 : decode cL_isReport 44 = .ok (.iconst 0, 1) := by decide +kernel
theorem dL_isReport_45 : decode cL_isReport 45 = .ok (.istore 6, 2) := by decide +kernel
theorem dL_isReport_47 : decode cL_isReport 47 = .ok (.iload_n 3, 1) := by decide +kernel
theorem dL_isReport_48 : decode cL_isReport 48 = .ok (.sipush (-10009), 3) := by decide +kernel
theorem dL_isReport_51 : decode cL_isReport 51 = .ok (.if_icmp .eq 7, 3) := by decide +kernel
theorem dL_isReport_54 : decode cL_isReport 54 = .ok (.iconst 1, 1) := by decide +kernel
theorem dL_isReport_55 : decode cL_isReport 55 = .ok (.goto 4, 3) := by decide +kernel
theorem dL_isReport_58 : decode cL_isReport 58 = .ok (.iconst 0, 1) := by decide +kernel
theorem dL_isReport_59 : decode cL_isReport 59 = .ok (.iload 6, 2) := by decide +kernel
theorem dL_isReport_61 : decode cL_isReport 61 = .ok (.if_icmp .ne 186, 3) := by decide +kernel
theorem dL_isReport_64 : decode cL_isReport 64 = .ok (.iload 5, 2) := by decide +kernel
theorem dL_isReport_66 : decode cL_isReport 66 = .ok (.sipush (-10009), 3) := by decide +kernel
theorem dL_isReport_69 : decode cL_isReport 69 = .ok (.if_icmp .eq 7, 3) := by decide +kernel
theorem dL_isReport_72 : decode cL_isReport 72 = .ok (.iconst 1, 1) := by decide +kernel
theorem dL_isReport_73 : decode cL_isReport 73 = .ok (.goto 4, 3) := by decide +kernel
theorem dL_isReport_76 : decode cL_isReport 76 = .ok (.iconst 0, 1) := by decide +kernel
theorem dL_isReport_77 : decode cL_isReport 77 = .ok (.iload 6, 2) := by decide +kernel
theorem dL_isReport_79 : decode cL_isReport 79 = .ok (.if_icmp .ne 168, 3) := by decide +kernel
theorem dL_isReport_82 : decode cL_isReport 82 = .ok (.iload 4, 2) := by decide +kernel
theorem dL_isReport_84 : decode cL_isReport 84 = .ok (.sipush (-10009), 3) := by decide +kernel
theorem dL_isReport_87 : decode cL_isReport 87 = .ok (.if_icmp .eq 7, 3) := by decide +kernel
theorem dL_isReport_90 : decode cL_isReport 90 = .ok (.iconst 1, 1) := by decide +kernel
theorem dL_isReport_91 : decode cL_isReport 91 = .ok (.goto 4, 3) := by decide +kernel
theorem dL_isReport_94 : decode cL_isReport 94 = .ok (.iconst 0, 1) := by decide +kernel
theorem dL_isReport_95 : decode cL_isReport 95 = .ok (.iload_n 2, 1) := by decide +kernel
theorem dL_isReport_96 : decode cL_isReport 96 = .ok (.iconst 5, 1) := by decide +kernel
theorem dL_isReport_97 : decode cL_isReport 97 = .ok (.if_icmp .ne 7, 3) := by decide +kernel
theorem dL_isReport_100 : decode cL_isReport 100 = .ok (.iconst 1, 1) := by decide +kernel
theorem dL_isReport_101 : decode cL_isReport 101 = .ok (.goto 4, 3) := by decide +kernel
theorem dL_isReport_104 : decode cL_isReport 104 = .ok (.iconst 0, 1) := by decide +kernel
theorem dL_isReport_105 : decode cL_isReport 105 = .ok (.if_icmp .ne 142, 3) := by decide +kernel
theorem dL_isReport_108 : decode cL_isReport 108 = .ok (.iload 6, 2) := by decide +kernel
theorem dL_isReport_110 : decode cL_isReport 110 = .ok (.ifCond .eq 13, 3) := by decide +kernel
theorem dL_isReport_113 : decode cL_isReport 113 = .ok (.iload_n 3, 1) := by decide +kernel
theorem dL_isReport_114 : decode cL_isReport 114 = .ok (.iconst 1, 1) := by decide +kernel
theorem dL_isReport_115 : decode cL_isReport 115 = .ok (.if_icmp .lt 132, 3) := by decide +kernel
theorem dL_isReport_118 : decode cL_isReport 118 = .ok (.iload_n 3, 1) := by decide +kernel
theorem dL_isReport_119 : decode cL_isReport 119 = .ok (.iconst 4, 1) := by decide +kernel
theorem dL_isReport_120 : decode cL_isReport 120 = .ok (.if_icmp .gt 127, 3) := by decide +kernel
theorem dL_isReport_123 : decode cL_isReport 123 = .ok (.aload_n 0, 1) := by decide +kernel
theorem dL_isReport_124 : decode cL_isReport 124 = .ok (.iload_n 1, 1) := by decide +kernel
theorem dL_isReport_125 : decode cL_isReport 125 = .ok (.bipush 10, 2) := by decide +kernel
theorem dL_isReport_127 : decode cL_isReport 127 = .ok (.invokevirtual 28, 3) := by decide +kernel
theorem dL_isReport_130 : decode cL_isReport 130 = .ok (.iconst 2, 1) := by decide +kernel
theorem dL_isReport_131 : decode cL_isReport 131 = .ok (.if_icmp .gt 116, 3) := by decide +kernel
theorem dL_isReport_134 : decode cL_isReport 134 = .ok (.aload_n 0, 1) := by decide +kernel
theorem dL_isReport_135 : decode cL_isReport 135 = .ok (.iload_n 1, 1) := by decide +kernel
theorem dL_isReport_136 : decode cL_isReport 136 = .ok (.bipush 11, 2) := by decide +kernel
theorem dL_isReport_138 : decode cL_isReport 138 = .ok (.invokevirtual 28, 3) := by decide +kernel
theorem dL_isReport_141 : decode cL_isReport 141 = .ok (.iconst 1, 1) := by decide +kernel
theorem dL_isReport_142 : decode cL_isReport 142 = .ok (.if_icmp .gt 105, 3) := by decide +kernel
theorem dL_isReport_145 : decode cL_isReport 145 = .ok (.aload_n 0, 1) := by decide +kernel
theorem dL_isReport_146 : decode cL_isReport 146 = .ok (.iload_n 1, 1) := by decide +kernel
theorem dL_isReport_147 : decode cL_isReport 147 = .ok (.bipush 12, 2) := by decide +kernel
theorem dL_isReport_149 : decode cL_isReport 149 = .ok (.invokevirtual 28, 3) := by decide +kernel
theorem dL_isReport_152 : decode cL_isReport 152 = .ok (.ifCond .eq 32, 3) := by decide +kernel
theorem dL_isReport_155 : decode cL_isReport 155 = .ok (.iload_n 2, 1) := by decide +kernel
theorem dL_isReport_156 : decode cL_isReport 156 = .ok (.iconst 3, 1) := by decide +kernel
theorem dL_isReport_157 : decode cL_isReport 157 = .ok (.if_icmp .ne 90, 3) := by decide +kernel
theorem dL_isReport_160 : decode cL_isReport 160 = .ok (.aload_n 0, 1) := by decide +kernel
theorem dL_isReport_161 : decode cL_isReport 161 = .ok (.iload_n 1, 1) := by decide +kernel
theorem dL_isReport_162 : decode cL_isReport 162 = .ok (.bipush 10, 2) := by decide +kernel
theorem dL_isReport_164 : decode cL_isReport 164 = .ok (.invokevirtual 28, 3) := by decide +kernel
theorem dL_isReport_167 : decode cL_isReport 167 = .ok (.iconst 2, 1) := by decide +kernel
theorem dL_isReport_168 : decode cL_isReport 168 = .ok (.if_icmp .ne 79, 3) := by decide +kernel
theorem dL_isReport_171 : decode cL_isReport 171 = .ok (.aload_n 0, 1) := by decide +kernel
theorem dL_isReport_172 : decode cL_isReport 172 = .ok (.iconst 0, 1) := by decide +kernel
theorem dL_isReport_173 : decode cL_isReport 173 = .ok (.iload_n 1, 1) := by decide +kernel
theorem dL_isReport_174 : decode cL_isReport 174 = .ok (.iconst 1, 1) := by decide +kernel
theorem dL_isReport_175 : decode cL_isReport 175 = .ok (.invokevirtual 71, 3) := by decide +kernel
theorem dL_isReport_178 : decode cL_isReport 178 = .ok (.sipush (-10002), 3) := by decide +kernel
theorem dL_isReport_181 : decode cL_isReport 181 = .ok (.if_icmp .ne 66, 3) := by decide +kernel
theorem dL_isReport_184 : decode cL_isReport 184 = .ok (.iload_n 2, 1) := by decide +kernel
theorem dL_isReport_185 : decode cL_isReport 185 = .ok (.iconst 3, 1) := by decide +kernel
theorem dL_isReport_186 : decode cL_isReport 186 = .ok (.if_icmp .eq 21, 3) := by decide +kernel
theorem dL_isReport_189 : decode cL_isReport 189 = .ok (.aload_n 0, 1) := by decide +kernel
theorem dL_isReport_190 : decode cL_isReport 190 = .ok (.iload_n 1, 1) := by decide +kernel
theorem dL_isReport_191 : decode cL_isReport 191 = .ok (.bipush 10, 2) := by decide +kernel
theorem dL_isReport_193 : decode cL_isReport 193 = .ok (.invokevirtual 28, 3) := by decide +kernel
theorem dL_isReport_196 : decode cL_isReport 196 = .ok (.aload_n 0, 1) := by decide +kernel
theorem dL_isReport_197 : decode cL_isReport 197 = .ok (.iload_n 1, 1) := by decide +kernel
theorem dL_isReport_198 : decode cL_isReport 198 = .ok (.bipush 11, 2) := by decide +kernel
theorem dL_isReport_200 : decode cL_isReport 200 = .ok (.invokevirtual 28, 3) := by decide +kernel
theorem dL_isReport_203 : decode cL_isReport 203 = .ok (.iadd, 1) := by decide +kernel
theorem dL_isReport_204 : decode cL_isReport 204 = .ok (.ifCond .ne 43, 3) := by decide +kernel
theorem dL_isReport_207 : decode cL_isReport 207 = .ok (.aload_n 0, 1) := by decide +kernel
theorem dL_isReport_208 : decode cL_isReport 208 = .ok (.iload_n 1, 1) := by decide +kernel
theorem dL_isReport_209 : decode cL_isReport 209 = .ok (.bipush 8, 2) := by decide +kernel
theorem dL_isReport_211 : decode cL_isReport 211 = .ok (.invokevirtual 28, 3) := by decide +kernel
theorem dL_isReport_214 : decode cL_isReport 214 = .ok (.iconst 1, 1) := by decide +kernel
theorem dL_isReport_215 : decode cL_isReport 215 = .ok (.if_icmp .ne 13, 3) := by decide +kernel
theorem dL_isReport_218 : decode cL_isReport 218 = .ok (.iload_n 2, 1) := by decide +kernel
theorem dL_isReport_219 : decode cL_isReport 219 = .ok (.iconst 1, 1) := by decide +kernel
theorem dL_isReport_220 : decode cL_isReport 220 = .ok (.if_icmp .eq 8, 3) := by decide +kernel
theorem dL_isReport_223 : decode cL_isReport 223 = .ok (.iload_n 2, 1) := by decide +kernel
theorem dL_isReport_224 : decode cL_isReport 224 = .ok (.iconst 2, 1) := by decide +kernel
theorem dL_isReport_225 : decode cL_isReport 225 = .ok (.if_icmp .ne 22, 3) := by decide +kernel
theorem dL_isReport_228 : decode cL_isReport 228 = .ok (.iload_n 2, 1) := by decide +kernel
theorem dL_isReport_229 : decode cL_isReport 229 = .ok (.iconst 3, 1) := by decide +kernel
theorem dL_isReport_230 : decode cL_isReport 230 = .ok (.if_icmp .ne 13, 3) := by decide +kernel
theorem dL_isReport_233 : decode cL_isReport 233 = .ok (.aload_n 0, 1) := by decide +kernel
theorem dL_isReport_234 : decode cL_isReport 234 = .ok (.iload_n 1, 1) := by decide +kernel
theorem dL_isReport_235 : decode cL_isReport 235 = .ok (.bipush 9, 2) := by decide +kernel
theorem dL_isReport_237 : decode cL_isReport 237 = .ok (.invokevirtual 28, 3) := by decide +kernel
theorem dL_isReport_240 : decode cL_isReport 240 = .ok (.ifCond .le 7, 3) := by decide +kernel
theorem dL_isReport_243 : decode cL_isReport 243 = .ok (.iconst 1, 1) := by decide +kernel
theorem dL_isReport_244 : decode cL_isReport 244 = .ok (.goto 4, 3) := by decide +kernel
theorem dL_isReport_247 : decode cL_isReport 247 = .ok (.iconst 0, 1) := by decide +kernel
theorem dL_isReport_248 : decode cL_isReport 248 = .ok (.istore 7, 2) := by decide +kernel
theorem dL_isReport_250 : decode cL_isReport 250 = .ok (.iload 7, 2) := by decide +kernel
theorem dL_isReport_252 : decode cL_isReport 252 = .ok (.ifCond .eq 55, 3) := by decide +kernel
theorem dL_isReport_255 : decode cL_isReport 255 = .ok (.iload 6, 2) := by decide +kernel
theorem dL_isReport_257 : decode cL_isReport 257 = .ok (.ifCond .eq 50, 3) := by decide +kernel
theorem dL_isReport_260 : decode cL_isReport 260 = .ok (.bipush 10, 2) := by decide +kernel
theorem dL_isReport_262 : decode cL_isReport 262 = .ok (.iload_n 3, 1) := by decide +kernel
theorem dL_isReport_263 : decode cL_isReport 263 = .ok (.imul, 1) := by decide +kernel
theorem dL_isReport_264 : decode cL_isReport 264 = .ok (.iload_n 3, 1) := by decide +kernel
theorem dL_isReport_265 : decode cL_isReport 265 = .ok (.imul, 1) := by decide +kernel
theorem dL_isReport_266 : decode cL_isReport 266 = .ok (.aload_n 0, 1) := by decide +kernel
theorem dL_isReport_267 : decode cL_isReport 267 = .ok (.aload_n 0, 1) := by decide +kernel
theorem dL_isReport_268 : decode cL_isReport 268 = .ok (.iload_n 1, 1) := by decide +kernel
theorem dL_isReport_269 : decode cL_isReport 269 = .ok (.iconst 1, 1) := by decide +kernel
theorem dL_isReport_270 : decode cL_isReport 270 = .ok (.invokevirtual 28, 3) := by decide +kernel
theorem dL_isReport_273 : decode cL_isReport 273 = .ok (.iconst 0, 1) := by decide +kernel
theorem dL_isReport_274 : decode cL_isReport 274 = .ok (.invokevirtual 21, 3) := by decide +kernel
theorem dL_isReport_277 : decode cL_isReport 277 = .ok (.imul, 1) := by decide +kernel
theorem dL_isReport_278 : decode cL_isReport 278 = .ok (.istore 8, 2) := by decide +kernel
theorem dL_isReport_280 : decode cL_isReport 280 = .ok (.iconst 2, 1) := by decide +kernel
theorem dL_isReport_281 : decode cL_isReport 281 = .ok (.iload 5, 2) := by decide +kernel
theorem dL_isReport_283 : decode cL_isReport 283 = .ok (.imul, 1) := by decide +kernel
theorem dL_isReport_284 : decode cL_isReport 284 = .ok (.iload 8, 2) := by decide +kernel
theorem dL_isReport_286 : decode cL_isReport 286 = .ok (.iconst 2, 1) := by decide +kernel
theorem dL_isReport_287 : decode cL_isReport 287 = .ok (.isub, 1) := by decide +kernel
theorem dL_isReport_288 : decode cL_isReport 288 = .ok (.if_icmp .lt 16, 3) := by decide +kernel
theorem dL_isReport_291 : decode cL_isReport 291 = .ok (.iload 5, 2) := by decide +kernel
theorem dL_isReport_293 : decode cL_isReport 293 = .ok (.iconst 2, 1) := by decide +kernel
theorem dL_isReport_294 : decode cL_isReport 294 = .ok (.iload 8, 2) := by decide +kernel
theorem dL_isReport_296 : decode cL_isReport 296 = .ok (.imul, 1) := by decide +kernel
theorem dL_isReport_297 : decode cL_isReport 297 = .ok (.if_icmp .gt 7, 3) := by decide +kernel
theorem dL_isReport_300 : decode cL_isReport 300 = .ok (.iconst 1, 1) := by decide +kernel
theorem dL_isReport_301 : decode cL_isReport 301 = .ok (.goto 4, 3) := by decide +kernel
theorem dL_isReport_304 : decode cL_isReport 304 = .ok (.iconst 0, 1) := by decide +kernel
theorem dL_isReport_305 : decode cL_isReport 305 = .ok (.istore 7, 2) := by decide +kernel
theorem dL_isReport_307 : decode cL_isReport 307 = .ok (.iload 7, 2) := by decide +kernel
theorem dL_isReport_309 : decode cL_isReport 309 = .ok (.ifCond .eq 101, 3) := by decide +kernel
theorem dL_isReport_312 : decode cL_isReport 312 = .ok (.iload_n 2, 1) := by decide +kernel
theorem dL_isReport_313 : decode cL_isReport 313 = .ok (.iconst 5, 1) := by decide +kernel
theorem dL_isReport_314 : decode cL_isReport 314 = .ok (.if_icmp .ne 96, 3) := by decide +kernel
theorem dL_isReport_317 : decode cL_isReport 317 = .ok (.iload 4, 2) := by decide +kernel
theorem dL_isReport_319 : decode cL_isReport 319 = .ok (.ifCond .lt 88, 3) := by decide +kernel
theorem dL_isReport_322 : decode cL_isReport 322 = .ok (.iload 4, 2) := by decide +kernel
theorem dL_isReport_324 : decode cL_isReport 324 = .ok (.iload_n 1, 1) := by decide +kernel
theorem dL_isReport_325 : decode cL_isReport 325 = .ok (.if_icmp .ge 82, 3) := by decide +kernel
theorem dL_isReport_328 : decode cL_isReport 328 = .ok (.aload_n 0, 1) := by decide +kernel
theorem dL_isReport_329 : decode cL_isReport 329 = .ok (.iload 4, 2) := by decide +kernel
theorem dL_isReport_331 : decode cL_isReport 331 = .ok (.iconst 3, 1) := by decide +kernel
theorem dL_isReport_332 : decode cL_isReport 332 = .ok (.invokevirtual 28, 3) := by decide +kernel
theorem dL_isReport_335 : decode cL_isReport 335 = .ok (.iconst 4, 1) := by decide +kernel
theorem dL_isReport_336 : decode cL_isReport 336 = .ok (.if_icmp .ge 71, 3) := by decide +kernel
theorem dL_isReport_339 : decode cL_isReport 339 = .ok (.aload_n 0, 1) := by decide +kernel
theorem dL_isReport_340 : decode cL_isReport 340 = .ok (.iload 4, 2) := by decide +kernel
theorem dL_isReport_342 : decode cL_isReport 342 = .ok (.iconst 1, 1) := by decide +kernel
theorem dL_isReport_343 : decode cL_isReport 343 = .ok (.invokevirtual 28, 3) := by decide +kernel
theorem dL_isReport_346 : decode cL_isReport 346 = .ok (.aload_n 0, 1) := by decide +kernel
theorem dL_isReport_347 : decode cL_isReport 347 = .ok (.iload_n 1, 1) := by decide +kernel
theorem dL_isReport_348 : decode cL_isReport 348 = .ok (.iconst 1, 1) := by decide +kernel
theorem dL_isReport_349 : decode cL_isReport 349 = .ok (.invokevirtual 28, 3) := by decide +kernel
theorem dL_isReport_352 : decode cL_isReport 352 = .ok (.if_icmp .ne 55, 3) := by decide +kernel
theorem dL_isReport_355 : decode cL_isReport 355 = .ok (.aload_n 0, 1) := by decide +kernel
theorem dL_isReport_356 : decode cL_isReport 356 = .ok (.iload 4, 2) := by decide +kernel
theorem dL_isReport_358 : decode cL_isReport 358 = .ok (.iconst 2, 1) := by decide +kernel
theorem dL_isReport_359 : decode cL_isReport 359 = .ok (.invokevirtual 28, 3) := by decide +kernel
theorem dL_isReport_362 : decode cL_isReport 362 = .ok (.aload_n 0, 1) := by decide +kernel
theorem dL_isReport_363 : decode cL_isReport 363 = .ok (.iload_n 1, 1) := by decide +kernel
theorem dL_isReport_364 : decode cL_isReport 364 = .ok (.iconst 2, 1) := by decide +kernel
theorem dL_isReport_365 : decode cL_isReport 365 = .ok (.invokevirtual 28, 3) := by decide +kernel
theorem dL_isReport_368 : decode cL_isReport 368 = .ok (.if_icmp .ne 39, 3) := by decide +kernel
theorem dL_isReport_371 : decode cL_isReport 371 = .ok (.aload_n 0, 1) := by decide +kernel
theorem dL_isReport_372 : decode cL_isReport 372 = .ok (.iload 4, 2) := by decide +kernel
theorem dL_isReport_374 : decode cL_isReport 374 = .ok (.bipush 6, 2) := by decide +kernel
theorem dL_isReport_376 : decode cL_isReport 376 = .ok (.invokevirtual 28, 3) := by decide +kernel
theorem dL_isReport_379 : decode cL_isReport 379 = .ok (.ifCond .le 28, 3) := by decide +kernel
theorem dL_isReport_382 : decode cL_isReport 382 = .ok (.aload_n 0, 1) := by decide +kernel
theorem dL_isReport_383 : decode cL_isReport 383 = .ok (.iload_n 1, 1) := by decide +kernel
theorem dL_isReport_384 : decode cL_isReport 384 = .ok (.invokevirtual 77, 3) := by decide +kernel
theorem dL_isReport_387 : decode cL_isReport 387 = .ok (.sipush (-10009), 3) := by decide +kernel
theorem dL_isReport_390 : decode cL_isReport 390 = .ok (.if_icmp .ne 17, 3) := by decide +kernel
theorem dL_isReport_393 : decode cL_isReport 393 = .ok (.aload_n 0, 1) := by decide +kernel
theorem dL_isReport_394 : decode cL_isReport 394 = .ok (.iload_n 1, 1) := by decide +kernel
theorem dL_isReport_395 : decode cL_isReport 395 = .ok (.bipush 6, 2) := by decide +kernel
theorem dL_isReport_397 : decode cL_isReport 397 = .ok (.invokevirtual 28, 3) := by decide +kernel
theorem dL_isReport_400 : decode cL_isReport 400 = .ok (.ifCond .ne 7, 3) := by decide +kernel
theorem dL_isReport_403 : decode cL_isReport 403 = .ok (.iconst 1, 1) := by decide +kernel
theorem dL_isReport_404 : decode cL_isReport 404 = .ok (.goto 4, 3) := by decide +kernel
theorem dL_isReport_407 : decode cL_isReport 407 = .ok (.iconst 0, 1) := by decide +kernel
theorem dL_isReport_408 : decode cL_isReport 408 = .ok (.istore 7, 2) := by decide +kernel
theorem dL_isReport_410 : decode cL_isReport 410 = .ok (.aload_n 0, 1) := by decide +kernel
theorem dL_isReport_411 : decode cL_isReport 411 = .ok (.iload_n 1, 1) := by decide +kernel
theorem dL_isReport_412 : decode cL_isReport 412 = .ok (.invokevirtual 77, 3) := by decide +kernel
theorem dL_isReport_415 : decode cL_isReport 415 = .ok (.istore 8, 2) := by decide +kernel
theorem dL_isReport_417 : decode cL_isReport 417 = .ok (.iload 7, 2) := by decide +kernel
theorem dL_isReport_419 : decode cL_isReport 419 = .ok (.ifCond .eq 57, 3) := by decide +kernel
theorem dL_isReport_422 : decode cL_isReport 422 = .ok (.iload 8, 2) := by decide +kernel
theorem dL_isReport_424 : decode cL_isReport 424 = .ok (.sipush (-10009), 3) := by decide +kernel
theorem dL_isReport_427 : decode cL_isReport 427 = .ok (.if_icmp .eq 45, 3) := by decide +kernel
theorem dL_isReport_430 : decode cL_isReport 430 = .ok (.iload_n 2, 1) := by decide +kernel
theorem dL_isReport_431 : decode cL_isReport 431 = .ok (.ifCond .ne 45, 3) := by decide +kernel
theorem dL_isReport_434 : decode cL_isReport 434 = .ok (.iload 8, 2) := by decide +kernel
theorem dL_isReport_436 : decode cL_isReport 436 = .ok (.ifCond .lt 40, 3) := by decide +kernel
theorem dL_isReport_439 : decode cL_isReport 439 = .ok (.iload 8, 2) := by decide +kernel
theorem dL_isReport_441 : decode cL_isReport 441 = .ok (.iload_n 1, 1) := by decide +kernel
theorem dL_isReport_442 : decode cL_isReport 442 = .ok (.if_icmp .ge 34, 3) := by decide +kernel
theorem dL_isReport_445 : decode cL_isReport 445 = .ok (.aload_n 0, 1) := by decide +kernel
theorem dL_isReport_446 : decode cL_isReport 446 = .ok (.iload 8, 2) := by decide +kernel
theorem dL_isReport_448 : decode cL_isReport 448 = .ok (.iconst 3, 1) := by decide +kernel
theorem dL_isReport_449 : decode cL_isReport 449 = .ok (.invokevirtual 28, 3) := by decide +kernel
theorem dL_isReport_452 : decode cL_isReport 452 = .ok (.iconst 4, 1) := by decide +kernel
theorem dL_isReport_453 : decode cL_isReport 453 = .ok (.if_icmp .ge 23, 3) := by decide +kernel
theorem dL_isReport_456 : decode cL_isReport 456 = .ok (.aload_n 0, 1) := by decide +kernel
theorem dL_isReport_457 : decode cL_isReport 457 = .ok (.iload 8, 2) := by decide +kernel
theorem dL_isReport_459 : decode cL_isReport 459 = .ok (.iconst 2, 1) := by decide +kernel
theorem dL_isReport_460 : decode cL_isReport 460 = .ok (.invokevirtual 28, 3) := by decide +kernel
theorem dL_isReport_463 : decode cL_isReport 463 = .ok (.aload_n 0, 1) := by decide +kernel
theorem dL_isReport_464 : decode cL_isReport 464 = .ok (.iload_n 1, 1) := by decide +kernel
theorem dL_isReport_465 : decode cL_isReport 465 = .ok (.iconst 2, 1) := by decide +kernel
theorem dL_isReport_466 : decode cL_isReport 466 = .ok (.invokevirtual 28, 3) := by decide +kernel
theorem dL_isReport_469 : decode cL_isReport 469 = .ok (.if_icmp .ne 7, 3) := by decide +kernel
theorem dL_isReport_472 : decode cL_isReport 472 = .ok (.iconst 1, 1) := by decide +kernel
theorem dL_isReport_473 : decode cL_isReport 473 = .ok (.goto 4, 3) := by decide +kernel
theorem dL_isReport_476 : decode cL_isReport 476 = .ok (.iconst 0, 1) := by decide +kernel
theorem dL_isReport_477 : decode cL_isReport 477 = .ok (.ireturn, 1) := by decide +kernel
theorem dL_fits_0 : decode cL_fits 0 = .ok (.aload_n 0, 1) := by decide +kernel
theorem dL_fits_1 : decode cL_fits 1 = .ok (.iconst 5, 1) := by decide +kernel
theorem dL_fits_2 : decode cL_fits 2 = .ok (.invokevirtual 17, 3) := by decide +kernel
theorem dL_fits_5 : decode cL_fits 5 = .ok (.istore_n 1, 1) := by decide +kernel
theorem dL_fits_6 : decode cL_fits 6 = .ok (.aload_n 0, 1) := by decide +kernel
theorem dL_fits_7 : decode cL_fits 7 = .ok (.iconst 4, 1) := by decide +kernel
theorem dL_fits_8 : decode cL_fits 8 = .ok (.invokevirtual 17, 3) := by decide +kernel
theorem dL_fits_11 : decode cL_fits 11 = .ok (.istore_n 2, 1) := by decide +kernel
theorem dL_fits_12 : decode cL_fits 12 = .ok (.bipush 6, 2) := by decide +kernel
theorem dL_fits_14 : decode cL_fits 14 = .ok (.newarray .int, 2) := by decide +kernel
theorem dL_fits_16 : decode cL_fits 16 = .ok (.astore_n 3, 1) := by decide +kernel
theorem dL_fits_17 : decode cL_fits 17 = .ok (.bipush 8, 2) := by decide +kernel
theorem dL_fits_19 : decode cL_fits 19 = .ok (.newarray .int, 2) := by decide +kernel
theorem dL_fits_21 : decode cL_fits 21 = .ok (.astore 4, 2) := by decide +kernel
theorem dL_fits_23 : decode cL_fits 23 = .ok (.bipush 8, 2) := by decide +kernel
theorem dL_fits_25 : decode cL_fits 25 = .ok (.newarray .int, 2) := by decide +kernel
theorem dL_fits_27 : decode cL_fits 27 = .ok (.astore 5, 2) := by decide +kernel
theorem dL_fits_29 : decode cL_fits 29 = .ok (.iconst 0, 1) := by decide +kernel
theorem dL_fits_30 : decode cL_fits 30 = .ok (.istore 6, 2) := by decide +kernel
theorem dL_fits_32 : decode cL_fits 32 = .ok (.iconst 0, 1) := by decide +kernel
theorem dL_fits_33 : decode cL_fits 33 = .ok (.istore 7, 2) := by decide +kernel
theorem dL_fits_35 : decode cL_fits 35 = .ok (.iconst 1, 1) := by decide +kernel
theorem dL_fits_36 : decode cL_fits 36 = .ok (.istore 8, 2) := by decide +kernel
theorem dL_fits_38 : decode cL_fits 38 = .ok (.iconst 0, 1) := by decide +kernel
theorem dL_fits_39 : decode cL_fits 39 = .ok (.istore 9, 2) := by decide +kernel
theorem dL_fits_41 : decode cL_fits 41 = .ok (.iload 9, 2) := by decide +kernel
theorem dL_fits_43 : decode cL_fits 43 = .ok (.iload_n 1, 1) := by decide +kernel
theorem dL_fits_44 : decode cL_fits 44 = .ok (.if_icmp .ge 132, 3) := by decide +kernel
theorem dL_fits_47 : decode cL_fits 47 = .ok (.iload 8, 2) := by decide +kernel
theorem dL_fits_49 : decode cL_fits 49 = .ok (.ifCond .eq 127, 3) := by decide +kernel
theorem dL_fits_52 : decode cL_fits 52 = .ok (.aload_n 0, 1) := by decide +kernel
theorem dL_fits_53 : decode cL_fits 53 = .ok (.iload 9, 2) := by decide +kernel
theorem dL_fits_55 : decode cL_fits 55 = .ok (.invokestatic 86, 3) := by decide +kernel
theorem dL_fits_58 : decode cL_fits 58 = .ok (.istore 8, 2) := by decide +kernel
theorem dL_fits_60 : decode cL_fits 60 = .ok (.aload_n 0, 1) := by decide +kernel
theorem dL_fits_61 : decode cL_fits 61 = .ok (.iload 9, 2) := by decide +kernel
theorem dL_fits_63 : decode cL_fits 63 = .ok (.iconst 3, 1) := by decide +kernel
theorem dL_fits_64 : decode cL_fits 64 = .ok (.invokevirtual 28, 3) := by decide +kernel
theorem dL_fits_67 : decode cL_fits 67 = .ok (.istore 10, 2) := by decide +kernel
theorem dL_fits_69 : decode cL_fits 69 = .ok (.aload_n 0, 1) := by decide +kernel
theorem dL_fits_70 : decode cL_fits 70 = .ok (.iload 9, 2) := by decide +kernel
theorem dL_fits_72 : decode cL_fits 72 = .ok (.iconst 0, 1) := by decide +kernel
theorem dL_fits_73 : decode cL_fits 73 = .ok (.invokevirtual 28, 3) := by decide +kernel
theorem dL_fits_76 : decode cL_fits 76 = .ok (.istore 11, 2) := by decide +kernel
theorem dL_fits_78 : decode cL_fits 78 = .ok (.aload_n 3, 1) := by decide +kernel
theorem dL_fits_79 : decode cL_fits 79 = .ok (.iload 10, 2) := by decide +kernel
theorem dL_fits_81 : decode cL_fits 81 = .ok (.dup2, 1) := by decide +kernel
theorem dL_fits_82 : decode cL_fits 82 = .ok (.iaload, 1) := by decide +kernel
theorem dL_fits_83 : decode cL_fits 83 = .ok (.iconst 1, 1) := by decide +kernel
theorem dL_fits_84 : decode cL_fits 84 = .ok (.iadd, 1) := by decide +kernel
theorem dL_fits_85 : decode cL_fits 85 = .ok (.iastore, 1) := by decide +kernel
theorem dL_fits_86 : decode cL_fits 86 = .ok (.aload 5, 2) := by decide +kernel
theorem dL_fits_88 : decode cL_fits 88 = .ok (.iload 11, 2) := by decide +kernel
theorem dL_fits_90 : decode cL_fits 90 = .ok (.dup2, 1) := by decide +kernel
theorem dL_fits_91 : decode cL_fits 91 = .ok (.iaload, 1) := by decide +kernel
theorem dL_fits_92 : decode cL_fits 92 = .ok (.iconst 1, 1) := by decide +kernel
theorem dL_fits_93 : decode cL_fits 93 = .ok (.iadd, 1) := by decide +kernel
theorem dL_fits_94 : decode cL_fits 94 = .ok (.iastore, 1) := by decide +kernel
theorem dL_fits_95 : decode cL_fits 95 = .ok (.aload 4, 2) := by decide +kernel
theorem dL_fits_97 : decode cL_fits 97 = .ok (.iload 11, 2) := by decide +kernel
theorem dL_fits_99 : decode cL_fits 99 = .ok (.dup2, 1) := by decide +kernel
theorem dL_fits_100 : decode cL_fits 100 = .ok (.iaload, 1) := by decide +kernel
theorem dL_fits_101 : decode cL_fits 101 = .ok (.iload 10, 2) := by decide +kernel
theorem dL_fits_103 : decode cL_fits 103 = .ok (.iconst 3, 1) := by decide +kernel
theorem dL_fits_104 : decode cL_fits 104 = .ok (.if_icmp .ne 7, 3) := by decide +kernel
theorem dL_fits_107 : decode cL_fits 107 = .ok (.iconst 3, 1) := by decide +kernel
theorem dL_fits_108 : decode cL_fits 108 = .ok (.goto 25, 3) := by decide +kernel
theorem dL_fits_111 : decode cL_fits 111 = .ok (.iload 10, 2) := by decide +kernel
theorem dL_fits_113 : decode cL_fits 113 = .ok (.iconst 5, 1) := by decide +kernel
theorem dL_fits_114 : decode cL_fits 114 = .ok (.if_icmp .ne 7, 3) := by decide +kernel
theorem dL_fits_117 : decode cL_fits 117 = .ok (.iconst 1, 1) := by decide +kernel
theorem dL_fits_118 : decode cL_fits 118 = .ok (.goto 15, 3) := by decide +kernel
theorem dL_fits_121 : decode cL_fits 121 = .ok (.iload 10, 2) := by decide +kernel
theorem dL_fits_123 : decode cL_fits 123 = .ok (.iconst 4, 1) := by decide +kernel
theorem dL_fits_124 : decode cL_fits 124 = .ok (.if_icmp .ne 8, 3) := by decide +kernel
theorem dL_fits_127 : decode cL_fits 127 = .ok (.bipush (-2), 2) := by decide +kernel
theorem dL_fits_129 : decode cL_fits 129 = .ok (.goto 4, 3) := by decide +kernel
theorem dL_fits_132 : decode cL_fits 132 = .ok (.iconst 0, 1) := by decide +kernel
theorem dL_fits_133 : decode cL_fits 133 = .ok (.iadd, 1) := by decide +kernel
theorem dL_fits_134 : decode cL_fits 134 = .ok (.iastore, 1) := by decide +kernel
theorem dL_fits_135 : decode cL_fits 135 = .ok (.iload 6, 2) := by decide +kernel
theorem dL_fits_137 : decode cL_fits 137 = .ok (.aload_n 0, 1) := by decide +kernel
theorem dL_fits_138 : decode cL_fits 138 = .ok (.iload 9, 2) := by decide +kernel
theorem dL_fits_140 : decode cL_fits 140 = .ok (.bipush 6, 2) := by decide +kernel
theorem dL_fits_142 : decode cL_fits 142 = .ok (.invokevirtual 28, 3) := by decide +kernel
theorem dL_fits_145 : decode cL_fits 145 = .ok (.iadd, 1) := by decide +kernel
theorem dL_fits_146 : decode cL_fits 146 = .ok (.istore 6, 2) := by decide +kernel
theorem dL_fits_148 : decode cL_fits 148 = .ok (.iload 7, 2) := by decide +kernel
theorem dL_fits_150 : decode cL_fits 150 = .ok (.aload_n 0, 1) := by decide +kernel
theorem dL_fits_151 : decode cL_fits 151 = .ok (.iload 9, 2) := by decide +kernel
theorem dL_fits_153 : decode cL_fits 153 = .ok (.bipush 8, 2) := by decide +kernel
theorem dL_fits_155 : decode cL_fits 155 = .ok (.invokevirtual 28, 3) := by decide +kernel
theorem dL_fits_158 : decode cL_fits 158 = .ok (.iconst 1, 1) := by decide +kernel
theorem dL_fits_159 : decode cL_fits 159 = .ok (.if_icmp .ne 7, 3) := by decide +kernel
theorem dL_fits_162 : decode cL_fits 162 = .ok (.iconst 1, 1) := by decide +kernel
theorem dL_fits_163 : decode cL_fits 163 = .ok (.goto 4, 3) := by decide +kernel
theorem dL_fits_166 : decode cL_fits 166 = .ok (.iconst 0, 1) := by decide +kernel
theorem dL_fits_167 : decode cL_fits 167 = .ok (.iadd, 1) := by decide +kernel
theorem dL_fits_168 : decode cL_fits 168 = .ok (.istore 7, 2) := by decide +kernel
theorem dL_fits_170 : decode cL_fits 170 = .ok (.iinc 9 1, 3) := by decide +kernel
theorem dL_fits_173 : decode cL_fits 173 = .ok (.goto (-132), 3) := by decide +kernel
theorem dL_fits_176 : decode cL_fits 176 = .ok (.iconst 0, 1) := by decide +kernel
theorem dL_fits_177 : decode cL_fits 177 = .ok (.istore 9, 2) := by decide +kernel
theorem dL_fits_179 : decode cL_fits 179 = .ok (.iload 9, 2) := by decide +kernel
theorem dL_fits_181 : decode cL_fits 181 = .ok (.bipush 6, 2) := by decide +kernel
theorem dL_fits_183 : decode cL_fits 183 = .ok (.if_icmp .ge 37, 3) := by decide +kernel
theorem dL_fits_186 : decode cL_fits 186 = .ok (.iload 8, 2) := by decide +kernel
theorem dL_fits_188 : decode cL_fits 188 = .ok (.ifCond .eq 32, 3) := by decide +kernel
theorem dL_fits_191 : decode cL_fits 191 = .ok (.aload_n 0, 1) := by decide +kernel
theorem dL_fits_192 : decode cL_fits 192 = .ok (.bipush 6, 2) := by decide +kernel
theorem dL_fits_194 : decode cL_fits 194 = .ok (.iload 9, 2) := by decide +kernel
theorem dL_fits_196 : decode cL_fits 196 = .ok (.iadd, 1) := by decide +kernel
theorem dL_fits_197 : decode cL_fits 197 = .ok (.invokevirtual 17, 3) := by decide +kernel
theorem dL_fits_200 : decode cL_fits 200 = .ok (.aload_n 3, 1) := by decide +kernel
theorem dL_fits_201 : decode cL_fits 201 = .ok (.iload 9, 2) := by decide +kernel
theorem dL_fits_203 : decode cL_fits 203 = .ok (.iaload, 1) := by decide +kernel
theorem dL_fits_204 : decode cL_fits 204 = .ok (.if_icmp .ne 7, 3) := by decide +kernel
theorem dL_fits_207 : decode cL_fits 207 = .ok (.iconst 1, 1) := by decide +kernel
theorem dL_fits_208 : decode cL_fits 208 = .ok (.goto 4, 3) := by decide +kernel
theorem dL_fits_211 : decode cL_fits 211 = .ok (.iconst 0, 1) := by decide +kernel
theorem dL_fits_212 : decode cL_fits 212 = .ok (.istore 8, 2) := by decide +kernel
theorem dL_fits_214 : decode cL_fits 214 = .ok (.iinc 9 1, 3) := by decide +kernel
theorem dL_fits_217 : decode cL_fits 217 = .ok (.goto (-38), 3) := by decide +kernel
theorem dL_fits_220 : decode cL_fits 220 = .ok (.lconst 0, 1) := by decide +kernel
theorem dL_fits_221 : decode cL_fits 221 = .ok (.lstore 9, 2) := by decide +kernel
theorem dL_fits_223 : decode cL_fits 223 = .ok (.iconst 0, 1) := by decide +kernel
theorem dL_fits_224 : decode cL_fits 224 = .ok (.istore 11, 2) := by decide +kernel
theorem dL_fits_226 : decode cL_fits 226 = .ok (.iload 11, 2) := by decide +kernel
theorem dL_fits_228 : decode cL_fits 228 = .ok (.iload_n 2, 1) := by decide +kernel
theorem dL_fits_229 : decode cL_fits 229 = .ok (.if_icmp .ge 229, 3) := by decide +kernel
theorem dL_fits_232 : decode cL_fits 232 = .ok (.iload 8, 2) := by decide +kernel
theorem dL_fits_234 : decode cL_fits 234 = .ok (.ifCond .eq 224, 3) := by decide +kernel
theorem dL_fits_237 : decode cL_fits 237 = .ok (.lload 9, 2) := by decide +kernel
theorem dL_fits_239 : decode cL_fits 239 = .ok (.aload_n 0, 1) := by decide +kernel
theorem dL_fits_240 : decode cL_fits 240 = .ok (.iload 11, 2) := by decide +kernel
theorem dL_fits_242 : decode cL_fits 242 = .ok (.iconst 1, 1) := by decide +kernel
theorem dL_fits_243 : decode cL_fits 243 = .ok (.invokevirtual 25, 3) := by decide +kernel
theorem dL_fits_246 : decode cL_fits 246 = .ok (.i2l, 1) := by decide +kernel
theorem dL_fits_247 : decode cL_fits 247 = .ok (.ladd, 1) := by decide +kernel
theorem dL_fits_248 : decode cL_fits 248 = .ok (.lstore 9, 2) := by decide +kernel
theorem dL_fits_250 : decode cL_fits 250 = .ok (.aload_n 0, 1) := by decide +kernel
theorem dL_fits_251 : decode cL_fits 251 = .ok (.iload 11, 2) := by decide +kernel
theorem dL_fits_253 : decode cL_fits 253 = .ok (.iconst 0, 1) := by decide +kernel
theorem dL_fits_254 : decode cL_fits 254 = .ok (.invokevirtual 25, 3) := by decide +kernel
theorem dL_fits_257 : decode cL_fits 257 = .ok (.aload 5, 2) := by decide +kernel
theorem dL_fits_259 : decode cL_fits 259 = .ok (.iload 11, 2) := by decide +kernel
theorem dL_fits_261 : decode cL_fits 261 = .ok (.iaload, 1) := by decide +kernel
theorem dL_fits_262 : decode cL_fits 262 = .ok (.if_icmp .ne 48, 3) := by decide +kernel
theorem dL_fits_265 : decode cL_fits 265 = .ok (.aload_n 0, 1) := by decide +kernel
theorem dL_fits_266 : decode cL_fits 266 = .ok (.iload 11, 2) := by decide +kernel
theorem dL_fits_268 : decode cL_fits 268 = .ok (.iconst 2, 1) := by decide +kernel
theorem dL_fits_269 : decode cL_fits 269 = .ok (.invokevirtual 25, 3) := by decide +kernel
theorem dL_fits_272 : decode cL_fits 272 = .ok (.aload 4, 2) := by decide +kernel
theorem dL_fits_274 : decode cL_fits 274 = .ok (.iload 11, 2) := by decide +kernel
theorem dL_fits_276 : decode cL_fits 276 = .ok (.iaload, 1) := by decide +kernel
theorem dL_fits_277 : decode cL_fits 277 = .ok (.iconst 2, 1) := by decide +kernel
theorem dL_fits_278 : decode cL_fits 278 = .ok (.aload_n 0, 1) := by decide +kernel
theorem dL_fits_279 : decode cL_fits 279 = .ok (.iload 11, 2) := by decide +kernel
theorem dL_fits_281 : decode cL_fits 281 = .ok (.iconst 3, 1) := by decide +kernel
theorem dL_fits_282 : decode cL_fits 282 = .ok (.invokevirtual 25, 3) := by decide +kernel
theorem dL_fits_285 : decode cL_fits 285 = .ok (.imul, 1) := by decide +kernel
theorem dL_fits_286 : decode cL_fits 286 = .ok (.iadd, 1) := by decide +kernel
theorem dL_fits_287 : decode cL_fits 287 = .ok (.aload_n 0, 1) := by decide +kernel
theorem dL_fits_288 : decode cL_fits 288 = .ok (.iload 11, 2) := by decide +kernel
theorem dL_fits_290 : decode cL_fits 290 = .ok (.iconst 4, 1) := by decide +kernel
theorem dL_fits_291 : decode cL_fits 291 = .ok (.invokevirtual 25, 3) := by decide +kernel
theorem dL_fits_294 : decode cL_fits 294 = .ok (.isub, 1) := by decide +kernel
theorem dL_fits_295 : decode cL_fits 295 = .ok (.aload_n 0, 1) := by decide +kernel
theorem dL_fits_296 : decode cL_fits 296 = .ok (.iload 11, 2) := by decide +kernel
theorem dL_fits_298 : decode cL_fits 298 = .ok (.iconst 5, 1) := by decide +kernel
theorem dL_fits_299 : decode cL_fits 299 = .ok (.invokevirtual 25, 3) := by decide +kernel
theorem dL_fits_302 : decode cL_fits 302 = .ok (.iadd, 1) := by decide +kernel
theorem dL_fits_303 : decode cL_fits 303 = .ok (.if_icmp .ne 7, 3) := by decide +kernel
theorem dL_fits_306 : decode cL_fits 306 = .ok (.iconst 1, 1) := by decide +kernel
theorem dL_fits_307 : decode cL_fits 307 = .ok (.goto 4, 3) := by decide +kernel
theorem dL_fits_310 : decode cL_fits 310 = .ok (.iconst 0, 1) := by decide +kernel
theorem dL_fits_311 : decode cL_fits 311 = .ok (.istore 8, 2) := by decide +kernel
theorem dL_fits_313 : decode cL_fits 313 = .ok (.iload 8, 2) := by decide +kernel
theorem dL_fits_315 : decode cL_fits 315 = .ok (.ifCond .eq 137, 3) := by decide +kernel
theorem dL_fits_318 : decode cL_fits 318 = .ok (.iload 11, 2) := by decide +kernel
theorem dL_fits_320 : decode cL_fits 320 = .ok (.ifCond .le 132, 3) := by decide +kernel
theorem dL_fits_323 : decode cL_fits 323 = .ok (.aload_n 0, 1) := by decide +kernel
theorem dL_fits_324 : decode cL_fits 324 = .ok (.iload 11, 2) := by decide +kernel
theorem dL_fits_326 : decode cL_fits 326 = .ok (.iconst 1, 1) := by decide +kernel
theorem dL_fits_327 : decode cL_fits 327 = .ok (.isub, 1) := by decide +kernel
theorem dL_fits_328 : decode cL_fits 328 = .ok (.invokevirtual 83, 3) := by decide +kernel
theorem dL_fits_331 : decode cL_fits 331 = .ok (.istore 12, 2) := by decide +kernel
theorem dL_fits_333 : decode cL_fits 333 = .ok (.aload_n 0, 1) := by decide +kernel
theorem dL_fits_334 : decode cL_fits 334 = .ok (.iload 11, 2) := by decide +kernel
theorem dL_fits_336 : decode cL_fits 336 = .ok (.invokevirtual 83, 3) := by decide +kernel
theorem dL_fits_339 : decode cL_fits 339 = .ok (.istore 13, 2) := by decide +kernel
theorem dL_fits_341 : decode cL_fits 341 = .ok (.iload 12, 2) := by decide +kernel
theorem dL_fits_343 : decode cL_fits 343 = .ok (.iload 13, 2) := by decide +kernel
theorem dL_fits_345 : decode cL_fits 345 = .ok (.if_icmp .eq 17, 3) := by decide +kernel
theorem dL_fits_348 : decode cL_fits 348 = .ok (.iload 12, 2) := by decide +kernel
theorem dL_fits_350 : decode cL_fits 350 = .ok (.ifCond .lt 12, 3) := by decide +kernel
theorem dL_fits_353 : decode cL_fits 353 = .ok (.iload 13, 2) := by decide +kernel
theorem dL_fits_355 : decode cL_fits 355 = .ok (.ifCond .lt 7, 3) := by decide +kernel
theorem dL_fits_358 : decode cL_fits 358 = .ok (.iconst 1, 1) := by decide +kernel
theorem dL_fits_359 : decode cL_fits 359 = .ok (.goto 4, 3) := by decide +kernel
theorem dL_fits_362 : decode cL_fits 362 = .ok (.iconst 0, 1) := by decide +kernel
theorem dL_fits_363 : decode cL_fits 363 = .ok (.istore 8, 2) := by decide +kernel
theorem dL_fits_365 : decode cL_fits 365 = .ok (.iload 8, 2) := by decide +kernel
theorem dL_fits_367 : decode cL_fits 367 = .ok (.ifCond .eq 21, 3) := by decide +kernel
theorem dL_fits_370 : decode cL_fits 370 = .ok (.aload_n 0, 1) := by decide +kernel
theorem dL_fits_371 : decode cL_fits 371 = .ok (.iload 12, 2) := by decide +kernel
theorem dL_fits_373 : decode cL_fits 373 = .ok (.iconst 2, 1) := by decide +kernel
theorem dL_fits_374 : decode cL_fits 374 = .ok (.invokevirtual 25, 3) := by decide +kernel
theorem dL_fits_377 : decode cL_fits 377 = .ok (.aload_n 0, 1) := by decide +kernel
theorem dL_fits_378 : decode cL_fits 378 = .ok (.iload 13, 2) := by decide +kernel
theorem dL_fits_380 : decode cL_fits 380 = .ok (.iconst 2, 1) := by decide +kernel
theorem dL_fits_381 : decode cL_fits 381 = .ok (.invokevirtual 25, 3) := by decide +kernel
theorem dL_fits_384 : decode cL_fits 384 = .ok (.isub, 1) := by decide +kernel
theorem dL_fits_385 : decode cL_fits 385 = .ok (.goto 4, 3) := by decide +kernel
theorem dL_fits_388 : decode cL_fits 388 = .ok (.iconst 0, 1) := by decide +kernel
theorem dL_fits_389 : decode cL_fits 389 = .ok (.istore 14, 2) := by decide +kernel
theorem dL_fits_391 : decode cL_fits 391 = .ok (.iload 8, 2) := by decide +kernel
theorem dL_fits_393 : decode cL_fits 393 = .ok (.ifCond .eq 26, 3) := by decide +kernel
theorem dL_fits_396 : decode cL_fits 396 = .ok (.iload 14, 2) := by decide +kernel
theorem dL_fits_398 : decode cL_fits 398 = .ok (.ifCond .ne 21, 3) := by decide +kernel
theorem dL_fits_401 : decode cL_fits 401 = .ok (.aload_n 0, 1) := by decide +kernel
theorem dL_fits_402 : decode cL_fits 402 = .ok (.iload 12, 2) := by decide +kernel
theorem dL_fits_404 : decode cL_fits 404 = .ok (.iconst 1, 1) := by decide +kernel
theorem dL_fits_405 : decode cL_fits 405 = .ok (.invokevirtual 25, 3) := by decide +kernel
theorem dL_fits_408 : decode cL_fits 408 = .ok (.aload_n 0, 1) := by decide +kernel
theorem dL_fits_409 : decode cL_fits 409 = .ok (.iload 13, 2) := by decide +kernel
theorem dL_fits_411 : decode cL_fits 411 = .ok (.iconst 1, 1) := by decide +kernel
theorem dL_fits_412 : decode cL_fits 412 = .ok (.invokevirtual 25, 3) := by decide +kernel
theorem dL_fits_415 : decode cL_fits 415 = .ok (.isub, 1) := by decide +kernel
theorem dL_fits_416 : decode cL_fits 416 = .ok (.goto 5, 3) := by decide +kernel
theorem dL_fits_419 : decode cL_fits 419 = .ok (.iload 14, 2) := by decide +kernel
theorem dL_fits_421 : decode cL_fits 421 = .ok (.istore 14, 2) := by decide +kernel
theorem dL_fits_423 : decode cL_fits 423 = .ok (.iload 8, 2) := by decide +kernel
theorem dL_fits_425 : decode cL_fits 425 = .ok (.ifCond .eq 24, 3) := by decide +kernel
theorem dL_fits_428 : decode cL_fits 428 = .ok (.iload 14, 2) := by decide +kernel
theorem dL_fits_430 : decode cL_fits 430 = .ok (.ifCond .gt 15, 3) := by decide +kernel
theorem dL_fits_433 : decode cL_fits 433 = .ok (.iload 14, 2) := by decide +kernel
theorem dL_fits_435 : decode cL_fits 435 = .ok (.ifCond .ne 14, 3) := by decide +kernel
theorem dL_fits_438 : decode cL_fits 438 = .ok (.iload 12, 2) := by decide +kernel
theorem dL_fits_440 : decode cL_fits 440 = .ok (.iload 13, 2) := by decide +kernel
theorem dL_fits_442 : decode cL_fits 442 = .ok (.if_icmp .ge 7, 3) := by decide +kernel
theorem dL_fits_445 : decode cL_fits 445 = .ok (.iconst 1, 1) := by decide +kernel
theorem dL_fits_446 : decode cL_fits 446 = .ok (.goto 4, 3) := by decide +kernel
theorem dL_fits_449 : decode cL_fits 449 = .ok (.iconst 0, 1) := by decide +kernel
theorem dL_fits_450 : decode cL_fits 450 = .ok (.istore 8, 2) := by decide +kernel
theorem dL_fits_452 : decode cL_fits 452 = .ok (.iinc 11 1, 3) := by decide +kernel
theorem dL_fits_455 : decode cL_fits 455 = .ok (.goto (-229), 3) := by decide +kernel
theorem dL_fits_458 : decode cL_fits 458 = .ok (.iconst 0, 1) := by decide +kernel
theorem dL_fits_459 : decode cL_fits 459 = .ok (.istore 11, 2) := by decide +kernel
theorem dL_fits_461 : decode cL_fits 461 = .ok (.iconst 0, 1) := by decide +kernel
theorem dL_fits_462 : decode cL_fits 462 = .ok (.istore 12, 2) := by decide +kernel
theorem dL_fits_464 : decode cL_fits 464 = .ok (.iconst 0, 1) := by decide +kernel
theorem dL_fits_465 : decode cL_fits 465 = .ok (.istore 13, 2) := by decide +kernel
theorem dL_fits_467 : decode cL_fits 467 = .ok (.iconst 0, 1) := by decide +kernel
theorem dL_fits_468 : decode cL_fits 468 = .ok (.istore 14, 2) := by decide +kernel
theorem dL_fits_470 : decode cL_fits 470 = .ok (.iload 14, 2) := by decide +kernel
theorem dL_fits_472 : decode cL_fits 472 = .ok (.aload_n 0, 1) := by decide +kernel
theorem dL_fits_473 : decode cL_fits 473 = .ok (.iconst 3, 1) := by decide +kernel
theorem dL_fits_474 : decode cL_fits 474 = .ok (.invokevirtual 17, 3) := by decide +kernel
theorem dL_fits_477 : decode cL_fits 477 = .ok (.if_icmp .ge 115, 3) := by decide +kernel
theorem dL_fits_480 : decode cL_fits 480 = .ok (.iload 11, 2) := by decide +kernel
theorem dL_fits_482 : decode cL_fits 482 = .ok (.aload_n 0, 1) := by decide +kernel
theorem dL_fits_483 : decode cL_fits 483 = .ok (.iload 14, 2) := by decide +kernel
theorem dL_fits_485 : decode cL_fits 485 = .ok (.iconst 2, 1) := by decide +kernel
theorem dL_fits_486 : decode cL_fits 486 = .ok (.invokevirtual 21, 3) := by decide +kernel
theorem dL_fits_489 : decode cL_fits 489 = .ok (.iadd, 1) := by decide +kernel
theorem dL_fits_490 : decode cL_fits 490 = .ok (.istore 11, 2) := by decide +kernel
theorem dL_fits_492 : decode cL_fits 492 = .ok (.iload 12, 2) := by decide +kernel
theorem dL_fits_494 : decode cL_fits 494 = .ok (.aload_n 0, 1) := by decide +kernel
theorem dL_fits_495 : decode cL_fits 495 = .ok (.iload 14, 2) := by decide +kernel
theorem dL_fits_497 : decode cL_fits 497 = .ok (.iconst 4, 1) := by decide +kernel
theorem dL_fits_498 : decode cL_fits 498 = .ok (.invokevirtual 21, 3) := by decide +kernel
theorem dL_fits_501 : decode cL_fits 501 = .ok (.aload_n 0, 1) := by decide +kernel
theorem dL_fits_502 : decode cL_fits 502 = .ok (.iload 14, 2) := by decide +kernel
theorem dL_fits_504 : decode cL_fits 504 = .ok (.iconst 2, 1) := by decide +kernel
theorem dL_fits_505 : decode cL_fits 505 = .ok (.invokevirtual 21, 3) := by decide +kernel
theorem dL_fits_508 : decode cL_fits 508 = .ok (.if_icmp .le 21, 3) := by decide +kernel
theorem dL_fits_511 : decode cL_fits 511 = .ok (.aload_n 0, 1) := by decide +kernel
theorem dL_fits_512 : decode cL_fits 512 = .ok (.iload 14, 2) := by decide +kernel
theorem dL_fits_514 : decode cL_fits 514 = .ok (.iconst 4, 1) := by decide +kernel
theorem dL_fits_515 : decode cL_fits 515 = .ok (.invokevirtual 21, 3) := by decide +kernel
theorem dL_fits_518 : decode cL_fits 518 = .ok (.aload_n 0, 1) := by decide +kernel
theorem dL_fits_519 : decode cL_fits 519 = .ok (.iload 14, 2) := by decide +kernel
theorem dL_fits_521 : decode cL_fits 521 = .ok (.iconst 2, 1) := by decide +kernel
theorem dL_fits_522 : decode cL_fits 522 = .ok (.invokevirtual 21, 3) := by decide +kernel
theorem dL_fits_525 : decode cL_fits 525 = .ok (.isub, 1) := by decide +kernel
theorem dL_fits_526 : decode cL_fits 526 = .ok (.goto 4, 3) := by decide +kernel
theorem dL_fits_529 : decode cL_fits 529 = .ok (.iconst 0, 1) := by decide +kernel
theorem dL_fits_530 : decode cL_fits 530 = .ok (.iadd, 1) := by decide +kernel
theorem dL_fits_531 : decode cL_fits 531 = .ok (.istore 12, 2) := by decide +kernel
theorem dL_fits_533 : decode cL_fits 533 = .ok (.iload 13, 2) := by decide +kernel
theorem dL_fits_535 : decode cL_fits 535 = .ok (.aload_n 0, 1) := by decide +kernel
theorem dL_fits_536 : decode cL_fits 536 = .ok (.iload 14, 2) := by decide +kernel
theorem dL_fits_538 : decode cL_fits 538 = .ok (.iconst 3, 1) := by decide +kernel
theorem dL_fits_539 : decode cL_fits 539 = .ok (.invokevirtual 21, 3) := by decide +kernel
theorem dL_fits_542 : decode cL_fits 542 = .ok (.iadd, 1) := by decide +kernel
theorem dL_fits_543 : decode cL_fits 543 = .ok (.istore 13, 2) := by decide +kernel
theorem dL_fits_545 : decode cL_fits 545 = .ok (.iload 8, 2) := by decide +kernel
theorem dL_fits_547 : decode cL_fits 547 = .ok (.ifCond .eq 36, 3) := by decide +kernel
theorem dL_fits_550 : decode cL_fits 550 = .ok (.aload_n 0, 1) := by decide +kernel
theorem dL_fits_551 : decode cL_fits 551 = .ok (.iload 14, 2) := by decide +kernel
theorem dL_fits_553 : decode cL_fits 553 = .ok (.iconst 2, 1) := by decide +kernel
theorem dL_fits_554 : decode cL_fits 554 = .ok (.invokevirtual 21, 3) := by decide +kernel
theorem dL_fits_557 : decode cL_fits 557 = .ok (.ifCond .lt 26, 3) := by decide +kernel
theorem dL_fits_560 : decode cL_fits 560 = .ok (.aload_n 0, 1) := by decide +kernel
theorem dL_fits_561 : decode cL_fits 561 = .ok (.iload 14, 2) := by decide +kernel
theorem dL_fits_563 : decode cL_fits 563 = .ok (.iconst 2, 1) := by decide +kernel
theorem dL_fits_564 : decode cL_fits 564 = .ok (.invokevirtual 21, 3) := by decide +kernel
theorem dL_fits_567 : decode cL_fits 567 = .ok (.iconst 2, 1) := by decide +kernel
theorem dL_fits_568 : decode cL_fits 568 = .ok (.aload_n 0, 1) := by decide +kernel
theorem dL_fits_569 : decode cL_fits 569 = .ok (.iload 14, 2) := by decide +kernel
theorem dL_fits_571 : decode cL_fits 571 = .ok (.iconst 1, 1) := by decide +kernel
theorem dL_fits_572 : decode cL_fits 572 = .ok (.invokevirtual 21, 3) := by decide +kernel
theorem dL_fits_575 : decode cL_fits 575 = .ok (.imul, 1) := by decide +kernel
theorem dL_fits_576 : decode cL_fits 576 = .ok (.if_icmp .gt 7, 3) := by decide +kernel
theorem dL_fits_579 : decode cL_fits 579 = .ok (.iconst 1, 1) := by decide +kernel
theorem dL_fits_580 : decode cL_fits 580 = .ok (.goto 4, 3) := by decide +kernel
theorem dL_fits_583 : decode cL_fits 583 = .ok (.iconst 0, 1) := by decide +kernel
theorem dL_fits_584 : decode cL_fits 584 = .ok (.istore 8, 2) := by decide +kernel
theorem dL_fits_586 : decode cL_fits 586 = .ok (.iinc 14 1, 3) := by decide +kernel
theorem dL_fits_589 : decode cL_fits 589 = .ok (.goto (-119), 3) := by decide +kernel
theorem dL_fits_592 : decode cL_fits 592 = .ok (.iload 8, 2) := by decide +kernel
theorem dL_fits_594 : decode cL_fits 594 = .ok (.ifCond .eq 109, 3) := by decide +kernel
theorem dL_fits_597 : decode cL_fits 597 = .ok (.lload 9, 2) := by decide +kernel
theorem dL_fits_599 : decode cL_fits 599 = .ok (.aload_n 0, 1) := by decide +kernel
theorem dL_fits_600 : decode cL_fits 600 = .ok (.bipush 13, 2) := by decide +kernel
theorem dL_fits_602 : decode cL_fits 602 = .ok (.invokevirtual 17, 3) := by decide +kernel
theorem dL_fits_605 : decode cL_fits 605 = .ok (.i2l, 1) := by decide +kernel
theorem dL_fits_606 : decode cL_fits 606 = .ok (.aload_n 0, 1) := by decide +kernel
theorem dL_fits_607 : decode cL_fits 607 = .ok (.bipush 14, 2) := by decide +kernel
theorem dL_fits_609 : decode cL_fits 609 = .ok (.invokevirtual 17, 3) := by decide +kernel
theorem dL_fits_612 : decode cL_fits 612 = .ok (.i2l, 1) := by decide +kernel
theorem dL_fits_613 : decode cL_fits 613 = .ok (.ladd, 1) := by decide +kernel
theorem dL_fits_614 : decode cL_fits 614 = .ok (.lcmp, 1) := by decide +kernel
theorem dL_fits_615 : decode cL_fits 615 = .ok (.ifCond .ne 88, 3) := by decide +kernel
theorem dL_fits_618 : decode cL_fits 618 = .ok (.iload 6, 2) := by decide +kernel
theorem dL_fits_620 : decode cL_fits 620 = .ok (.aload_n 3, 1) := by decide +kernel
theorem dL_fits_621 : decode cL_fits 621 = .ok (.iconst 5, 1) := by decide +kernel
theorem dL_fits_622 : decode cL_fits 622 = .ok (.iaload, 1) := by decide +kernel
theorem dL_fits_623 : decode cL_fits 623 = .ok (.if_icmp .ne 80, 3) := by decide +kernel
theorem dL_fits_626 : decode cL_fits 626 = .ok (.iload 7, 2) := by decide +kernel
theorem dL_fits_628 : decode cL_fits 628 = .ok (.aload_n 0, 1) := by decide +kernel
theorem dL_fits_629 : decode cL_fits 629 = .ok (.bipush 15, 2) := by decide +kernel
theorem dL_fits_631 : decode cL_fits 631 = .ok (.invokevirtual 17, 3) := by decide +kernel
theorem dL_fits_634 : decode cL_fits 634 = .ok (.if_icmp .ne 69, 3) := by decide +kernel
theorem dL_fits_637 : decode cL_fits 637 = .ok (.iload 11, 2) := by decide +kernel
theorem dL_fits_639 : decode cL_fits 639 = .ok (.aload_n 0, 1) := by decide +kernel
theorem dL_fits_640 : decode cL_fits 640 = .ok (.bipush 12, 2) := by decide +kernel
theorem dL_fits_642 : decode cL_fits 642 = .ok (.invokevirtual 17, 3) := by decide +kernel
theorem dL_fits_645 : decode cL_fits 645 = .ok (.if_icmp .ne 58, 3) := by decide +kernel
theorem dL_fits_648 : decode cL_fits 648 = .ok (.iload 13, 2) := by decide +kernel
theorem dL_fits_650 : decode cL_fits 650 = .ok (.iload_n 1, 1) := by decide +kernel
theorem dL_fits_651 : decode cL_fits 651 = .ok (.if_icmp .ne 52, 3) := by decide +kernel
theorem dL_fits_654 : decode cL_fits 654 = .ok (.aload_n 0, 1) := by decide +kernel
theorem dL_fits_655 : decode cL_fits 655 = .ok (.invokevirtual 9, 3) := by decide +kernel
theorem dL_fits_658 : decode cL_fits 658 = .ok (.iload 12, 2) := by decide +kernel
theorem dL_fits_660 : decode cL_fits 660 = .ok (.aload_n 0, 1) := by decide +kernel
theorem dL_fits_661 : decode cL_fits 661 = .ok (.iconst 2, 1) := by decide +kernel
theorem dL_fits_662 : decode cL_fits 662 = .ok (.invokevirtual 17, 3) := by decide +kernel
theorem dL_fits_665 : decode cL_fits 665 = .ok (.if_icmp .le 14, 3) := by decide +kernel
theorem dL_fits_668 : decode cL_fits 668 = .ok (.iload 12, 2) := by decide +kernel
theorem dL_fits_670 : decode cL_fits 670 = .ok (.aload_n 0, 1) := by decide +kernel
theorem dL_fits_671 : decode cL_fits 671 = .ok (.iconst 2, 1) := by decide +kernel
theorem dL_fits_672 : decode cL_fits 672 = .ok (.invokevirtual 17, 3) := by decide +kernel
theorem dL_fits_675 : decode cL_fits 675 = .ok (.isub, 1) := by decide +kernel
theorem dL_fits_676 : decode cL_fits 676 = .ok (.goto 4, 3) := by decide +kernel
theorem dL_fits_679 : decode cL_fits 679 = .ok (.iconst 0, 1) := by decide +kernel
theorem dL_fits_680 : decode cL_fits 680 = .ok (.if_icmp .ne 23, 3) := by decide +kernel
theorem dL_fits_683 : decode cL_fits 683 = .ok (.aload_n 0, 1) := by decide +kernel
theorem dL_fits_684 : decode cL_fits 684 = .ok (.iconst 1, 1) := by decide +kernel
theorem dL_fits_685 : decode cL_fits 685 = .ok (.invokevirtual 17, 3) := by decide +kernel
theorem dL_fits_688 : decode cL_fits 688 = .ok (.aload_n 0, 1) := by decide +kernel
theorem dL_fits_689 : decode cL_fits 689 = .ok (.iconst 0, 1) := by decide +kernel
theorem dL_fits_690 : decode cL_fits 690 = .ok (.invokevirtual 17, 3) := by decide +kernel
theorem dL_fits_693 : decode cL_fits 693 = .ok (.bipush 90, 2) := by decide +kernel
theorem dL_fits_695 : decode cL_fits 695 = .ok (.idiv, 1) := by decide +kernel
theorem dL_fits_696 : decode cL_fits 696 = .ok (.if_icmp .ne 7, 3) := by decide +kernel
theorem dL_fits_699 : decode cL_fits 699 = .ok (.iconst 1, 1) := by decide +kernel
theorem dL_fits_700 : decode cL_fits 700 = .ok (.goto 4, 3) := by decide +kernel
theorem dL_fits_703 : decode cL_fits 703 = .ok (.iconst 0, 1) := by decide +kernel
theorem dL_fits_704 : decode cL_fits 704 = .ok (.ireturn, 1) := by decide +kernel
theorem dL_comesSo_0 : decode cL_comesSo 0 = .ok (.aload_n 0, 1) := by decide +kernel
theorem dL_comesSo_1 : decode cL_comesSo 1 = .ok (.iload_n 1, 1) := by decide +kernel
theorem dL_comesSo_2 : decode cL_comesSo 2 = .ok (.invokevirtual 80, 3) := by decide +kernel
theorem dL_comesSo_5 : decode cL_comesSo 5 = .ok (.istore_n 2, 1) := by decide +kernel
theorem dL_comesSo_6 : decode cL_comesSo 6 = .ok (.aload_n 0, 1) := by decide +kernel
theorem dL_comesSo_7 : decode cL_comesSo 7 = .ok (.iload_n 1, 1) := by decide +kernel
theorem dL_comesSo_8 : decode cL_comesSo 8 = .ok (.iconst 3, 1) := by decide +kernel
theorem dL_comesSo_9 : decode cL_comesSo 9 = .ok (.invokevirtual 28, 3) := by decide +kernel
theorem dL_comesSo_12 : decode cL_comesSo 12 = .ok (.iconst 2, 1) := by decide +kernel
theorem dL_comesSo_13 : decode cL_comesSo 13 = .ok (.if_icmp .eq 16, 3) := by decide +kernel
theorem dL_comesSo_16 : decode cL_comesSo 16 = .ok (.iload_n 2, 1) := by decide +kernel
theorem dL_comesSo_17 : decode cL_comesSo 17 = .ok (.sipush (-10002), 3) := by decide +kernel
theorem dL_comesSo_20 : decode cL_comesSo 20 = .ok (.if_icmp .ne 7, 3) := by decide +kernel
theorem dL_comesSo_23 : decode cL_comesSo 23 = .ok (.iconst 1, 1) := by decide +kernel
theorem dL_comesSo_24 : decode cL_comesSo 24 = .ok (.goto 4, 3) := by decide +kernel
theorem dL_comesSo_27 : decode cL_comesSo 27 = .ok (.iconst 0, 1) := by decide +kernel
theorem dL_comesSo_28 : decode cL_comesSo 28 = .ok (.ireturn, 1) := by decide +kernel
theorem dL_comesSo_29 : decode cL_comesSo 29 = .ok (.aload_n 0, 1) := by decide +kernel
theorem dL_comesSo_30 : decode cL_comesSo 30 = .ok (.iload_n 1, 1) := by decide +kernel
theorem dL_comesSo_31 : decode cL_comesSo 31 = .ok (.bipush 8, 2) := by decide +kernel
theorem dL_comesSo_33 : decode cL_comesSo 33 = .ok (.invokevirtual 28, 3) := by decide +kernel
theorem dL_comesSo_36 : decode cL_comesSo 36 = .ok (.iconst 1, 1) := by decide +kernel
theorem dL_comesSo_37 : decode cL_comesSo 37 = .ok (.if_icmp .ne 16, 3) := by decide +kernel
theorem dL_comesSo_40 : decode cL_comesSo 40 = .ok (.iload_n 2, 1) := by decide +kernel
theorem dL_comesSo_41 : decode cL_comesSo 41 = .ok (.sipush (-10009), 3) := by decide +kernel
theorem dL_comesSo_44 : decode cL_comesSo 44 = .ok (.if_icmp .ne 7, 3) := by decide +kernel
theorem dL_comesSo_47 : decode cL_comesSo 47 = .ok (.iconst 1, 1) := by decide +kernel
theorem dL_comesSo_48 : decode cL_comesSo 48 = .ok (.goto 4, 3) := by decide +kernel
theorem dL_comesSo_51 : decode cL_comesSo 51 = .ok (.iconst 0, 1) := by decide +kernel
theorem dL_comesSo_52 : decode cL_comesSo 52 = .ok (.ireturn, 1) := by decide +kernel
theorem dL_comesSo_53 : decode cL_comesSo 53 = .ok (.iload_n 2, 1) := by decide +kernel
theorem dL_comesSo_54 : decode cL_comesSo 54 = .ok (.sipush (-10009), 3) := by decide +kernel
theorem dL_comesSo_57 : decode cL_comesSo 57 = .ok (.if_icmp .eq 23, 3) := by decide +kernel
theorem dL_comesSo_60 : decode cL_comesSo 60 = .ok (.iload_n 2, 1) := by decide +kernel
theorem dL_comesSo_61 : decode cL_comesSo 61 = .ok (.sipush 400, 3) := by decide +kernel
theorem dL_comesSo_64 : decode cL_comesSo 64 = .ok (.if_icmp .gt 16, 3) := by decide +kernel
theorem dL_comesSo_67 : decode cL_comesSo 67 = .ok (.aload_n 0, 1) := by decide +kernel
theorem dL_comesSo_68 : decode cL_comesSo 68 = .ok (.iconst 0, 1) := by decide +kernel
theorem dL_comesSo_69 : decode cL_comesSo 69 = .ok (.invokevirtual 17, 3) := by decide +kernel
theorem dL_comesSo_72 : decode cL_comesSo 72 = .ok (.iload_n 2, 1) := by decide +kernel
theorem dL_comesSo_73 : decode cL_comesSo 73 = .ok (.iadd, 1) := by decide +kernel
theorem dL_comesSo_74 : decode cL_comesSo 74 = .ok (.sipush 9999, 3) := by decide +kernel
theorem dL_comesSo_77 : decode cL_comesSo 77 = .ok (.if_icmp .le 33, 3) := by decide +kernel
theorem dL_comesSo_80 : decode cL_comesSo 80 = .ok (.iload_n 2, 1) := by decide +kernel
theorem dL_comesSo_81 : decode cL_comesSo 81 = .ok (.sipush (-10009), 3) := by decide +kernel
theorem dL_comesSo_84 : decode cL_comesSo 84 = .ok (.if_icmp .eq 20, 3) := by decide +kernel
theorem dL_comesSo_87 : decode cL_comesSo 87 = .ok (.iload_n 2, 1) := by decide +kernel
theorem dL_comesSo_88 : decode cL_comesSo 88 = .ok (.ifCond .le 20, 3) := by decide +kernel
theorem dL_comesSo_91 : decode cL_comesSo 91 = .ok (.aload_n 0, 1) := by decide +kernel
theorem dL_comesSo_92 : decode cL_comesSo 92 = .ok (.iconst 0, 1) := by decide +kernel
theorem dL_comesSo_93 : decode cL_comesSo 93 = .ok (.invokevirtual 17, 3) := by decide +kernel
theorem dL_comesSo_96 : decode cL_comesSo 96 = .ok (.iload_n 2, 1) := by decide +kernel
theorem dL_comesSo_97 : decode cL_comesSo 97 = .ok (.iadd, 1) := by decide +kernel
theorem dL_comesSo_98 : decode cL_comesSo 98 = .ok (.bipush 90, 2) := by decide +kernel
theorem dL_comesSo_100 : decode cL_comesSo 100 = .ok (.irem, 1) := by decide +kernel
theorem dL_comesSo_101 : decode cL_comesSo 101 = .ok (.ifCond .ne 7, 3) := by decide +kernel
theorem dL_comesSo_104 : decode cL_comesSo 104 = .ok (.iconst 1, 1) := by decide +kernel
theorem dL_comesSo_105 : decode cL_comesSo 105 = .ok (.goto 4, 3) := by decide +kernel
theorem dL_comesSo_108 : decode cL_comesSo 108 = .ok (.iconst 0, 1) := by decide +kernel
theorem dL_comesSo_109 : decode cL_comesSo 109 = .ok (.ireturn, 1) := by decide +kernel
theorem dL_comesSo_110 : decode cL_comesSo 110 = .ok (.aload_n 0, 1) := by decide +kernel
theorem dL_comesSo_111 : decode cL_comesSo 111 = .ok (.invokestatic 31, 3) := by decide +kernel
theorem dL_comesSo_114 : decode cL_comesSo 114 = .ok (.lstore_n 3, 1) := by decide +kernel
theorem dL_comesSo_115 : decode cL_comesSo 115 = .ok (.iload_n 2, 1) := by decide +kernel
theorem dL_comesSo_116 : decode cL_comesSo 116 = .ok (.ifCond .le 71, 3) := by decide +kernel
theorem dL_comesSo_119 : decode cL_comesSo 119 = .ok (.aload_n 0, 1) := by decide +kernel
theorem dL_comesSo_120 : decode cL_comesSo 120 = .ok (.iconst 0, 1) := by decide +kernel
theorem dL_comesSo_121 : decode cL_comesSo 121 = .ok (.invokevirtual 17, 3) := by decide +kernel
theorem dL_comesSo_124 : decode cL_comesSo 124 = .ok (.iload_n 2, 1) := by decide +kernel
theorem dL_comesSo_125 : decode cL_comesSo 125 = .ok (.iadd, 1) := by decide +kernel
theorem dL_comesSo_126 : decode cL_comesSo 126 = .ok (.bipush 90, 2) := by decide +kernel
theorem dL_comesSo_128 : decode cL_comesSo 128 = .ok (.irem, 1) := by decide +kernel
theorem dL_comesSo_129 : decode cL_comesSo 129 = .ok (.ifCond .ne 58, 3) := by decide +kernel
theorem dL_comesSo_132 : decode cL_comesSo 132 = .ok (.aload_n 0, 1) := by decide +kernel
theorem dL_comesSo_133 : decode cL_comesSo 133 = .ok (.iload_n 2, 1) := by decide +kernel
theorem dL_comesSo_134 : decode cL_comesSo 134 = .ok (.invokevirtual 74, 3) := by decide +kernel
theorem dL_comesSo_137 : decode cL_comesSo 137 = .ok (.ifCond .le 50, 3) := by decide +kernel
theorem dL_comesSo_140 : decode cL_comesSo 140 = .ok (.aload_n 0, 1) := by decide +kernel
theorem dL_comesSo_141 : decode cL_comesSo 141 = .ok (.iload_n 1, 1) := by decide +kernel
theorem dL_comesSo_142 : decode cL_comesSo 142 = .ok (.iconst 3, 1) := by decide +kernel
theorem dL_comesSo_143 : decode cL_comesSo 143 = .ok (.invokevirtual 28, 3) := by decide +kernel
theorem dL_comesSo_146 : decode cL_comesSo 146 = .ok (.iconst 3, 1) := by decide +kernel
theorem dL_comesSo_147 : decode cL_comesSo 147 = .ok (.if_icmp .ne 40, 3) := by decide +kernel
theorem dL_comesSo_150 : decode cL_comesSo 150 = .ok (.aload_n 0, 1) := by decide +kernel
theorem dL_comesSo_151 : decode cL_comesSo 151 = .ok (.iload_n 1, 1) := by decide +kernel
theorem dL_comesSo_152 : decode cL_comesSo 152 = .ok (.bipush 9, 2) := by decide +kernel
theorem dL_comesSo_154 : decode cL_comesSo 154 = .ok (.invokevirtual 28, 3) := by decide +kernel
theorem dL_comesSo_157 : decode cL_comesSo 157 = .ok (.aload_n 0, 1) := by decide +kernel
theorem dL_comesSo_158 : decode cL_comesSo 158 = .ok (.iload_n 1, 1) := by decide +kernel
theorem dL_comesSo_159 : decode cL_comesSo 159 = .ok (.bipush 7, 2) := by decide +kernel
theorem dL_comesSo_161 : decode cL_comesSo 161 = .ok (.invokevirtual 28, 3) := by decide +kernel
theorem dL_comesSo_164 : decode cL_comesSo 164 = .ok (.if_icmp .ne 23, 3) := by decide +kernel
theorem dL_comesSo_167 : decode cL_comesSo 167 = .ok (.aload_n 0, 1) := by decide +kernel
theorem dL_comesSo_168 : decode cL_comesSo 168 = .ok (.invokevirtual 90, 3) := by decide +kernel
theorem dL_comesSo_171 : decode cL_comesSo 171 = .ok (.ifCond .lt 16, 3) := by decide +kernel
theorem dL_comesSo_174 : decode cL_comesSo 174 = .ok (.aload_n 0, 1) := by decide +kernel
theorem dL_comesSo_175 : decode cL_comesSo 175 = .ok (.invokestatic 31, 3) := by decide +kernel
theorem dL_comesSo_178 : decode cL_comesSo 178 = .ok (.lload_n 3, 1) := by decide +kernel
theorem dL_comesSo_179 : decode cL_comesSo 179 = .ok (.lcmp, 1) := by decide +kernel
theorem dL_comesSo_180 : decode cL_comesSo 180 = .ok (.ifCond .ne 7, 3) := by decide +kernel
theorem dL_comesSo_183 : decode cL_comesSo 183 = .ok (.iconst 1, 1) := by decide +kernel
theorem dL_comesSo_184 : decode cL_comesSo 184 = .ok (.goto 4, 3) := by decide +kernel
theorem dL_comesSo_187 : decode cL_comesSo 187 = .ok (.iconst 0, 1) := by decide +kernel
theorem dL_comesSo_188 : decode cL_comesSo 188 = .ok (.istore 5, 2) := by decide +kernel
theorem dL_comesSo_190 : decode cL_comesSo 190 = .ok (.iload 5, 2) := by decide +kernel
theorem dL_comesSo_192 : decode cL_comesSo 192 = .ok (.ifCond .eq 60, 3) := by decide +kernel
theorem dL_comesSo_195 : decode cL_comesSo 195 = .ok (.iload_n 2, 1) := by decide +kernel
theorem dL_comesSo_196 : decode cL_comesSo 196 = .ok (.iconst 1, 1) := by decide +kernel
theorem dL_comesSo_197 : decode cL_comesSo 197 = .ok (.if_icmp .le 55, 3) := by decide +kernel
theorem dL_comesSo_200 : decode cL_comesSo 200 = .ok (.aload_n 0, 1) := by decide +kernel
theorem dL_comesSo_201 : decode cL_comesSo 201 = .ok (.iload_n 2, 1) := by decide +kernel
theorem dL_comesSo_202 : decode cL_comesSo 202 = .ok (.iconst 1, 1) := by decide +kernel
theorem dL_comesSo_203 : decode cL_comesSo 203 = .ok (.isub, 1) := by decide +kernel
theorem dL_comesSo_204 : decode cL_comesSo 204 = .ok (.invokevirtual 74, 3) := by decide +kernel
theorem dL_comesSo_207 : decode cL_comesSo 207 = .ok (.ifCond .lt 42, 3) := by decide +kernel
theorem dL_comesSo_210 : decode cL_comesSo 210 = .ok (.aload_n 0, 1) := by decide +kernel
theorem dL_comesSo_211 : decode cL_comesSo 211 = .ok (.iload_n 1, 1) := by decide +kernel
theorem dL_comesSo_212 : decode cL_comesSo 212 = .ok (.iconst 3, 1) := by decide +kernel
theorem dL_comesSo_213 : decode cL_comesSo 213 = .ok (.invokevirtual 28, 3) := by decide +kernel
theorem dL_comesSo_216 : decode cL_comesSo 216 = .ok (.iconst 2, 1) := by decide +kernel
theorem dL_comesSo_217 : decode cL_comesSo 217 = .ok (.if_icmp .ne 32, 3) := by decide +kernel
theorem dL_comesSo_220 : decode cL_comesSo 220 = .ok (.aload_n 0, 1) := by decide +kernel
theorem dL_comesSo_221 : decode cL_comesSo 221 = .ok (.iload_n 1, 1) := by decide +kernel
theorem dL_comesSo_222 : decode cL_comesSo 222 = .ok (.invokevirtual 80, 3) := by decide +kernel
theorem dL_comesSo_225 : decode cL_comesSo 225 = .ok (.iconst 1, 1) := by decide +kernel
theorem dL_comesSo_226 : decode cL_comesSo 226 = .ok (.if_icmp .ne 23, 3) := by decide +kernel
theorem dL_comesSo_229 : decode cL_comesSo 229 = .ok (.aload_n 0, 1) := by decide +kernel
theorem dL_comesSo_230 : decode cL_comesSo 230 = .ok (.invokevirtual 90, 3) := by decide +kernel
theorem dL_comesSo_233 : decode cL_comesSo 233 = .ok (.ifCond .lt 16, 3) := by decide +kernel
theorem dL_comesSo_236 : decode cL_comesSo 236 = .ok (.aload_n 0, 1) := by decide +kernel
theorem dL_comesSo_237 : decode cL_comesSo 237 = .ok (.invokestatic 31, 3) := by decide +kernel
theorem dL_comesSo_240 : decode cL_comesSo 240 = .ok (.lload_n 3, 1) := by decide +kernel
theorem dL_comesSo_241 : decode cL_comesSo 241 = .ok (.lcmp, 1) := by decide +kernel
theorem dL_comesSo_242 : decode cL_comesSo 242 = .ok (.ifCond .ne 7, 3) := by decide +kernel
theorem dL_comesSo_245 : decode cL_comesSo 245 = .ok (.iconst 1, 1) := by decide +kernel
theorem dL_comesSo_246 : decode cL_comesSo 246 = .ok (.goto 4, 3) := by decide +kernel
theorem dL_comesSo_249 : decode cL_comesSo 249 = .ok (.iconst 0, 1) := by decide +kernel
theorem dL_comesSo_250 : decode cL_comesSo 250 = .ok (.istore 5, 2) := by decide +kernel
theorem dL_comesSo_252 : decode cL_comesSo 252 = .ok (.iload 5, 2) := by decide +kernel
theorem dL_comesSo_254 : decode cL_comesSo 254 = .ok (.ireturn, 1) := by decide +kernel
theorem dL_isFilled_0 : decode cL_isFilled 0 = .ok (.aload_n 0, 1) := by decide +kernel
theorem dL_isFilled_1 : decode cL_isFilled 1 = .ok (.invokevirtual 9, 3) := by decide +kernel
theorem dL_isFilled_4 : decode cL_isFilled 4 = .ok (.istore_n 1, 1) := by decide +kernel
theorem dL_isFilled_5 : decode cL_isFilled 5 = .ok (.iload_n 1, 1) := by decide +kernel
theorem dL_isFilled_6 : decode cL_isFilled 6 = .ok (.ifCond .eq 21, 3) := by decide +kernel
theorem dL_isFilled_9 : decode cL_isFilled 9 = .ok (.iload_n 1, 1) := by decide +kernel
theorem dL_isFilled_10 : decode cL_isFilled 10 = .ok (.ldc 93, 2) := by decide +kernel
theorem dL_isFilled_12 : decode cL_isFilled 12 = .ok (.if_icmp .gt 15, 3) := by decide +kernel
theorem dL_isFilled_15 : decode cL_isFilled 15 = .ok (.aload_n 0, 1) := by decide +kernel
theorem dL_isFilled_16 : decode cL_isFilled 16 = .ok (.iconst 2, 1) := by decide +kernel
theorem dL_isFilled_17 : decode cL_isFilled 17 = .ok (.invokevirtual 17, 3) := by decide +kernel
theorem dL_isFilled_20 : decode cL_isFilled 20 = .ok (.iload_n 1, 1) := by decide +kernel
theorem dL_isFilled_21 : decode cL_isFilled 21 = .ok (.iadd, 1) := by decide +kernel
theorem dL_isFilled_22 : decode cL_isFilled 22 = .ok (.ldc 94, 2) := by decide +kernel
theorem dL_isFilled_24 : decode cL_isFilled 24 = .ok (.if_icmp .le 5, 3) := by decide +kernel
theorem dL_isFilled_27 : decode cL_isFilled 27 = .ok (.iconst 1, 1) := by decide +kernel
theorem dL_isFilled_28 : decode cL_isFilled 28 = .ok (.ireturn, 1) := by decide +kernel
theorem dL_isFilled_29 : decode cL_isFilled 29 = .ok (.aload_n 0, 1) := by decide +kernel
theorem dL_isFilled_30 : decode cL_isFilled 30 = .ok (.invokestatic 31, 3) := by decide +kernel
theorem dL_isFilled_33 : decode cL_isFilled 33 = .ok (.lstore_n 2, 1) := by decide +kernel
theorem dL_isFilled_34 : decode cL_isFilled 34 = .ok (.iload_n 1, 1) := by decide +kernel
theorem dL_isFilled_35 : decode cL_isFilled 35 = .ok (.iconst 1, 1) := by decide +kernel
theorem dL_isFilled_36 : decode cL_isFilled 36 = .ok (.if_icmp .eq 28, 3) := by decide +kernel
theorem dL_isFilled_39 : decode cL_isFilled 39 = .ok (.aload_n 0, 1) := by decide +kernel
theorem dL_isFilled_40 : decode cL_isFilled 40 = .ok (.iload_n 1, 1) := by decide +kernel
theorem dL_isFilled_41 : decode cL_isFilled 41 = .ok (.iconst 1, 1) := by decide +kernel
theorem dL_isFilled_42 : decode cL_isFilled 42 = .ok (.isub, 1) := by decide +kernel
theorem dL_isFilled_43 : decode cL_isFilled 43 = .ok (.invokevirtual 40, 3) := by decide +kernel
theorem dL_isFilled_46 : decode cL_isFilled 46 = .ok (.ifCond .le 22, 3) := by decide +kernel
theorem dL_isFilled_49 : decode cL_isFilled 49 = .ok (.aload_n 0, 1) := by decide +kernel
theorem dL_isFilled_50 : decode cL_isFilled 50 = .ok (.invokevirtual 9, 3) := by decide +kernel
theorem dL_isFilled_53 : decode cL_isFilled 53 = .ok (.iconst 1, 1) := by decide +kernel
theorem dL_isFilled_54 : decode cL_isFilled 54 = .ok (.if_icmp .ne 14, 3) := by decide +kernel
theorem dL_isFilled_57 : decode cL_isFilled 57 = .ok (.aload_n 0, 1) := by decide +kernel
theorem dL_isFilled_58 : decode cL_isFilled 58 = .ok (.invokevirtual 90, 3) := by decide +kernel
theorem dL_isFilled_61 : decode cL_isFilled 61 = .ok (.ifCond .lt 7, 3) := by decide +kernel
theorem dL_isFilled_64 : decode cL_isFilled 64 = .ok (.iconst 1, 1) := by decide +kernel
theorem dL_isFilled_65 : decode cL_isFilled 65 = .ok (.goto 4, 3) := by decide +kernel
theorem dL_isFilled_68 : decode cL_isFilled 68 = .ok (.iconst 0, 1) := by decide +kernel
theorem dL_isFilled_69 : decode cL_isFilled 69 = .ok (.istore 4, 2) := by decide +kernel
theorem dL_isFilled_71 : decode cL_isFilled 71 = .ok (.iload 4, 2) := by decide +kernel
theorem dL_isFilled_73 : decode cL_isFilled 73 = .ok (.ifCond .eq 43, 3) := by decide +kernel
theorem dL_isFilled_76 : decode cL_isFilled 76 = .ok (.aload_n 0, 1) := by decide +kernel
theorem dL_isFilled_77 : decode cL_isFilled 77 = .ok (.iload_n 1, 1) := by decide +kernel
theorem dL_isFilled_78 : decode cL_isFilled 78 = .ok (.invokevirtual 40, 3) := by decide +kernel
theorem dL_isFilled_81 : decode cL_isFilled 81 = .ok (.aload_n 0, 1) := by decide +kernel
theorem dL_isFilled_82 : decode cL_isFilled 82 = .ok (.iconst 2, 1) := by decide +kernel
theorem dL_isFilled_83 : decode cL_isFilled 83 = .ok (.invokevirtual 17, 3) := by decide +kernel
theorem dL_isFilled_86 : decode cL_isFilled 86 = .ok (.if_icmp .ne 30, 3) := by decide +kernel
theorem dL_isFilled_89 : decode cL_isFilled 89 = .ok (.aload_n 0, 1) := by decide +kernel
theorem dL_isFilled_90 : decode cL_isFilled 90 = .ok (.invokevirtual 9, 3) := by decide +kernel
theorem dL_isFilled_93 : decode cL_isFilled 93 = .ok (.ifCond .ne 23, 3) := by decide +kernel
theorem dL_isFilled_96 : decode cL_isFilled 96 = .ok (.aload_n 0, 1) := by decide +kernel
theorem dL_isFilled_97 : decode cL_isFilled 97 = .ok (.invokevirtual 90, 3) := by decide +kernel
theorem dL_isFilled_100 : decode cL_isFilled 100 = .ok (.ifCond .lt 16, 3) := by decide +kernel
theorem dL_isFilled_103 : decode cL_isFilled 103 = .ok (.aload_n 0, 1) := by decide +kernel
theorem dL_isFilled_104 : decode cL_isFilled 104 = .ok (.invokestatic 31, 3) := by decide +kernel
theorem dL_isFilled_107 : decode cL_isFilled 107 = .ok (.lload_n 2, 1) := by decide +kernel
theorem dL_isFilled_108 : decode cL_isFilled 108 = .ok (.lcmp, 1) := by decide +kernel
theorem dL_isFilled_109 : decode cL_isFilled 109 = .ok (.ifCond .ne 7, 3) := by decide +kernel
theorem dL_isFilled_112 : decode cL_isFilled 112 = .ok (.iconst 1, 1) := by decide +kernel
theorem dL_isFilled_113 : decode cL_isFilled 113 = .ok (.goto 4, 3) := by decide +kernel
theorem dL_isFilled_116 : decode cL_isFilled 116 = .ok (.iconst 0, 1) := by decide +kernel
theorem dL_isFilled_117 : decode cL_isFilled 117 = .ok (.ireturn, 1) := by decide +kernel
theorem dL_acts_0 : decode cL_acts 0 = .ok (.aload_n 0, 1) := by decide +kernel
theorem dL_acts_1 : decode cL_acts 1 = .ok (.iconst 5, 1) := by decide +kernel
theorem dL_acts_2 : decode cL_acts 2 = .ok (.invokevirtual 17, 3) := by decide +kernel
theorem dL_acts_5 : decode cL_acts 5 = .ok (.istore 4, 2) := by decide +kernel
theorem dL_acts_7 : decode cL_acts 7 = .ok (.iload_n 2, 1) := by decide +kernel
theorem dL_acts_8 : decode cL_acts 8 = .ok (.aload_n 0, 1) := by decide +kernel
theorem dL_acts_9 : decode cL_acts 9 = .ok (.iconst 4, 1) := by decide +kernel
theorem dL_acts_10 : decode cL_acts 10 = .ok (.invokevirtual 17, 3) := by decide +kernel
theorem dL_acts_13 : decode cL_acts 13 = .ok (.invokestatic 95, 3) := by decide +kernel
theorem dL_acts_16 : decode cL_acts 16 = .ok (.istore 5, 2) := by decide +kernel
theorem dL_acts_18 : decode cL_acts 18 = .ok (.iload_n 3, 1) := by decide +kernel
theorem dL_acts_19 : decode cL_acts 19 = .ok (.aload_n 0, 1) := by decide +kernel
theorem dL_acts_20 : decode cL_acts 20 = .ok (.iconst 3, 1) := by decide +kernel
theorem dL_acts_21 : decode cL_acts 21 = .ok (.invokevirtual 17, 3) := by decide +kernel
theorem dL_acts_24 : decode cL_acts 24 = .ok (.invokestatic 95, 3) := by decide +kernel
theorem dL_acts_27 : decode cL_acts 27 = .ok (.istore 6, 2) := by decide +kernel
theorem dL_acts_29 : decode cL_acts 29 = .ok (.aload_n 0, 1) := by decide +kernel
theorem dL_acts_30 : decode cL_acts 30 = .ok (.invokestatic 98, 3) := by decide +kernel
theorem dL_acts_33 : decode cL_acts 33 = .ok (.lstore 7, 2) := by decide +kernel
theorem dL_acts_35 : decode cL_acts 35 = .ok (.iload_n 1, 1) := by decide +kernel
theorem dL_acts_36 : decode cL_acts 36 = .ok (.iconst 4, 1) := by decide +kernel
theorem dL_acts_37 : decode cL_acts 37 = .ok (.if_icmp .lt 8, 3) := by decide +kernel
theorem dL_acts_40 : decode cL_acts 40 = .ok (.iload 4, 2) := by decide +kernel
theorem dL_acts_42 : decode cL_acts 42 = .ok (.ifCond .ne 56, 3) := by decide +kernel
theorem dL_acts_45 : decode cL_acts 45 = .ok (.aload_n 0, 1) := by decide +kernel
theorem dL_acts_46 : decode cL_acts 46 = .ok (.iload 5, 2) := by decide +kernel
theorem dL_acts_48 : decode cL_acts 48 = .ok (.iload 6, 2) := by decide +kernel
theorem dL_acts_50 : decode cL_acts 50 = .ok (.iload_n 2, 1) := by decide +kernel
theorem dL_acts_51 : decode cL_acts 51 = .ok (.iconst 4, 1) := by decide +kernel
theorem dL_acts_52 : decode cL_acts 52 = .ok (.ishr, 1) := by decide +kernel
theorem dL_acts_53 : decode cL_acts 53 = .ok (.iconst 3, 1) := by decide +kernel
theorem dL_acts_54 : decode cL_acts 54 = .ok (.invokestatic 95, 3) := by decide +kernel
