theorem dX4_count_162 : decode cX4_count 162 = .ok (.aload_n 0, 1) := by decide +kernel
theorem dX4_count_163 : decode cX4_count 163 = .ok (.getfield 10, 3) := by decide +kernel
theorem dX4_count_166 : decode cX4_count 166 = .ok (.iconst 3, 1) := by decide +kernel
theorem dX4_count_167 : decode cX4_count 167 = .ok (.invokevirtual 154, 3) := by decide +kernel
theorem dX4_count_170 : decode cX4_count 170 = .ok (.ireturn, 1) := by decide +kernel
theorem dX4_count_171 : decode cX4_count 171 = .ok (.aload_n 0, 1) := by decide +kernel
theorem dX4_count_172 : decode cX4_count 172 = .ok (.getfield 10, 3) := by decide +kernel
theorem dX4_count_175 : decode cX4_count 175 = .ok (.iconst 4, 1) := by decide +kernel
theorem dX4_count_176 : decode cX4_count 176 = .ok (.invokevirtual 154, 3) := by decide +kernel
theorem dX4_count_179 : decode cX4_count 179 = .ok (.ireturn, 1) := by decide +kernel
theorem dX4_count_180 : decode cX4_count 180 = .ok (.aload_n 0, 1) := by decide +kernel
theorem dX4_count_181 : decode cX4_count 181 = .ok (.getfield 10, 3) := by decide +kernel
theorem dX4_count_184 : decode cX4_count 184 = .ok (.iconst 5, 1) := by decide +kernel
theorem dX4_count_185 : decode cX4_count 185 = .ok (.invokevirtual 154, 3) := by decide +kernel
theorem dX4_count_188 : decode cX4_count 188 = .ok (.ireturn, 1) := by decide +kernel
theorem dX4_count_189 : decode cX4_count 189 = .ok (.aload_n 0, 1) := by decide +kernel
theorem dX4_count_190 : decode cX4_count 190 = .ok (.getfield 10, 3) := by decide +kernel
theorem dX4_count_193 : decode cX4_count 193 = .ok (.invokevirtual 157, 3) := by decide +kernel
theorem dX4_count_196 : decode cX4_count 196 = .ok (.ireturn, 1) := by decide +kernel
theorem dX4_count_197 : decode cX4_count 197 = .ok (.aload_n 0, 1) := by decide +kernel
theorem dX4_count_198 : decode cX4_count 198 = .ok (.getfield 10, 3) := by decide +kernel
theorem dX4_count_201 : decode cX4_count 201 = .ok (.getfield 160, 3) := by decide +kernel
theorem dX4_count_204 : decode cX4_count 204 = .ok (.ireturn, 1) := by decide +kernel
theorem dX4_count_205 : decode cX4_count 205 = .ok (.aload_n 0, 1) := by decide +kernel
theorem dX4_count_206 : decode cX4_count 206 = .ok (.getfield 10, 3) := by decide +kernel
theorem dX4_count_209 : decode cX4_count 209 = .ok (.getfield 163, 3) := by decide +kernel
theorem dX4_count_212 : decode cX4_count 212 = .ok (.ireturn, 1) := by decide +kernel
theorem dX4_count_213 : decode cX4_count 213 = .ok (.aload_n 0, 1) := by decide +kernel
theorem dX4_count_214 : decode cX4_count 214 = .ok (.getfield 10, 3) := by decide +kernel
theorem dX4_count_217 : decode cX4_count 217 = .ok (.invokevirtual 166, 3) := by decide +kernel
theorem dX4_count_220 : decode cX4_count 220 = .ok (.ireturn, 1) := by decide +kernel
theorem dX4_count_221 : decode cX4_count 221 = .ok (.aload_n 0, 1) := by decide +kernel
theorem dX4_count_222 : decode cX4_count 222 = .ok (.getfield 31, 3) := by decide +kernel
theorem dX4_count_225 : decode cX4_count 225 = .ok (.ireturn, 1) := by decide +kernel
theorem dX4_count_226 : decode cX4_count 226 = .ok (.sipush (-10001), 3) := by decide +kernel
theorem dX4_count_229 : decode cX4_count 229 = .ok (.ireturn, 1) := by decide +kernel
theorem dX4_asset_0 : decode cX4_asset 0 = .ok (.aload_n 0, 1) := by decide +kernel
theorem dX4_asset_1 : decode cX4_asset 1 = .ok (.getfield 10, 3) := by decide +kernel
theorem dX4_asset_4 : decode cX4_asset 4 = .ok (.iload_n 1, 1) := by decide +kernel
theorem dX4_asset_5 : decode cX4_asset 5 = .ok (.invokevirtual 70, 3) := by decide +kernel
theorem dX4_asset_8 : decode cX4_asset 8 = .ok (.ifCond .ne 7, 3) := by decide +kernel
theorem dX4_asset_11 : decode cX4_asset 11 = .ok (.sipush (-10001), 3) := by decide +kernel
theorem dX4_asset_14 : decode cX4_asset 14 = .ok (.ireturn, 1) := by decide +kernel
theorem dX4_asset_15 : decode cX4_asset 15 = .ok (.aload_n 0, 1) := by decide +kernel
theorem dX4_asset_16 : decode cX4_asset 16 = .ok (.getfield 10, 3) := by decide +kernel
theorem dX4_asset_19 : decode cX4_asset 19 = .ok (.getfield 169, 3) := by decide +kernel
theorem dX4_asset_22 : decode cX4_asset 22 = .ok (.iload_n 1, 1) := by decide +kernel
theorem dX4_asset_23 : decode cX4_asset 23 = .ok (.aaload, 1) := by decide +kernel
theorem dX4_asset_24 : decode cX4_asset 24 = .ok (.astore_n 3, 1) := by decide +kernel
theorem dX4_asset_25 : decode cX4_asset 25 = .ok (.iload_n 2, 1) := by decide +kernel
theorem dX4_asset_26 : decode cX4_asset 26 = .ok (.tableswitch 67 0 4 #[34, 39, 44, 49, 58], 34) := by decide +kernel
theorem dX4_asset_60 : decode cX4_asset 60 = .ok (.aload_n 3, 1) := by decide +kernel
theorem dX4_asset_61 : decode cX4_asset 61 = .ok (.getfield 173, 3) := by decide +kernel
theorem dX4_asset_64 : decode cX4_asset 64 = .ok (.ireturn, 1) := by decide +kernel
theorem dX4_asset_65 : decode cX4_asset 65 = .ok (.aload_n 3, 1) := by decide +kernel
theorem dX4_asset_66 : decode cX4_asset 66 = .ok (.getfield 178, 3) := by decide +kernel
theorem dX4_asset_69 : decode cX4_asset 69 = .ok (.ireturn, 1) := by decide +kernel
theorem dX4_asset_70 : decode cX4_asset 70 = .ok (.aload_n 3, 1) := by decide +kernel
theorem dX4_asset_71 : decode cX4_asset 71 = .ok (.getfield 181, 3) := by decide +kernel
theorem dX4_asset_74 : decode cX4_asset 74 = .ok (.ireturn, 1) := by decide +kernel
theorem dX4_asset_75 : decode cX4_asset 75 = .ok (.aload_n 0, 1) := by decide +kernel
theorem dX4_asset_76 : decode cX4_asset 76 = .ok (.getfield 10, 3) := by decide +kernel
theorem dX4_asset_79 : decode cX4_asset 79 = .ok (.iload_n 1, 1) := by decide +kernel
theorem dX4_asset_80 : decode cX4_asset 80 = .ok (.invokevirtual 184, 3) := by decide +kernel
theorem dX4_asset_83 : decode cX4_asset 83 = .ok (.ireturn, 1) := by decide +kernel
theorem dX4_asset_84 : decode cX4_asset 84 = .ok (.aload_n 0, 1) := by decide +kernel
theorem dX4_asset_85 : decode cX4_asset 85 = .ok (.getfield 10, 3) := by decide +kernel
theorem dX4_asset_88 : decode cX4_asset 88 = .ok (.iload_n 1, 1) := by decide +kernel
theorem dX4_asset_89 : decode cX4_asset 89 = .ok (.invokevirtual 187, 3) := by decide +kernel
theorem dX4_asset_92 : decode cX4_asset 92 = .ok (.ireturn, 1) := by decide +kernel
theorem dX4_asset_93 : decode cX4_asset 93 = .ok (.sipush (-10001), 3) := by decide +kernel
theorem dX4_asset_96 : decode cX4_asset 96 = .ok (.ireturn, 1) := by decide +kernel
theorem dX4_hunter_0 : decode cX4_hunter 0 = .ok (.aload_n 0, 1) := by decide +kernel
theorem dX4_hunter_1 : decode cX4_hunter 1 = .ok (.getfield 10, 3) := by decide +kernel
theorem dX4_hunter_4 : decode cX4_hunter 4 = .ok (.iload_n 1, 1) := by decide +kernel
theorem dX4_hunter_5 : decode cX4_hunter 5 = .ok (.invokevirtual 66, 3) := by decide +kernel
theorem dX4_hunter_8 : decode cX4_hunter 8 = .ok (.ifCond .ne 7, 3) := by decide +kernel
theorem dX4_hunter_11 : decode cX4_hunter 11 = .ok (.sipush (-10001), 3) := by decide +kernel
theorem dX4_hunter_14 : decode cX4_hunter 14 = .ok (.ireturn, 1) := by decide +kernel
theorem dX4_hunter_15 : decode cX4_hunter 15 = .ok (.aload_n 0, 1) := by decide +kernel
theorem dX4_hunter_16 : decode cX4_hunter 16 = .ok (.getfield 10, 3) := by decide +kernel
theorem dX4_hunter_19 : decode cX4_hunter 19 = .ok (.getfield 190, 3) := by decide +kernel
theorem dX4_hunter_22 : decode cX4_hunter 22 = .ok (.iload_n 1, 1) := by decide +kernel
theorem dX4_hunter_23 : decode cX4_hunter 23 = .ok (.aaload, 1) := by decide +kernel
theorem dX4_hunter_24 : decode cX4_hunter 24 = .ok (.astore_n 3, 1) := by decide +kernel
theorem dX4_hunter_25 : decode cX4_hunter 25 = .ok (.iload_n 2, 1) := by decide +kernel
theorem dX4_hunter_26 : decode cX4_hunter 26 = .ok (.tableswitch 76 0 5 #[38, 47, 52, 61, 66, 71], 38) := by decide +kernel
theorem dX4_hunter_64 : decode cX4_hunter 64 = .ok (.aload_n 0, 1) := by decide +kernel
theorem dX4_hunter_65 : decode cX4_hunter 65 = .ok (.getfield 10, 3) := by decide +kernel
theorem dX4_hunter_68 : decode cX4_hunter 68 = .ok (.iload_n 1, 1) := by decide +kernel
theorem dX4_hunter_69 : decode cX4_hunter 69 = .ok (.invokevirtual 194, 3) := by decide +kernel
theorem dX4_hunter_72 : decode cX4_hunter 72 = .ok (.ireturn, 1) := by decide +kernel
theorem dX4_hunter_73 : decode cX4_hunter 73 = .ok (.aload_n 3, 1) := by decide +kernel
theorem dX4_hunter_74 : decode cX4_hunter 74 = .ok (.getfield 197, 3) := by decide +kernel
theorem dX4_hunter_77 : decode cX4_hunter 77 = .ok (.ireturn, 1) := by decide +kernel
theorem dX4_hunter_78 : decode cX4_hunter 78 = .ok (.aload_n 0, 1) := by decide +kernel
theorem dX4_hunter_79 : decode cX4_hunter 79 = .ok (.getfield 10, 3) := by decide +kernel
theorem dX4_hunter_82 : decode cX4_hunter 82 = .ok (.iload_n 1, 1) := by decide +kernel
theorem dX4_hunter_83 : decode cX4_hunter 83 = .ok (.invokevirtual 202, 3) := by decide +kernel
theorem dX4_hunter_86 : decode cX4_hunter 86 = .ok (.ireturn, 1) := by decide +kernel
theorem dX4_hunter_87 : decode cX4_hunter 87 = .ok (.aload_n 3, 1) := by decide +kernel
theorem dX4_hunter_88 : decode cX4_hunter 88 = .ok (.getfield 205, 3) := by decide +kernel
theorem dX4_hunter_91 : decode cX4_hunter 91 = .ok (.ireturn, 1) := by decide +kernel
theorem dX4_hunter_92 : decode cX4_hunter 92 = .ok (.aload_n 3, 1) := by decide +kernel
theorem dX4_hunter_93 : decode cX4_hunter 93 = .ok (.getfield 208, 3) := by decide +kernel
theorem dX4_hunter_96 : decode cX4_hunter 96 = .ok (.ireturn, 1) := by decide +kernel
theorem dX4_hunter_97 : decode cX4_hunter 97 = .ok (.aload_n 3, 1) := by decide +kernel
theorem dX4_hunter_98 : decode cX4_hunter 98 = .ok (.getfield 211, 3) := by decide +kernel
theorem dX4_hunter_101 : decode cX4_hunter 101 = .ok (.ireturn, 1) := by decide +kernel
theorem dX4_hunter_102 : decode cX4_hunter 102 = .ok (.sipush (-10001), 3) := by decide +kernel
theorem dX4_hunter_105 : decode cX4_hunter 105 = .ok (.ireturn, 1) := by decide +kernel
theorem dX4_reportOf_0 : decode cX4_reportOf 0 = .ok (.aload_n 0, 1) := by decide +kernel
theorem dX4_reportOf_1 : decode cX4_reportOf 1 = .ok (.getfield 10, 3) := by decide +kernel
theorem dX4_reportOf_4 : decode cX4_reportOf 4 = .ok (.iload_n 1, 1) := by decide +kernel
theorem dX4_reportOf_5 : decode cX4_reportOf 5 = .ok (.invokevirtual 80, 3) := by decide +kernel
theorem dX4_reportOf_8 : decode cX4_reportOf 8 = .ok (.ifCond .ne 7, 3) := by decide +kernel
theorem dX4_reportOf_11 : decode cX4_reportOf 11 = .ok (.sipush (-10001), 3) := by decide +kernel
theorem dX4_reportOf_14 : decode cX4_reportOf 14 = .ok (.ireturn, 1) := by decide +kernel
theorem dX4_reportOf_15 : decode cX4_reportOf 15 = .ok (.aload_n 0, 1) := by decide +kernel
theorem dX4_reportOf_16 : decode cX4_reportOf 16 = .ok (.getfield 10, 3) := by decide +kernel
theorem dX4_reportOf_19 : decode cX4_reportOf 19 = .ok (.getfield 87, 3) := by decide +kernel
theorem dX4_reportOf_22 : decode cX4_reportOf 22 = .ok (.iload_n 1, 1) := by decide +kernel
theorem dX4_reportOf_23 : decode cX4_reportOf 23 = .ok (.aaload, 1) := by decide +kernel
theorem dX4_reportOf_24 : decode cX4_reportOf 24 = .ok (.astore_n 3, 1) := by decide +kernel
theorem dX4_reportOf_25 : decode cX4_reportOf 25 = .ok (.iload_n 2, 1) := by decide +kernel
theorem dX4_reportOf_26 : decode cX4_reportOf 26 = .ok (.tableswitch 179 0 12 #[66, 71, 76, 81, 86, 104, 109, 118, 140, 145, 150, 158, 166], 66) := by decide +kernel
theorem dX4_reportOf_92 : decode cX4_reportOf 92 = .ok (.aload_n 3, 1) := by decide +kernel
theorem dX4_reportOf_93 : decode cX4_reportOf 93 = .ok (.getfield 214, 3) := by decide +kernel
theorem dX4_reportOf_96 : decode cX4_reportOf 96 = .ok (.ireturn, 1) := by decide +kernel
theorem dX4_reportOf_97 : decode cX4_reportOf 97 = .ok (.aload_n 3, 1) := by decide +kernel
theorem dX4_reportOf_98 : decode cX4_reportOf 98 = .ok (.getfield 217, 3) := by decide +kernel
theorem dX4_reportOf_101 : decode cX4_reportOf 101 = .ok (.ireturn, 1) := by decide +kernel
theorem dX4_reportOf_102 : decode cX4_reportOf 102 = .ok (.aload_n 3, 1) := by decide +kernel
theorem dX4_reportOf_103 : decode cX4_reportOf 103 = .ok (.getfield 220, 3) := by decide +kernel
theorem dX4_reportOf_106 : decode cX4_reportOf 106 = .ok (.ireturn, 1) := by decide +kernel
theorem dX4_reportOf_107 : decode cX4_reportOf 107 = .ok (.aload_n 3, 1) := by decide +kernel
theorem dX4_reportOf_108 : decode cX4_reportOf 108 = .ok (.getfield 91, 3) := by decide +kernel
theorem dX4_reportOf_111 : decode cX4_reportOf 111 = .ok (.ireturn, 1) := by decide +kernel
theorem dX4_reportOf_112 : decode cX4_reportOf 112 = .ok (.aload_n 3, 1) := by decide +kernel
theorem dX4_reportOf_113 : decode cX4_reportOf 113 = .ok (.invokevirtual 223, 3) := by decide +kernel
theorem dX4_reportOf_116 : decode cX4_reportOf 116 = .ok (.ifCond .eq 10, 3) := by decide +kernel
theorem dX4_reportOf_119 : decode cX4_reportOf 119 = .ok (.aload_n 3, 1) := by decide +kernel
theorem dX4_reportOf_120 : decode cX4_reportOf 120 = .ok (.getfield 99, 3) := by decide +kernel
theorem dX4_reportOf_123 : decode cX4_reportOf 123 = .ok (.goto 6, 3) := by decide +kernel
theorem dX4_reportOf_126 : decode cX4_reportOf 126 = .ok (.sipush (-10009), 3) := by decide +kernel
theorem dX4_reportOf_129 : decode cX4_reportOf 129 = .ok (.ireturn, 1) := by decide +kernel
theorem dX4_reportOf_130 : decode cX4_reportOf 130 = .ok (.aload_n 3, 1) := by decide +kernel
theorem dX4_reportOf_131 : decode cX4_reportOf 131 = .ok (.getfield 96, 3) := by decide +kernel
theorem dX4_reportOf_134 : decode cX4_reportOf 134 = .ok (.ireturn, 1) := by decide +kernel
theorem dX4_reportOf_135 : decode cX4_reportOf 135 = .ok (.aload_n 0, 1) := by decide +kernel
theorem dX4_reportOf_136 : decode cX4_reportOf 136 = .ok (.getfield 10, 3) := by decide +kernel
theorem dX4_reportOf_139 : decode cX4_reportOf 139 = .ok (.iload_n 1, 1) := by decide +kernel
theorem dX4_reportOf_140 : decode cX4_reportOf 140 = .ok (.invokevirtual 226, 3) := by decide +kernel
theorem dX4_reportOf_143 : decode cX4_reportOf 143 = .ok (.ireturn, 1) := by decide +kernel
theorem dX4_reportOf_144 : decode cX4_reportOf 144 = .ok (.aload_n 3, 1) := by decide +kernel
theorem dX4_reportOf_145 : decode cX4_reportOf 145 = .ok (.invokevirtual 223, 3) := by decide +kernel
theorem dX4_reportOf_148 : decode cX4_reportOf 148 = .ok (.ifCond .eq 14, 3) := by decide +kernel
theorem dX4_reportOf_151 : decode cX4_reportOf 151 = .ok (.aload_n 0, 1) := by decide +kernel
theorem dX4_reportOf_152 : decode cX4_reportOf 152 = .ok (.getfield 10, 3) := by decide +kernel
theorem dX4_reportOf_155 : decode cX4_reportOf 155 = .ok (.aload_n 3, 1) := by decide +kernel
theorem dX4_reportOf_156 : decode cX4_reportOf 156 = .ok (.invokevirtual 102, 3) := by decide +kernel
theorem dX4_reportOf_159 : decode cX4_reportOf 159 = .ok (.goto 6, 3) := by decide +kernel
theorem dX4_reportOf_162 : decode cX4_reportOf 162 = .ok (.sipush (-10009), 3) := by decide +kernel
theorem dX4_reportOf_165 : decode cX4_reportOf 165 = .ok (.ireturn, 1) := by decide +kernel
theorem dX4_reportOf_166 : decode cX4_reportOf 166 = .ok (.aload_n 3, 1) := by decide +kernel
theorem dX4_reportOf_167 : decode cX4_reportOf 167 = .ok (.getfield 110, 3) := by decide +kernel
theorem dX4_reportOf_170 : decode cX4_reportOf 170 = .ok (.ireturn, 1) := by decide +kernel
theorem dX4_reportOf_171 : decode cX4_reportOf 171 = .ok (.aload_n 3, 1) := by decide +kernel
theorem dX4_reportOf_172 : decode cX4_reportOf 172 = .ok (.getfield 229, 3) := by decide +kernel
theorem dX4_reportOf_175 : decode cX4_reportOf 175 = .ok (.ireturn, 1) := by decide +kernel
theorem dX4_reportOf_176 : decode cX4_reportOf 176 = .ok (.aload_n 3, 1) := by decide +kernel
theorem dX4_reportOf_177 : decode cX4_reportOf 177 = .ok (.getfield 232, 3) := by decide +kernel
theorem dX4_reportOf_180 : decode cX4_reportOf 180 = .ok (.invokestatic 235, 3) := by decide +kernel
theorem dX4_reportOf_183 : decode cX4_reportOf 183 = .ok (.ireturn, 1) := by decide +kernel
theorem dX4_reportOf_184 : decode cX4_reportOf 184 = .ok (.aload_n 3, 1) := by decide +kernel
theorem dX4_reportOf_185 : decode cX4_reportOf 185 = .ok (.getfield 240, 3) := by decide +kernel
theorem dX4_reportOf_188 : decode cX4_reportOf 188 = .ok (.invokestatic 235, 3) := by decide +kernel
theorem dX4_reportOf_191 : decode cX4_reportOf 191 = .ok (.ireturn, 1) := by decide +kernel
theorem dX4_reportOf_192 : decode cX4_reportOf 192 = .ok (.aload_n 3, 1) := by decide +kernel
theorem dX4_reportOf_193 : decode cX4_reportOf 193 = .ok (.getfield 129, 3) := by decide +kernel
theorem dX4_reportOf_196 : decode cX4_reportOf 196 = .ok (.ifCond .eq 7, 3) := by decide +kernel
theorem dX4_reportOf_199 : decode cX4_reportOf 199 = .ok (.iconst 1, 1) := by decide +kernel
theorem dX4_reportOf_200 : decode cX4_reportOf 200 = .ok (.goto 4, 3) := by decide +kernel
theorem dX4_reportOf_203 : decode cX4_reportOf 203 = .ok (.iconst 0, 1) := by decide +kernel
theorem dX4_reportOf_204 : decode cX4_reportOf 204 = .ok (.ireturn, 1) := by decide +kernel
theorem dX4_reportOf_205 : decode cX4_reportOf 205 = .ok (.sipush (-10001), 3) := by decide +kernel
theorem dX4_reportOf_208 : decode cX4_reportOf 208 = .ok (.ireturn, 1) := by decide +kernel
theorem dX4_original_0 : decode cX4_original 0 = .ok (.aload_n 0, 1) := by decide +kernel
theorem dX4_original_1 : decode cX4_original 1 = .ok (.getfield 10, 3) := by decide +kernel
theorem dX4_original_4 : decode cX4_original 4 = .ok (.iload_n 1, 1) := by decide +kernel
theorem dX4_original_5 : decode cX4_original 5 = .ok (.invokevirtual 80, 3) := by decide +kernel
theorem dX4_original_8 : decode cX4_original 8 = .ok (.ifCond .ne 7, 3) := by decide +kernel
theorem dX4_original_11 : decode cX4_original 11 = .ok (.sipush (-10001), 3) := by decide +kernel
theorem dX4_original_14 : decode cX4_original 14 = .ok (.ireturn, 1) := by decide +kernel
theorem dX4_original_15 : decode cX4_original 15 = .ok (.aload_n 0, 1) := by decide +kernel
theorem dX4_original_16 : decode cX4_original 16 = .ok (.getfield 10, 3) := by decide +kernel
theorem dX4_original_19 : decode cX4_original 19 = .ok (.iload_n 1, 1) := by decide +kernel
theorem dX4_original_20 : decode cX4_original 20 = .ok (.invokevirtual 83, 3) := by decide +kernel
theorem dX4_original_23 : decode cX4_original 23 = .ok (.ireturn, 1) := by decide +kernel
theorem dX4_lack_0 : decode cX4_lack 0 = .ok (.iconst 0, 1) := by decide +kernel
theorem dX4_lack_1 : decode cX4_lack 1 = .ok (.istore_n 1, 1) := by decide +kernel
theorem dX4_lack_2 : decode cX4_lack 2 = .ok (.iconst 0, 1) := by decide +kernel
theorem dX4_lack_3 : decode cX4_lack 3 = .ok (.istore_n 2, 1) := by decide +kernel
theorem dX4_lack_4 : decode cX4_lack 4 = .ok (.iload_n 2, 1) := by decide +kernel
theorem dX4_lack_5 : decode cX4_lack 5 = .ok (.aload_n 0, 1) := by decide +kernel
theorem dX4_lack_6 : decode cX4_lack 6 = .ok (.getfield 10, 3) := by decide +kernel
theorem dX4_lack_9 : decode cX4_lack 9 = .ok (.getfield 38, 3) := by decide +kernel
theorem dX4_lack_12 : decode cX4_lack 12 = .ok (.if_icmp .ge 37, 3) := by decide +kernel
theorem dX4_lack_15 : decode cX4_lack 15 = .ok (.iload_n 1, 1) := by decide +kernel
theorem dX4_lack_16 : decode cX4_lack 16 = .ok (.iconst 0, 1) := by decide +kernel
theorem dX4_lack_17 : decode cX4_lack 17 = .ok (.aload_n 0, 1) := by decide +kernel
theorem dX4_lack_18 : decode cX4_lack 18 = .ok (.getfield 10, 3) := by decide +kernel
theorem dX4_lack_21 : decode cX4_lack 21 = .ok (.iload_n 2, 1) := by decide +kernel
theorem dX4_lack_22 : decode cX4_lack 22 = .ok (.invokevirtual 187, 3) := by decide +kernel
theorem dX4_lack_25 : decode cX4_lack 25 = .ok (.aload_n 0, 1) := by decide +kernel
theorem dX4_lack_26 : decode cX4_lack 26 = .ok (.getfield 10, 3) := by decide +kernel
theorem dX4_lack_29 : decode cX4_lack 29 = .ok (.getfield 169, 3) := by decide +kernel
theorem dX4_lack_32 : decode cX4_lack 32 = .ok (.iload_n 2, 1) := by decide +kernel
theorem dX4_lack_33 : decode cX4_lack 33 = .ok (.aaload, 1) := by decide +kernel
theorem dX4_lack_34 : decode cX4_lack 34 = .ok (.getfield 181, 3) := by decide +kernel
theorem dX4_lack_37 : decode cX4_lack 37 = .ok (.isub, 1) := by decide +kernel
theorem dX4_lack_38 : decode cX4_lack 38 = .ok (.invokestatic 243, 3) := by decide +kernel
theorem dX4_lack_41 : decode cX4_lack 41 = .ok (.iadd, 1) := by decide +kernel
theorem dX4_lack_42 : decode cX4_lack 42 = .ok (.istore_n 1, 1) := by decide +kernel
theorem dX4_lack_43 : decode cX4_lack 43 = .ok (.iinc 2 1, 3) := by decide +kernel
theorem dX4_lack_46 : decode cX4_lack 46 = .ok (.goto (-42), 3) := by decide +kernel
theorem dX4_lack_49 : decode cX4_lack 49 = .ok (.iconst 0, 1) := by decide +kernel
theorem dX4_lack_50 : decode cX4_lack 50 = .ok (.iload_n 1, 1) := by decide +kernel
theorem dX4_lack_51 : decode cX4_lack 51 = .ok (.aload_n 0, 1) := by decide +kernel
theorem dX4_lack_52 : decode cX4_lack 52 = .ok (.getfield 10, 3) := by decide +kernel
theorem dX4_lack_55 : decode cX4_lack 55 = .ok (.getfield 56, 3) := by decide +kernel
theorem dX4_lack_58 : decode cX4_lack 58 = .ok (.isub, 1) := by decide +kernel
theorem dX4_lack_59 : decode cX4_lack 59 = .ok (.invokestatic 243, 3) := by decide +kernel
theorem dX4_lack_62 : decode cX4_lack 62 = .ok (.ireturn, 1) := by decide +kernel
theorem dX4_best_0 : decode cX4_best 0 = .ok (.iload_n 1, 1) := by decide +kernel
theorem dX4_best_1 : decode cX4_best 1 = .ok (.ifCond .ge 7, 3) := by decide +kernel
theorem dX4_best_4 : decode cX4_best 4 = .ok (.sipush (-10001), 3) := by decide +kernel
theorem dX4_best_7 : decode cX4_best 7 = .ok (.ireturn, 1) := by decide +kernel
theorem dX4_best_8 : decode cX4_best 8 = .ok (.iconst 0, 1) := by decide +kernel
theorem dX4_best_9 : decode cX4_best 9 = .ok (.istore_n 2, 1) := by decide +kernel
theorem dX4_best_10 : decode cX4_best 10 = .ok (.iload_n 2, 1) := by decide +kernel
theorem dX4_best_11 : decode cX4_best 11 = .ok (.aload_n 0, 1) := by decide +kernel
theorem dX4_best_12 : decode cX4_best 12 = .ok (.getfield 10, 3) := by decide +kernel
theorem dX4_best_15 : decode cX4_best 15 = .ok (.getfield 48, 3) := by decide +kernel
theorem dX4_best_18 : decode cX4_best 18 = .ok (.if_icmp .ge 23, 3) := by decide +kernel
theorem dX4_best_21 : decode cX4_best 21 = .ok (.aload_n 0, 1) := by decide +kernel
theorem dX4_best_22 : decode cX4_best 22 = .ok (.getfield 23, 3) := by decide +kernel
theorem dX4_best_25 : decode cX4_best 25 = .ok (.iload_n 2, 1) := by decide +kernel
theorem dX4_best_26 : decode cX4_best 26 = .ok (.aload_n 0, 1) := by decide +kernel
theorem dX4_best_27 : decode cX4_best 27 = .ok (.getfield 10, 3) := by decide +kernel
theorem dX4_best_30 : decode cX4_best 30 = .ok (.iload_n 2, 1) := by decide +kernel
theorem dX4_best_31 : decode cX4_best 31 = .ok (.invokevirtual 202, 3) := by decide +kernel
theorem dX4_best_34 : decode cX4_best 34 = .ok (.iastore, 1) := by decide +kernel
theorem dX4_best_35 : decode cX4_best 35 = .ok (.iinc 2 1, 3) := by decide +kernel
theorem dX4_best_38 : decode cX4_best 38 = .ok (.goto (-28), 3) := by decide +kernel
theorem dX4_best_41 : decode cX4_best 41 = .ok (.iconst 0, 1) := by decide +kernel
theorem dX4_best_42 : decode cX4_best 42 = .ok (.istore_n 2, 1) := by decide +kernel
theorem dX4_best_43 : decode cX4_best 43 = .ok (.iload_n 2, 1) := by decide +kernel
theorem dX4_best_44 : decode cX4_best 44 = .ok (.aload_n 0, 1) := by decide +kernel
theorem dX4_best_45 : decode cX4_best 45 = .ok (.getfield 10, 3) := by decide +kernel
theorem dX4_best_48 : decode cX4_best 48 = .ok (.getfield 48, 3) := by decide +kernel
theorem dX4_best_51 : decode cX4_best 51 = .ok (.if_icmp .ge 20, 3) := by decide +kernel
theorem dX4_best_54 : decode cX4_best 54 = .ok (.aload_n 0, 1) := by decide +kernel
theorem dX4_best_55 : decode cX4_best 55 = .ok (.iload_n 2, 1) := by decide +kernel
theorem dX4_best_56 : decode cX4_best 56 = .ok (.invokevirtual 248, 3) := by decide +kernel
theorem dX4_best_59 : decode cX4_best 59 = .ok (.iload_n 1, 1) := by decide +kernel
theorem dX4_best_60 : decode cX4_best 60 = .ok (.if_icmp .ne 5, 3) := by decide +kernel
theorem dX4_best_63 : decode cX4_best 63 = .ok (.iload_n 2, 1) := by decide +kernel
theorem dX4_best_64 : decode cX4_best 64 = .ok (.ireturn, 1) := by decide +kernel
theorem dX4_best_65 : decode cX4_best 65 = .ok (.iinc 2 1, 3) := by decide +kernel
theorem dX4_best_68 : decode cX4_best 68 = .ok (.goto (-25), 3) := by decide +kernel
theorem dX4_best_71 : decode cX4_best 71 = .ok (.sipush (-10009), 3) := by decide +kernel
theorem dX4_best_74 : decode cX4_best 74 = .ok (.ireturn, 1) := by decide +kernel
theorem dX4_paidIn_0 : decode cX4_paidIn 0 = .ok (.aload_n 0, 1) := by decide +kernel
theorem dX4_paidIn_1 : decode cX4_paidIn 1 = .ok (.getfield 10, 3) := by decide +kernel
theorem dX4_paidIn_4 : decode cX4_paidIn 4 = .ok (.iload_n 1, 1) := by decide +kernel
theorem dX4_paidIn_5 : decode cX4_paidIn 5 = .ok (.invokevirtual 80, 3) := by decide +kernel
theorem dX4_paidIn_8 : decode cX4_paidIn 8 = .ok (.ifCond .ne 7, 3) := by decide +kernel
theorem dX4_paidIn_11 : decode cX4_paidIn 11 = .ok (.sipush (-10001), 3) := by decide +kernel
theorem dX4_paidIn_14 : decode cX4_paidIn 14 = .ok (.ireturn, 1) := by decide +kernel
theorem dX4_paidIn_15 : decode cX4_paidIn 15 = .ok (.aload_n 0, 1) := by decide +kernel
theorem dX4_paidIn_16 : decode cX4_paidIn 16 = .ok (.getfield 10, 3) := by decide +kernel
theorem dX4_paidIn_19 : decode cX4_paidIn 19 = .ok (.getfield 87, 3) := by decide +kernel
theorem dX4_paidIn_22 : decode cX4_paidIn 22 = .ok (.iload_n 1, 1) := by decide +kernel
theorem dX4_paidIn_23 : decode cX4_paidIn 23 = .ok (.aaload, 1) := by decide +kernel
theorem dX4_paidIn_24 : decode cX4_paidIn 24 = .ok (.getfield 91, 3) := by decide +kernel
theorem dX4_paidIn_27 : decode cX4_paidIn 27 = .ok (.iconst 2, 1) := by decide +kernel
theorem dX4_paidIn_28 : decode cX4_paidIn 28 = .ok (.if_icmp .eq 7, 3) := by decide +kernel
theorem dX4_paidIn_31 : decode cX4_paidIn 31 = .ok (.sipush (-10002), 3) := by decide +kernel
theorem dX4_paidIn_34 : decode cX4_paidIn 34 = .ok (.ireturn, 1) := by decide +kernel
theorem dX4_paidIn_35 : decode cX4_paidIn 35 = .ok (.aload_n 0, 1) := by decide +kernel
theorem dX4_paidIn_36 : decode cX4_paidIn 36 = .ok (.getfield 16, 3) := by decide +kernel
theorem dX4_paidIn_39 : decode cX4_paidIn 39 = .ok (.aload_n 0, 1) := by decide +kernel
theorem dX4_paidIn_40 : decode cX4_paidIn 40 = .ok (.getfield 10, 3) := by decide +kernel
theorem dX4_paidIn_43 : decode cX4_paidIn 43 = .ok (.invokevirtual 150, 3) := by decide +kernel
theorem dX4_paidIn_46 : decode cX4_paidIn 46 = .ok (.aload_n 0, 1) := by decide +kernel
theorem dX4_paidIn_47 : decode cX4_paidIn 47 = .ok (.getfield 10, 3) := by decide +kernel
theorem dX4_paidIn_50 : decode cX4_paidIn 50 = .ok (.getfield 144, 3) := by decide +kernel
theorem dX4_paidIn_53 : decode cX4_paidIn 53 = .ok (.bipush 90, 2) := by decide +kernel
theorem dX4_paidIn_55 : decode cX4_paidIn 55 = .ok (.idiv, 1) := by decide +kernel
theorem dX4_paidIn_56 : decode cX4_paidIn 56 = .ok (.istore_n 2, 1) := by decide +kernel
theorem dX4_paidIn_57 : decode cX4_paidIn 57 = .ok (.iconst 1, 1) := by decide +kernel
theorem dX4_paidIn_58 : decode cX4_paidIn 58 = .ok (.istore_n 3, 1) := by decide +kernel
theorem dX4_paidIn_59 : decode cX4_paidIn 59 = .ok (.iload_n 3, 1) := by decide +kernel
theorem dX4_paidIn_60 : decode cX4_paidIn 60 = .ok (.bipush 12, 2) := by decide +kernel
theorem dX4_paidIn_62 : decode cX4_paidIn 62 = .ok (.if_icmp .gt 48, 3) := by decide +kernel
theorem dX4_paidIn_65 : decode cX4_paidIn 65 = .ok (.aload_n 0, 1) := by decide +kernel
theorem dX4_paidIn_66 : decode cX4_paidIn 66 = .ok (.getfield 16, 3) := by decide +kernel
theorem dX4_paidIn_69 : decode cX4_paidIn 69 = .ok (.invokevirtual 147, 3) := by decide +kernel
theorem dX4_paidIn_72 : decode cX4_paidIn 72 = .ok (.pop, 1) := by decide +kernel
theorem dX4_paidIn_73 : decode cX4_paidIn 73 = .ok (.aload_n 0, 1) := by decide +kernel
theorem dX4_paidIn_74 : decode cX4_paidIn 74 = .ok (.getfield 16, 3) := by decide +kernel
theorem dX4_paidIn_77 : decode cX4_paidIn 77 = .ok (.getfield 87, 3) := by decide +kernel
theorem dX4_paidIn_80 : decode cX4_paidIn 80 = .ok (.iload_n 1, 1) := by decide +kernel
theorem dX4_paidIn_81 : decode cX4_paidIn 81 = .ok (.aaload, 1) := by decide +kernel
theorem dX4_paidIn_82 : decode cX4_paidIn 82 = .ok (.getfield 91, 3) := by decide +kernel
theorem dX4_paidIn_85 : decode cX4_paidIn 85 = .ok (.iconst 3, 1) := by decide +kernel
theorem dX4_paidIn_86 : decode cX4_paidIn 86 = .ok (.if_icmp .ne 18, 3) := by decide +kernel
theorem dX4_paidIn_89 : decode cX4_paidIn 89 = .ok (.iload_n 2, 1) := by decide +kernel
theorem dX4_paidIn_90 : decode cX4_paidIn 90 = .ok (.iload_n 3, 1) := by decide +kernel
theorem dX4_paidIn_91 : decode cX4_paidIn 91 = .ok (.iadd, 1) := by decide +kernel
theorem dX4_paidIn_92 : decode cX4_paidIn 92 = .ok (.bipush 90, 2) := by decide +kernel
theorem dX4_paidIn_94 : decode cX4_paidIn 94 = .ok (.imul, 1) := by decide +kernel
theorem dX4_paidIn_95 : decode cX4_paidIn 95 = .ok (.aload_n 0, 1) := by decide +kernel
theorem dX4_paidIn_96 : decode cX4_paidIn 96 = .ok (.getfield 10, 3) := by decide +kernel
theorem dX4_paidIn_99 : decode cX4_paidIn 99 = .ok (.getfield 144, 3) := by decide +kernel
theorem dX4_paidIn_102 : decode cX4_paidIn 102 = .ok (.isub, 1) := by decide +kernel
theorem dX4_paidIn_103 : decode cX4_paidIn 103 = .ok (.ireturn, 1) := by decide +kernel
theorem dX4_paidIn_104 : decode cX4_paidIn 104 = .ok (.iinc 3 1, 3) := by decide +kernel
theorem dX4_paidIn_107 : decode cX4_paidIn 107 = .ok (.goto (-48), 3) := by decide +kernel
theorem dX4_paidIn_110 : decode cX4_paidIn 110 = .ok (.sipush (-10009), 3) := by decide +kernel
theorem dX4_paidIn_113 : decode cX4_paidIn 113 = .ok (.ireturn, 1) := by decide +kernel
theorem dX4_isOutside_0 : decode cX4_isOutside 0 = .ok (.iload_n 0, 1) := by decide +kernel
theorem dX4_isOutside_1 : decode cX4_isOutside 1 = .ok (.iload_n 1, 1) := by decide +kernel
theorem dX4_isOutside_2 : decode cX4_isOutside 2 = .ok (.if_icmp .lt 8, 3) := by decide +kernel
theorem dX4_isOutside_5 : decode cX4_isOutside 5 = .ok (.iload_n 0, 1) := by decide +kernel
theorem dX4_isOutside_6 : decode cX4_isOutside 6 = .ok (.iload_n 2, 1) := by decide +kernel
theorem dX4_isOutside_7 : decode cX4_isOutside 7 = .ok (.if_icmp .le 7, 3) := by decide +kernel
theorem dX4_isOutside_10 : decode cX4_isOutside 10 = .ok (.iconst 1, 1) := by decide +kernel
theorem dX4_isOutside_11 : decode cX4_isOutside 11 = .ok (.goto 4, 3) := by decide +kernel
theorem dX4_isOutside_14 : decode cX4_isOutside 14 = .ok (.iconst 0, 1) := by decide +kernel
theorem dX4_isOutside_15 : decode cX4_isOutside 15 = .ok (.ireturn, 1) := by decide +kernel
theorem dX4_remember_0 : decode cX4_remember 0 = .ok (.aload_n 0, 1) := by decide +kernel
theorem dX4_remember_1 : decode cX4_remember 1 = .ok (.getfield 19, 3) := by decide +kernel
theorem dX4_remember_4 : decode cX4_remember 4 = .ok (.aload_n 0, 1) := by decide +kernel
theorem dX4_remember_5 : decode cX4_remember 5 = .ok (.getfield 27, 3) := by decide +kernel
theorem dX4_remember_8 : decode cX4_remember 8 = .ok (.aaload, 1) := by decide +kernel
theorem dX4_remember_9 : decode cX4_remember 9 = .ok (.aload_n 0, 1) := by decide +kernel
theorem dX4_remember_10 : decode cX4_remember 10 = .ok (.getfield 10, 3) := by decide +kernel
theorem dX4_remember_13 : decode cX4_remember 13 = .ok (.invokevirtual 150, 3) := by decide +kernel
theorem dX4_remember_16 : decode cX4_remember 16 = .ok (.aload_n 0, 1) := by decide +kernel
theorem dX4_remember_17 : decode cX4_remember 17 = .ok (.aload_n 0, 1) := by decide +kernel
theorem dX4_remember_18 : decode cX4_remember 18 = .ok (.getfield 27, 3) := by decide +kernel
theorem dX4_remember_21 : decode cX4_remember 21 = .ok (.bipush 7, 2) := by decide +kernel
theorem dX4_remember_23 : decode cX4_remember 23 = .ok (.if_icmp .ne 7, 3) := by decide +kernel
theorem dX4_remember_26 : decode cX4_remember 26 = .ok (.iconst 0, 1) := by decide +kernel
theorem dX4_remember_27 : decode cX4_remember 27 = .ok (.goto 9, 3) := by decide +kernel
theorem dX4_remember_30 : decode cX4_remember 30 = .ok (.aload_n 0, 1) := by decide +kernel
theorem dX4_remember_31 : decode cX4_remember 31 = .ok (.getfield 27, 3) := by decide +kernel
theorem dX4_remember_34 : decode cX4_remember 34 = .ok (.iconst 1, 1) := by decide +kernel
theorem dX4_remember_35 : decode cX4_remember 35 = .ok (.iadd, 1) := by decide +kernel
theorem dX4_remember_36 : decode cX4_remember 36 = .ok (.putfield 27, 3) := by decide +kernel
theorem dX4_remember_39 : decode cX4_remember 39 = .ok (.aload_n 0, 1) := by decide +kernel
theorem dX4_remember_40 : decode cX4_remember 40 = .ok (.aload_n 0, 1) := by decide +kernel
theorem dX4_remember_41 : decode cX4_remember 41 = .ok (.getfield 31, 3) := by decide +kernel
theorem dX4_remember_44 : decode cX4_remember 44 = .ok (.iconst 1, 1) := by decide +kernel
theorem dX4_remember_45 : decode cX4_remember 45 = .ok (.iadd, 1) := by decide +kernel
theorem dX4_remember_46 : decode cX4_remember 46 = .ok (.bipush 8, 2) := by decide +kernel
theorem dX4_remember_48 : decode cX4_remember 48 = .ok (.invokestatic 251, 3) := by decide +kernel
theorem dX4_remember_51 : decode cX4_remember 51 = .ok (.putfield 31, 3) := by decide +kernel
theorem dX4_remember_54 : decode cX4_remember 54 = .ok (.return_, 1) := by decide +kernel
theorem dX4_huntersAheadOf_0 : decode cX4_huntersAheadOf 0 = .ok (.iconst 0, 1) := by decide +kernel
theorem dX4_huntersAheadOf_1 : decode cX4_huntersAheadOf 1 = .ok (.istore_n 2, 1) := by decide +kernel
theorem dX4_huntersAheadOf_2 : decode cX4_huntersAheadOf 2 = .ok (.iconst 0, 1) := by decide +kernel
theorem dX4_huntersAheadOf_3 : decode cX4_huntersAheadOf 3 = .ok (.istore_n 3, 1) := by decide +kernel
theorem dX4_huntersAheadOf_4 : decode cX4_huntersAheadOf 4 = .ok (.iload_n 3, 1) := by decide +kernel
theorem dX4_huntersAheadOf_5 : decode cX4_huntersAheadOf 5 = .ok (.aload_n 0, 1) := by decide +kernel
theorem dX4_huntersAheadOf_6 : decode cX4_huntersAheadOf 6 = .ok (.getfield 10, 3) := by decide +kernel
theorem dX4_huntersAheadOf_9 : decode cX4_huntersAheadOf 9 = .ok (.getfield 48, 3) := by decide +kernel
theorem dX4_huntersAheadOf_12 : decode cX4_huntersAheadOf 12 = .ok (.if_icmp .ge 21, 3) := by decide +kernel
theorem dX4_huntersAheadOf_15 : decode cX4_huntersAheadOf 15 = .ok (.aload_n 0, 1) := by decide +kernel
theorem dX4_huntersAheadOf_16 : decode cX4_huntersAheadOf 16 = .ok (.iload_n 3, 1) := by decide +kernel
theorem dX4_huntersAheadOf_17 : decode cX4_huntersAheadOf 17 = .ok (.iload_n 1, 1) := by decide +kernel
theorem dX4_huntersAheadOf_18 : decode cX4_huntersAheadOf 18 = .ok (.invokevirtual 254, 3) := by decide +kernel
theorem dX4_huntersAheadOf_21 : decode cX4_huntersAheadOf 21 = .ok (.ifCond .eq 6, 3) := by decide +kernel
theorem dX4_huntersAheadOf_24 : decode cX4_huntersAheadOf 24 = .ok (.iinc 2 1, 3) := by decide +kernel
theorem dX4_huntersAheadOf_27 : decode cX4_huntersAheadOf 27 = .ok (.iinc 3 1, 3) := by decide +kernel
theorem dX4_huntersAheadOf_30 : decode cX4_huntersAheadOf 30 = .ok (.goto (-26), 3) := by decide +kernel
theorem dX4_huntersAheadOf_33 : decode cX4_huntersAheadOf 33 = .ok (.iload_n 2, 1) := by decide +kernel
theorem dX4_huntersAheadOf_34 : decode cX4_huntersAheadOf 34 = .ok (.ireturn, 1) := by decide +kernel
theorem dX4_isAhead_0 : decode cX4_isAhead 0 = .ok (.aload_n 0, 1) := by decide +kernel
theorem dX4_isAhead_1 : decode cX4_isAhead 1 = .ok (.getfield 23, 3) := by decide +kernel
theorem dX4_isAhead_4 : decode cX4_isAhead 4 = .ok (.iload_n 1, 1) := by decide +kernel
theorem dX4_isAhead_5 : decode cX4_isAhead 5 = .ok (.iaload, 1) := by decide +kernel
theorem dX4_isAhead_6 : decode cX4_isAhead 6 = .ok (.aload_n 0, 1) := by decide +kernel
theorem dX4_isAhead_7 : decode cX4_isAhead 7 = .ok (.getfield 23, 3) := by decide +kernel
theorem dX4_isAhead_10 : decode cX4_isAhead 10 = .ok (.iload_n 2, 1) := by decide +kernel
theorem dX4_isAhead_11 : decode cX4_isAhead 11 = .ok (.iaload, 1) := by decide +kernel
theorem dX4_isAhead_12 : decode cX4_isAhead 12 = .ok (.if_icmp .eq 24, 3) := by decide +kernel
theorem dX4_isAhead_15 : decode cX4_isAhead 15 = .ok (.aload_n 0, 1) := by decide +kernel
theorem dX4_isAhead_16 : decode cX4_isAhead 16 = .ok (.getfield 23, 3) := by decide +kernel
theorem dX4_isAhead_19 : decode cX4_isAhead 19 = .ok (.iload_n 1, 1) := by decide +kernel
theorem dX4_isAhead_20 : decode cX4_isAhead 20 = .ok (.iaload, 1) := by decide +kernel
theorem dX4_isAhead_21 : decode cX4_isAhead 21 = .ok (.aload_n 0, 1) := by decide +kernel
theorem dX4_isAhead_22 : decode cX4_isAhead 22 = .ok (.getfield 23, 3) := by decide +kernel
theorem dX4_isAhead_25 : decode cX4_isAhead 25 = .ok (.iload_n 2, 1) := by decide +kernel
theorem dX4_isAhead_26 : decode cX4_isAhead 26 = .ok (.iaload, 1) := by decide +kernel
theorem dX4_isAhead_27 : decode cX4_isAhead 27 = .ok (.if_icmp .le 7, 3) := by decide +kernel
theorem dX4_isAhead_30 : decode cX4_isAhead 30 = .ok (.iconst 1, 1) := by decide +kernel
theorem dX4_isAhead_31 : decode cX4_isAhead 31 = .ok (.goto 4, 3) := by decide +kernel
theorem dX4_isAhead_34 : decode cX4_isAhead 34 = .ok (.iconst 0, 1) := by decide +kernel
theorem dX4_isAhead_35 : decode cX4_isAhead 35 = .ok (.ireturn, 1) := by decide +kernel
theorem dX4_isAhead_36 : decode cX4_isAhead 36 = .ok (.aload_n 0, 1) := by decide +kernel
theorem dX4_isAhead_37 : decode cX4_isAhead 37 = .ok (.getfield 10, 3) := by decide +kernel
theorem dX4_isAhead_40 : decode cX4_isAhead 40 = .ok (.getfield 190, 3) := by decide +kernel
theorem dX4_isAhead_43 : decode cX4_isAhead 43 = .ok (.iload_n 1, 1) := by decide +kernel
theorem dX4_isAhead_44 : decode cX4_isAhead 44 = .ok (.aaload, 1) := by decide +kernel
theorem dX4_isAhead_45 : decode cX4_isAhead 45 = .ok (.getfield 197, 3) := by decide +kernel
theorem dX4_isAhead_48 : decode cX4_isAhead 48 = .ok (.istore_n 3, 1) := by decide +kernel
theorem dX4_isAhead_49 : decode cX4_isAhead 49 = .ok (.aload_n 0, 1) := by decide +kernel
theorem dX4_isAhead_50 : decode cX4_isAhead 50 = .ok (.getfield 10, 3) := by decide +kernel
theorem dX4_isAhead_53 : decode cX4_isAhead 53 = .ok (.getfield 190, 3) := by decide +kernel
theorem dX4_isAhead_56 : decode cX4_isAhead 56 = .ok (.iload_n 2, 1) := by decide +kernel
theorem dX4_isAhead_57 : decode cX4_isAhead 57 = .ok (.aaload, 1) := by decide +kernel
theorem dX4_isAhead_58 : decode cX4_isAhead 58 = .ok (.getfield 197, 3) := by decide +kernel
theorem dX4_isAhead_61 : decode cX4_isAhead 61 = .ok (.istore 4, 2) := by decide +kernel
theorem dX4_isAhead_63 : decode cX4_isAhead 63 = .ok (.iload_n 3, 1) := by decide +kernel
theorem dX4_isAhead_64 : decode cX4_isAhead 64 = .ok (.iload 4, 2) := by decide +kernel
theorem dX4_isAhead_66 : decode cX4_isAhead 66 = .ok (.if_icmp .eq 17, 3) := by decide +kernel
theorem dX4_isAhead_69 : decode cX4_isAhead 69 = .ok (.iload_n 3, 1) := by decide +kernel
theorem dX4_isAhead_70 : decode cX4_isAhead 70 = .ok (.iload 4, 2) := by decide +kernel
theorem dX4_isAhead_72 : decode cX4_isAhead 72 = .ok (.if_icmp .le 7, 3) := by decide +kernel
theorem dX4_isAhead_75 : decode cX4_isAhead 75 = .ok (.iconst 1, 1) := by decide +kernel
theorem dX4_isAhead_76 : decode cX4_isAhead 76 = .ok (.goto 17, 3) := by decide +kernel
theorem dX4_isAhead_79 : decode cX4_isAhead 79 = .ok (.iconst 0, 1) := by decide +kernel
theorem dX4_isAhead_80 : decode cX4_isAhead 80 = .ok (.goto 13, 3) := by decide +kernel
theorem dX4_isAhead_83 : decode cX4_isAhead 83 = .ok (.iload_n 1, 1) := by decide +kernel
theorem dX4_isAhead_84 : decode cX4_isAhead 84 = .ok (.iload_n 2, 1) := by decide +kernel
theorem dX4_isAhead_85 : decode cX4_isAhead 85 = .ok (.if_icmp .ge 7, 3) := by decide +kernel
theorem dX4_isAhead_88 : decode cX4_isAhead 88 = .ok (.iconst 1, 1) := by decide +kernel
theorem dX4_isAhead_89 : decode cX4_isAhead 89 = .ok (.goto 4, 3) := by decide +kernel
theorem dX4_isAhead_92 : decode cX4_isAhead 92 = .ok (.iconst 0, 1) := by decide +kernel
theorem dX4_isAhead_93 : decode cX4_isAhead 93 = .ok (.ireturn, 1) := by decide +kernel
theorem dX5_init_0 : decode cX5_init 0 = .ok (.aload_n 0, 1) := by decide +kernel
theorem dX5_init_1 : decode cX5_init 1 = .ok (.invokespecial 1, 3) := by decide +kernel
theorem dX5_init_4 : decode cX5_init 4 = .ok (.aload_n 0, 1) := by decide +kernel
theorem dX5_init_5 : decode cX5_init 5 = .ok (.sipush 539, 3) := by decide +kernel
theorem dX5_init_8 : decode cX5_init 8 = .ok (.newarray .int, 2) := by decide +kernel
theorem dX5_init_10 : decode cX5_init 10 = .ok (.putfield 7, 3) := by decide +kernel
theorem dX5_init_13 : decode cX5_init 13 = .ok (.aload_n 0, 1) := by decide +kernel
theorem dX5_init_14 : decode cX5_init 14 = .ok (.sipush 4312, 3) := by decide +kernel
theorem dX5_init_17 : decode cX5_init 17 = .ok (.newarray .int, 2) := by decide +kernel
theorem dX5_init_19 : decode cX5_init 19 = .ok (.putfield 13, 3) := by decide +kernel
theorem dX5_init_22 : decode cX5_init 22 = .ok (.aload_n 0, 1) := by decide +kernel
theorem dX5_init_23 : decode cX5_init 23 = .ok (.sipush 539, 3) := by decide +kernel
theorem dX5_init_26 : decode cX5_init 26 = .ok (.newarray .int, 2) := by decide +kernel
theorem dX5_init_28 : decode cX5_init 28 = .ok (.putfield 16, 3) := by decide +kernel
theorem dX5_init_31 : decode cX5_init 31 = .ok (.aload_n 0, 1) := by decide +kernel
theorem dX5_init_32 : decode cX5_init 32 = .ok (.bipush 6, 2) := by decide +kernel
theorem dX5_init_34 : decode cX5_init 34 = .ok (.newarray .int, 2) := by decide +kernel
theorem dX5_init_36 : decode cX5_init 36 = .ok (.putfield 19, 3) := by decide +kernel
theorem dX5_init_39 : decode cX5_init 39 = .ok (.aload_n 0, 1) := by decide +kernel
theorem dX5_init_40 : decode cX5_init 40 = .ok (.getfield 7, 3) := by decide +kernel
theorem dX5_init_43 : decode cX5_init 43 = .ok (.iconst 2, 1) := by decide +kernel
theorem dX5_init_44 : decode cX5_init 44 = .ok (.bipush 100, 2) := by decide +kernel
theorem dX5_init_46 : decode cX5_init 46 = .ok (.iastore, 1) := by decide +kernel
theorem dX5_init_47 : decode cX5_init 47 = .ok (.aload_n 0, 1) := by decide +kernel
theorem dX5_init_48 : decode cX5_init 48 = .ok (.getfield 7, 3) := by decide +kernel
theorem dX5_init_51 : decode cX5_init 51 = .ok (.iconst 3, 1) := by decide +kernel
theorem dX5_init_52 : decode cX5_init 52 = .ok (.bipush 20, 2) := by decide +kernel
theorem dX5_init_54 : decode cX5_init 54 = .ok (.iastore, 1) := by decide +kernel
theorem dX5_init_55 : decode cX5_init 55 = .ok (.return_, 1) := by decide +kernel
theorem dX5_in_0 : decode cX5_in 0 = .ok (.iload_n 0, 1) := by decide +kernel
theorem dX5_in_1 : decode cX5_in 1 = .ok (.iload_n 1, 1) := by decide +kernel
theorem dX5_in_2 : decode cX5_in 2 = .ok (.if_icmp .lt 12, 3) := by decide +kernel
theorem dX5_in_5 : decode cX5_in 5 = .ok (.iload_n 0, 1) := by decide +kernel
theorem dX5_in_6 : decode cX5_in 6 = .ok (.iload_n 2, 1) := by decide +kernel
theorem dX5_in_7 : decode cX5_in 7 = .ok (.if_icmp .gt 7, 3) := by decide +kernel
theorem dX5_in_10 : decode cX5_in 10 = .ok (.iconst 1, 1) := by decide +kernel
theorem dX5_in_11 : decode cX5_in 11 = .ok (.goto 4, 3) := by decide +kernel
theorem dX5_in_14 : decode cX5_in 14 = .ok (.iconst 0, 1) := by decide +kernel
theorem dX5_in_15 : decode cX5_in 15 = .ok (.ireturn, 1) := by decide +kernel
theorem dX5_has_0 : decode cX5_has 0 = .ok (.iload_n 0, 1) := by decide +kernel
theorem dX5_has_1 : decode cX5_has 1 = .ok (.iload_n 1, 1) := by decide +kernel
theorem dX5_has_2 : decode cX5_has 2 = .ok (.ishr, 1) := by decide +kernel
theorem dX5_has_3 : decode cX5_has 3 = .ok (.iconst 1, 1) := by decide +kernel
theorem dX5_has_4 : decode cX5_has 4 = .ok (.iand, 1) := by decide +kernel
theorem dX5_has_5 : decode cX5_has 5 = .ok (.iconst 1, 1) := by decide +kernel
theorem dX5_has_6 : decode cX5_has 6 = .ok (.if_icmp .ne 7, 3) := by decide +kernel
theorem dX5_has_9 : decode cX5_has 9 = .ok (.iconst 1, 1) := by decide +kernel
theorem dX5_has_10 : decode cX5_has 10 = .ok (.goto 4, 3) := by decide +kernel
theorem dX5_has_13 : decode cX5_has 13 = .ok (.iconst 0, 1) := by decide +kernel
theorem dX5_has_14 : decode cX5_has 14 = .ok (.ireturn, 1) := by decide +kernel
theorem dX5_ones_0 : decode cX5_ones 0 = .ok (.iconst 0, 1) := by decide +kernel
theorem dX5_ones_1 : decode cX5_ones 1 = .ok (.istore_n 1, 1) := by decide +kernel
theorem dX5_ones_2 : decode cX5_ones 2 = .ok (.iconst 0, 1) := by decide +kernel
theorem dX5_ones_3 : decode cX5_ones 3 = .ok (.istore_n 2, 1) := by decide +kernel
theorem dX5_ones_4 : decode cX5_ones 4 = .ok (.iload_n 2, 1) := by decide +kernel
theorem dX5_ones_5 : decode cX5_ones 5 = .ok (.bipush 8, 2) := by decide +kernel
theorem dX5_ones_7 : decode cX5_ones 7 = .ok (.if_icmp .ge 17, 3) := by decide +kernel
theorem dX5_ones_10 : decode cX5_ones 10 = .ok (.iload_n 1, 1) := by decide +kernel
theorem dX5_ones_11 : decode cX5_ones 11 = .ok (.iload_n 0, 1) := by decide +kernel
theorem dX5_ones_12 : decode cX5_ones 12 = .ok (.iload_n 2, 1) := by decide +kernel
theorem dX5_ones_13 : decode cX5_ones 13 = .ok (.ishr, 1) := by decide +kernel
theorem dX5_ones_14 : decode cX5_ones 14 = .ok (.iconst 1, 1) := by decide +kernel
theorem dX5_ones_15 : decode cX5_ones 15 = .ok (.iand, 1) := by decide +kernel
theorem dX5_ones_16 : decode cX5_ones 16 = .ok (.iadd, 1) := by decide +kernel
theorem dX5_ones_17 : decode cX5_ones 17 = .ok (.istore_n 1, 1) := by decide +kernel
theorem dX5_ones_18 : decode cX5_ones 18 = .ok (.iinc 2 1, 3) := by decide +kernel
theorem dX5_ones_21 : decode cX5_ones 21 = .ok (.goto (-17), 3) := by decide +kernel
theorem dX5_ones_24 : decode cX5_ones 24 = .ok (.iload_n 1, 1) := by decide +kernel
theorem dX5_ones_25 : decode cX5_ones 25 = .ok (.ireturn, 1) := by decide +kernel
theorem dX5_lesser_0 : decode cX5_lesser 0 = .ok (.iload_n 0, 1) := by decide +kernel
theorem dX5_lesser_1 : decode cX5_lesser 1 = .ok (.iload_n 1, 1) := by decide +kernel
theorem dX5_lesser_2 : decode cX5_lesser 2 = .ok (.if_icmp .ge 7, 3) := by decide +kernel
theorem dX5_lesser_5 : decode cX5_lesser 5 = .ok (.iload_n 0, 1) := by decide +kernel
theorem dX5_lesser_6 : decode cX5_lesser 6 = .ok (.goto 4, 3) := by decide +kernel
theorem dX5_lesser_9 : decode cX5_lesser 9 = .ok (.iload_n 1, 1) := by decide +kernel
theorem dX5_lesser_10 : decode cX5_lesser 10 = .ok (.ireturn, 1) := by decide +kernel
theorem dX5_keeps_0 : decode cX5_keeps 0 = .ok (.aload_n 0, 1) := by decide +kernel
theorem dX5_keeps_1 : decode cX5_keeps 1 = .ok (.getfield 22, 3) := by decide +kernel
theorem dX5_keeps_4 : decode cX5_keeps 4 = .ok (.bipush 8, 2) := by decide +kernel
theorem dX5_keeps_6 : decode cX5_keeps 6 = .ok (.if_icmp .ne 44, 3) := by decide +kernel
theorem dX5_keeps_9 : decode cX5_keeps 9 = .ok (.iconst 0, 1) := by decide +kernel
theorem dX5_keeps_10 : decode cX5_keeps 10 = .ok (.istore_n 1, 1) := by decide +kernel
theorem dX5_keeps_11 : decode cX5_keeps 11 = .ok (.iload_n 1, 1) := by decide +kernel
theorem dX5_keeps_12 : decode cX5_keeps 12 = .ok (.sipush 3773, 3) := by decide +kernel
theorem dX5_keeps_15 : decode cX5_keeps 15 = .ok (.if_icmp .ge 25, 3) := by decide +kernel
theorem dX5_keeps_18 : decode cX5_keeps 18 = .ok (.aload_n 0, 1) := by decide +kernel
theorem dX5_keeps_19 : decode cX5_keeps 19 = .ok (.getfield 13, 3) := by decide +kernel
theorem dX5_keeps_22 : decode cX5_keeps 22 = .ok (.iload_n 1, 1) := by decide +kernel
theorem dX5_keeps_23 : decode cX5_keeps 23 = .ok (.aload_n 0, 1) := by decide +kernel
theorem dX5_keeps_24 : decode cX5_keeps 24 = .ok (.getfield 13, 3) := by decide +kernel
theorem dX5_keeps_27 : decode cX5_keeps 27 = .ok (.iload_n 1, 1) := by decide +kernel
theorem dX5_keeps_28 : decode cX5_keeps 28 = .ok (.sipush 539, 3) := by decide +kernel
theorem dX5_keeps_31 : decode cX5_keeps 31 = .ok (.iadd, 1) := by decide +kernel
theorem dX5_keeps_32 : decode cX5_keeps 32 = .ok (.iaload, 1) := by decide +kernel
theorem dX5_keeps_33 : decode cX5_keeps 33 = .ok (.iastore, 1) := by decide +kernel
theorem dX5_keeps_34 : decode cX5_keeps 34 = .ok (.iinc 1 1, 3) := by decide +kernel
theorem dX5_keeps_37 : decode cX5_keeps 37 = .ok (.goto (-26), 3) := by decide +kernel
theorem dX5_keeps_40 : decode cX5_keeps 40 = .ok (.aload_n 0, 1) := by decide +kernel
theorem dX5_keeps_41 : decode cX5_keeps 41 = .ok (.dup, 1) := by decide +kernel
theorem dX5_keeps_42 : decode cX5_keeps 42 = .ok (.getfield 22, 3) := by decide +kernel
theorem dX5_keeps_45 : decode cX5_keeps 45 = .ok (.iconst 1, 1) := by decide +kernel
theorem dX5_keeps_46 : decode cX5_keeps 46 = .ok (.isub, 1) := by decide +kernel
theorem dX5_keeps_47 : decode cX5_keeps 47 = .ok (.putfield 22, 3) := by decide +kernel
theorem dX5_keeps_50 : decode cX5_keeps 50 = .ok (.iconst 0, 1) := by decide +kernel
theorem dX5_keeps_51 : decode cX5_keeps 51 = .ok (.istore_n 1, 1) := by decide +kernel
theorem dX5_keeps_52 : decode cX5_keeps 52 = .ok (.iload_n 1, 1) := by decide +kernel
theorem dX5_keeps_53 : decode cX5_keeps 53 = .ok (.sipush 539, 3) := by decide +kernel
theorem dX5_keeps_56 : decode cX5_keeps 56 = .ok (.if_icmp .ge 30, 3) := by decide +kernel
theorem dX5_keeps_59 : decode cX5_keeps 59 = .ok (.aload_n 0, 1) := by decide +kernel
theorem dX5_keeps_60 : decode cX5_keeps 60 = .ok (.getfield 13, 3) := by decide +kernel
theorem dX5_keeps_63 : decode cX5_keeps 63 = .ok (.sipush 539, 3) := by decide +kernel
theorem dX5_keeps_66 : decode cX5_keeps 66 = .ok (.aload_n 0, 1) := by decide +kernel
theorem dX5_keeps_67 : decode cX5_keeps 67 = .ok (.getfield 22, 3) := by decide +kernel
theorem dX5_keeps_70 : decode cX5_keeps 70 = .ok (.imul, 1) := by decide +kernel
theorem dX5_keeps_71 : decode cX5_keeps 71 = .ok (.iload_n 1, 1) := by decide +kernel
theorem dX5_keeps_72 : decode cX5_keeps 72 = .ok (.iadd, 1) := by decide +kernel
theorem dX5_keeps_73 : decode cX5_keeps 73 = .ok (.aload_n 0, 1) := by decide +kernel
theorem dX5_keeps_74 : decode cX5_keeps 74 = .ok (.getfield 7, 3) := by decide +kernel
theorem dX5_keeps_77 : decode cX5_keeps 77 = .ok (.iload_n 1, 1) := by decide +kernel
theorem dX5_keeps_78 : decode cX5_keeps 78 = .ok (.iaload, 1) := by decide +kernel
theorem dX5_keeps_79 : decode cX5_keeps 79 = .ok (.iastore, 1) := by decide +kernel
theorem dX5_keeps_80 : decode cX5_keeps 80 = .ok (.iinc 1 1, 3) := by decide +kernel
theorem dX5_keeps_83 : decode cX5_keeps 83 = .ok (.goto (-31), 3) := by decide +kernel
theorem dX5_keeps_86 : decode cX5_keeps 86 = .ok (.aload_n 0, 1) := by decide +kernel
theorem dX5_keeps_87 : decode cX5_keeps 87 = .ok (.dup, 1) := by decide +kernel
theorem dX5_keeps_88 : decode cX5_keeps 88 = .ok (.getfield 22, 3) := by decide +kernel
theorem dX5_keeps_91 : decode cX5_keeps 91 = .ok (.iconst 1, 1) := by decide +kernel
theorem dX5_keeps_92 : decode cX5_keeps 92 = .ok (.iadd, 1) := by decide +kernel
theorem dX5_keeps_93 : decode cX5_keeps 93 = .ok (.putfield 22, 3) := by decide +kernel
theorem dX5_keeps_96 : decode cX5_keeps 96 = .ok (.return_, 1) := by decide +kernel
theorem dX5_undo_0 : decode cX5_undo 0 = .ok (.aload_n 0, 1) := by decide +kernel
theorem dX5_undo_1 : decode cX5_undo 1 = .ok (.getfield 22, 3) := by decide +kernel
theorem dX5_undo_4 : decode cX5_undo 4 = .ok (.ifCond .ne 7, 3) := by decide +kernel
theorem dX5_undo_7 : decode cX5_undo 7 = .ok (.sipush (-10002), 3) := by decide +kernel
theorem dX5_undo_10 : decode cX5_undo 10 = .ok (.ireturn, 1) := by decide +kernel
theorem dX5_undo_11 : decode cX5_undo 11 = .ok (.aload_n 0, 1) := by decide +kernel
theorem dX5_undo_12 : decode cX5_undo 12 = .ok (.dup, 1) := by decide +kernel
theorem dX5_undo_13 : decode cX5_undo 13 = .ok (.getfield 22, 3) := by decide +kernel
theorem dX5_undo_16 : decode cX5_undo 16 = .ok (.iconst 1, 1) := by decide +kernel
theorem dX5_undo_17 : decode cX5_undo 17 = .ok (.isub, 1) := by decide +kernel
theorem dX5_undo_18 : decode cX5_undo 18 = .ok (.putfield 22, 3) := by decide +kernel
theorem dX5_undo_21 : decode cX5_undo 21 = .ok (.iconst 0, 1) := by decide +kernel
theorem dX5_undo_22 : decode cX5_undo 22 = .ok (.istore_n 1, 1) := by decide +kernel
theorem dX5_undo_23 : decode cX5_undo 23 = .ok (.iload_n 1, 1) := by decide +kernel
theorem dX5_undo_24 : decode cX5_undo 24 = .ok (.sipush 539, 3) := by decide +kernel
theorem dX5_undo_27 : decode cX5_undo 27 = .ok (.if_icmp .ge 30, 3) := by decide +kernel
theorem dX5_undo_30 : decode cX5_undo 30 = .ok (.aload_n 0, 1) := by decide +kernel
theorem dX5_undo_31 : decode cX5_undo 31 = .ok (.getfield 7, 3) := by decide +kernel
theorem dX5_undo_34 : decode cX5_undo 34 = .ok (.iload_n 1, 1) := by decide +kernel
theorem dX5_undo_35 : decode cX5_undo 35 = .ok (.aload_n 0, 1) := by decide +kernel
theorem dX5_undo_36 : decode cX5_undo 36 = .ok (.getfield 13, 3) := by decide +kernel
theorem dX5_undo_39 : decode cX5_undo 39 = .ok (.sipush 539, 3) := by decide +kernel
theorem dX5_undo_42 : decode cX5_undo 42 = .ok (.aload_n 0, 1) := by decide +kernel
theorem dX5_undo_43 : decode cX5_undo 43 = .ok (.getfield 22, 3) := by decide +kernel
theorem dX5_undo_46 : decode cX5_undo 46 = .ok (.imul, 1) := by decide +kernel
theorem dX5_undo_47 : decode cX5_undo 47 = .ok (.iload_n 1, 1) := by decide +kernel
theorem dX5_undo_48 : decode cX5_undo 48 = .ok (.iadd, 1) := by decide +kernel
theorem dX5_undo_49 : decode cX5_undo 49 = .ok (.iaload, 1) := by decide +kernel
theorem dX5_undo_50 : decode cX5_undo 50 = .ok (.iastore, 1) := by decide +kernel
theorem dX5_undo_51 : decode cX5_undo 51 = .ok (.iinc 1 1, 3) := by decide +kernel
theorem dX5_undo_54 : decode cX5_undo 54 = .ok (.goto (-31), 3) := by decide +kernel
theorem dX5_undo_57 : decode cX5_undo 57 = .ok (.aload_n 0, 1) := by decide +kernel
theorem dX5_undo_58 : decode cX5_undo 58 = .ok (.getfield 22, 3) := by decide +kernel
theorem dX5_undo_61 : decode cX5_undo 61 = .ok (.ireturn, 1) := by decide +kernel
theorem dX5_isAsset_0 : decode cX5_isAsset 0 = .ok (.iload_n 1, 1) := by decide +kernel
theorem dX5_isAsset_1 : decode cX5_isAsset 1 = .ok (.iconst 0, 1) := by decide +kernel
theorem dX5_isAsset_2 : decode cX5_isAsset 2 = .ok (.aload_n 0, 1) := by decide +kernel
theorem dX5_isAsset_3 : decode cX5_isAsset 3 = .ok (.getfield 7, 3) := by decide +kernel
theorem dX5_isAsset_6 : decode cX5_isAsset 6 = .ok (.iconst 4, 1) := by decide +kernel
theorem dX5_isAsset_7 : decode cX5_isAsset 7 = .ok (.iaload, 1) := by decide +kernel
theorem dX5_isAsset_8 : decode cX5_isAsset 8 = .ok (.iconst 1, 1) := by decide +kernel
theorem dX5_isAsset_9 : decode cX5_isAsset 9 = .ok (.isub, 1) := by decide +kernel
theorem dX5_isAsset_10 : decode cX5_isAsset 10 = .ok (.invokestatic 26, 3) := by decide +kernel
theorem dX5_isAsset_13 : decode cX5_isAsset 13 = .ok (.ireturn, 1) := by decide +kernel
theorem dX5_isHunter_0 : decode cX5_isHunter 0 = .ok (.iload_n 1, 1) := by decide +kernel
theorem dX5_isHunter_1 : decode cX5_isHunter 1 = .ok (.iconst 0, 1) := by decide +kernel
theorem dX5_isHunter_2 : decode cX5_isHunter 2 = .ok (.aload_n 0, 1) := by decide +kernel
theorem dX5_isHunter_3 : decode cX5_isHunter 3 = .ok (.getfield 7, 3) := by decide +kernel
theorem dX5_isHunter_6 : decode cX5_isHunter 6 = .ok (.iconst 5, 1) := by decide +kernel
theorem dX5_isHunter_7 : decode cX5_isHunter 7 = .ok (.iaload, 1) := by decide +kernel
theorem dX5_isHunter_8 : decode cX5_isHunter 8 = .ok (.iconst 1, 1) := by decide +kernel
theorem dX5_isHunter_9 : decode cX5_isHunter 9 = .ok (.isub, 1) := by decide +kernel
theorem dX5_isHunter_10 : decode cX5_isHunter 10 = .ok (.invokestatic 26, 3) := by decide +kernel
theorem dX5_isHunter_13 : decode cX5_isHunter 13 = .ok (.ireturn, 1) := by decide +kernel
theorem dX5_isReport_0 : decode cX5_isReport 0 = .ok (.iload_n 1, 1) := by decide +kernel
theorem dX5_isReport_1 : decode cX5_isReport 1 = .ok (.iconst 0, 1) := by decide +kernel
theorem dX5_isReport_2 : decode cX5_isReport 2 = .ok (.aload_n 0, 1) := by decide +kernel
theorem dX5_isReport_3 : decode cX5_isReport 3 = .ok (.getfield 7, 3) := by decide +kernel
theorem dX5_isReport_6 : decode cX5_isReport 6 = .ok (.bipush 6, 2) := by decide +kernel
theorem dX5_isReport_8 : decode cX5_isReport 8 = .ok (.iaload, 1) := by decide +kernel
theorem dX5_isReport_9 : decode cX5_isReport 9 = .ok (.iconst 1, 1) := by decide +kernel
theorem dX5_isReport_10 : decode cX5_isReport 10 = .ok (.isub, 1) := by decide +kernel
theorem dX5_isReport_11 : decode cX5_isReport 11 = .ok (.invokestatic 26, 3) := by decide +kernel
theorem dX5_isReport_14 : decode cX5_isReport 14 = .ok (.ireturn, 1) := by decide +kernel
theorem dX5_atAsset_0 : decode cX5_atAsset 0 = .ok (.bipush 9, 2) := by decide +kernel
theorem dX5_atAsset_2 : decode cX5_atAsset 2 = .ok (.iconst 3, 1) := by decide +kernel
theorem dX5_atAsset_3 : decode cX5_atAsset 3 = .ok (.iload_n 0, 1) := by decide +kernel
theorem dX5_atAsset_4 : decode cX5_atAsset 4 = .ok (.imul, 1) := by decide +kernel
theorem dX5_atAsset_5 : decode cX5_atAsset 5 = .ok (.iadd, 1) := by decide +kernel
theorem dX5_atAsset_6 : decode cX5_atAsset 6 = .ok (.iload_n 1, 1) := by decide +kernel
theorem dX5_atAsset_7 : decode cX5_atAsset 7 = .ok (.iadd, 1) := by decide +kernel
theorem dX5_atAsset_8 : decode cX5_atAsset 8 = .ok (.ireturn, 1) := by decide +kernel
theorem dX5_atHunter_0 : decode cX5_atHunter 0 = .ok (.bipush 27, 2) := by decide +kernel
theorem dX5_atHunter_2 : decode cX5_atHunter 2 = .ok (.iconst 4, 1) := by decide +kernel
theorem dX5_atHunter_3 : decode cX5_atHunter 3 = .ok (.iload_n 0, 1) := by decide +kernel
theorem dX5_atHunter_4 : decode cX5_atHunter 4 = .ok (.imul, 1) := by decide +kernel
theorem dX5_atHunter_5 : decode cX5_atHunter 5 = .ok (.iadd, 1) := by decide +kernel
theorem dX5_atHunter_6 : decode cX5_atHunter 6 = .ok (.iload_n 1, 1) := by decide +kernel
theorem dX5_atHunter_7 : decode cX5_atHunter 7 = .ok (.iadd, 1) := by decide +kernel
theorem dX5_atHunter_8 : decode cX5_atHunter 8 = .ok (.ireturn, 1) := by decide +kernel
theorem dX5_at_0 : decode cX5_at 0 = .ok (.bipush 59, 2) := by decide +kernel
theorem dX5_at_2 : decode cX5_at 2 = .ok (.bipush 12, 2) := by decide +kernel
theorem dX5_at_4 : decode cX5_at 4 = .ok (.iload_n 0, 1) := by decide +kernel
theorem dX5_at_5 : decode cX5_at 5 = .ok (.imul, 1) := by decide +kernel
theorem dX5_at_6 : decode cX5_at 6 = .ok (.iadd, 1) := by decide +kernel
theorem dX5_at_7 : decode cX5_at 7 = .ok (.iload_n 1, 1) := by decide +kernel
theorem dX5_at_8 : decode cX5_at 8 = .ok (.iadd, 1) := by decide +kernel
theorem dX5_at_9 : decode cX5_at 9 = .ok (.ireturn, 1) := by decide +kernel
theorem dX5_of_0 : decode cX5_of 0 = .ok (.aload_n 0, 1) := by decide +kernel
theorem dX5_of_1 : decode cX5_of 1 = .ok (.getfield 7, 3) := by decide +kernel
theorem dX5_of_4 : decode cX5_of 4 = .ok (.iload_n 1, 1) := by decide +kernel
theorem dX5_of_5 : decode cX5_of 5 = .ok (.iload_n 2, 1) := by decide +kernel
theorem dX5_of_6 : decode cX5_of 6 = .ok (.invokestatic 30, 3) := by decide +kernel
theorem dX5_of_9 : decode cX5_of 9 = .ok (.iaload, 1) := by decide +kernel
theorem dX5_of_10 : decode cX5_of 10 = .ok (.ireturn, 1) := by decide +kernel
theorem dX5_addAsset_0 : decode cX5_addAsset 0 = .ok (.iload_n 1, 1) := by decide +kernel
theorem dX5_addAsset_1 : decode cX5_addAsset 1 = .ok (.iconst 1, 1) := by decide +kernel
theorem dX5_addAsset_2 : decode cX5_addAsset 2 = .ok (.bipush 9, 2) := by decide +kernel
theorem dX5_addAsset_4 : decode cX5_addAsset 4 = .ok (.invokestatic 26, 3) := by decide +kernel
theorem dX5_addAsset_7 : decode cX5_addAsset 7 = .ok (.ifCond .eq 14, 3) := by decide +kernel
theorem dX5_addAsset_10 : decode cX5_addAsset 10 = .ok (.iload_n 2, 1) := by decide +kernel
theorem dX5_addAsset_11 : decode cX5_addAsset 11 = .ok (.iconst 0, 1) := by decide +kernel
theorem dX5_addAsset_12 : decode cX5_addAsset 12 = .ok (.sipush 10000, 3) := by decide +kernel
theorem dX5_addAsset_15 : decode cX5_addAsset 15 = .ok (.invokestatic 26, 3) := by decide +kernel
theorem dX5_addAsset_18 : decode cX5_addAsset 18 = .ok (.ifCond .ne 7, 3) := by decide +kernel
theorem dX5_addAsset_21 : decode cX5_addAsset 21 = .ok (.sipush (-10001), 3) := by decide +kernel
theorem dX5_addAsset_24 : decode cX5_addAsset 24 = .ok (.ireturn, 1) := by decide +kernel
theorem dX5_addAsset_25 : decode cX5_addAsset 25 = .ok (.aload_n 0, 1) := by decide +kernel
theorem dX5_addAsset_26 : decode cX5_addAsset 26 = .ok (.getfield 7, 3) := by decide +kernel
theorem dX5_addAsset_29 : decode cX5_addAsset 29 = .ok (.iconst 4, 1) := by decide +kernel
theorem dX5_addAsset_30 : decode cX5_addAsset 30 = .ok (.iaload, 1) := by decide +kernel
theorem dX5_addAsset_31 : decode cX5_addAsset 31 = .ok (.bipush 6, 2) := by decide +kernel
theorem dX5_addAsset_33 : decode cX5_addAsset 33 = .ok (.if_icmp .ne 7, 3) := by decide +kernel
theorem dX5_addAsset_36 : decode cX5_addAsset 36 = .ok (.sipush (-10003), 3) := by decide +kernel
theorem dX5_addAsset_39 : decode cX5_addAsset 39 = .ok (.ireturn, 1) := by decide +kernel
theorem dX5_addAsset_40 : decode cX5_addAsset 40 = .ok (.aload_n 0, 1) := by decide +kernel
theorem dX5_addAsset_41 : decode cX5_addAsset 41 = .ok (.invokevirtual 34, 3) := by decide +kernel
theorem dX5_addAsset_44 : decode cX5_addAsset 44 = .ok (.aload_n 0, 1) := by decide +kernel
theorem dX5_addAsset_45 : decode cX5_addAsset 45 = .ok (.getfield 7, 3) := by decide +kernel
theorem dX5_addAsset_48 : decode cX5_addAsset 48 = .ok (.iconst 4, 1) := by decide +kernel
theorem dX5_addAsset_49 : decode cX5_addAsset 49 = .ok (.iaload, 1) := by decide +kernel
theorem dX5_addAsset_50 : decode cX5_addAsset 50 = .ok (.istore_n 3, 1) := by decide +kernel
theorem dX5_addAsset_51 : decode cX5_addAsset 51 = .ok (.aload_n 0, 1) := by decide +kernel
theorem dX5_addAsset_52 : decode cX5_addAsset 52 = .ok (.getfield 7, 3) := by decide +kernel
theorem dX5_addAsset_55 : decode cX5_addAsset 55 = .ok (.iload_n 3, 1) := by decide +kernel
theorem dX5_addAsset_56 : decode cX5_addAsset 56 = .ok (.iconst 0, 1) := by decide +kernel
theorem dX5_addAsset_57 : decode cX5_addAsset 57 = .ok (.invokestatic 37, 3) := by decide +kernel
theorem dX5_addAsset_60 : decode cX5_addAsset 60 = .ok (.iload_n 1, 1) := by decide +kernel
theorem dX5_addAsset_61 : decode cX5_addAsset 61 = .ok (.iastore, 1) := by decide +kernel
theorem dX5_addAsset_62 : decode cX5_addAsset 62 = .ok (.aload_n 0, 1) := by decide +kernel
theorem dX5_addAsset_63 : decode cX5_addAsset 63 = .ok (.getfield 7, 3) := by decide +kernel
theorem dX5_addAsset_66 : decode cX5_addAsset 66 = .ok (.iload_n 3, 1) := by decide +kernel
theorem dX5_addAsset_67 : decode cX5_addAsset 67 = .ok (.iconst 1, 1) := by decide +kernel
theorem dX5_addAsset_68 : decode cX5_addAsset 68 = .ok (.invokestatic 37, 3) := by decide +kernel
theorem dX5_addAsset_71 : decode cX5_addAsset 71 = .ok (.iload_n 2, 1) := by decide +kernel
theorem dX5_addAsset_72 : decode cX5_addAsset 72 = .ok (.iastore, 1) := by decide +kernel
theorem dX5_addAsset_73 : decode cX5_addAsset 73 = .ok (.aload_n 0, 1) := by decide +kernel
theorem dX5_addAsset_74 : decode cX5_addAsset 74 = .ok (.getfield 7, 3) := by decide +kernel
theorem dX5_addAsset_77 : decode cX5_addAsset 77 = .ok (.iload_n 3, 1) := by decide +kernel
theorem dX5_addAsset_78 : decode cX5_addAsset 78 = .ok (.iconst 2, 1) := by decide +kernel
theorem dX5_addAsset_79 : decode cX5_addAsset 79 = .ok (.invokestatic 37, 3) := by decide +kernel
theorem dX5_addAsset_82 : decode cX5_addAsset 82 = .ok (.iload_n 2, 1) := by decide +kernel
theorem dX5_addAsset_83 : decode cX5_addAsset 83 = .ok (.iastore, 1) := by decide +kernel
theorem dX5_addAsset_84 : decode cX5_addAsset 84 = .ok (.aload_n 0, 1) := by decide +kernel
theorem dX5_addAsset_85 : decode cX5_addAsset 85 = .ok (.getfield 7, 3) := by decide +kernel
theorem dX5_addAsset_88 : decode cX5_addAsset 88 = .ok (.iconst 4, 1) := by decide +kernel
theorem dX5_addAsset_89 : decode cX5_addAsset 89 = .ok (.dup2, 1) := by decide +kernel
theorem dX5_addAsset_90 : decode cX5_addAsset 90 = .ok (.iaload, 1) := by decide +kernel
theorem dX5_addAsset_91 : decode cX5_addAsset 91 = .ok (.iconst 1, 1) := by decide +kernel
theorem dX5_addAsset_92 : decode cX5_addAsset 92 = .ok (.iadd, 1) := by decide +kernel
theorem dX5_addAsset_93 : decode cX5_addAsset 93 = .ok (.iastore, 1) := by decide +kernel
theorem dX5_addAsset_94 : decode cX5_addAsset 94 = .ok (.iload_n 3, 1) := by decide +kernel
theorem dX5_addAsset_95 : decode cX5_addAsset 95 = .ok (.ireturn, 1) := by decide +kernel
theorem dX5_addHunter_0 : decode cX5_addHunter 0 = .ok (.aload_n 0, 1) := by decide +kernel
theorem dX5_addHunter_1 : decode cX5_addHunter 1 = .ok (.getfield 7, 3) := by decide +kernel
theorem dX5_addHunter_4 : decode cX5_addHunter 4 = .ok (.iconst 5, 1) := by decide +kernel
theorem dX5_addHunter_5 : decode cX5_addHunter 5 = .ok (.iaload, 1) := by decide +kernel
theorem dX5_addHunter_6 : decode cX5_addHunter 6 = .ok (.bipush 8, 2) := by decide +kernel
theorem dX5_addHunter_8 : decode cX5_addHunter 8 = .ok (.if_icmp .ne 7, 3) := by decide +kernel
theorem dX5_addHunter_11 : decode cX5_addHunter 11 = .ok (.sipush (-10003), 3) := by decide +kernel
theorem dX5_addHunter_14 : decode cX5_addHunter 14 = .ok (.ireturn, 1) := by decide +kernel
theorem dX5_addHunter_15 : decode cX5_addHunter 15 = .ok (.aload_n 0, 1) := by decide +kernel
theorem dX5_addHunter_16 : decode cX5_addHunter 16 = .ok (.invokevirtual 34, 3) := by decide +kernel
theorem dX5_addHunter_19 : decode cX5_addHunter 19 = .ok (.aload_n 0, 1) := by decide +kernel
theorem dX5_addHunter_20 : decode cX5_addHunter 20 = .ok (.getfield 7, 3) := by decide +kernel
theorem dX5_addHunter_23 : decode cX5_addHunter 23 = .ok (.iconst 5, 1) := by decide +kernel
theorem dX5_addHunter_24 : decode cX5_addHunter 24 = .ok (.dup2, 1) := by decide +kernel
theorem dX5_addHunter_25 : decode cX5_addHunter 25 = .ok (.iaload, 1) := by decide +kernel
theorem dX5_addHunter_26 : decode cX5_addHunter 26 = .ok (.iconst 1, 1) := by decide +kernel
theorem dX5_addHunter_27 : decode cX5_addHunter 27 = .ok (.iadd, 1) := by decide +kernel
theorem dX5_addHunter_28 : decode cX5_addHunter 28 = .ok (.iastore, 1) := by decide +kernel
theorem dX5_addHunter_29 : decode cX5_addHunter 29 = .ok (.aload_n 0, 1) := by decide +kernel
theorem dX5_addHunter_30 : decode cX5_addHunter 30 = .ok (.getfield 7, 3) := by decide +kernel
theorem dX5_addHunter_33 : decode cX5_addHunter 33 = .ok (.iconst 5, 1) := by decide +kernel
theorem dX5_addHunter_34 : decode cX5_addHunter 34 = .ok (.iaload, 1) := by decide +kernel
theorem dX5_addHunter_35 : decode cX5_addHunter 35 = .ok (.iconst 1, 1) := by decide +kernel
theorem dX5_addHunter_36 : decode cX5_addHunter 36 = .ok (.isub, 1) := by decide +kernel
theorem dX5_addHunter_37 : decode cX5_addHunter 37 = .ok (.ireturn, 1) := by decide +kernel
theorem dX5_fill_0 : decode cX5_fill 0 = .ok (.iload_n 1, 1) := by decide +kernel
theorem dX5_fill_1 : decode cX5_fill 1 = .ok (.iconst 1, 1) := by decide +kernel
theorem dX5_fill_2 : decode cX5_fill 2 = .ok (.ldc 40, 2) := by decide +kernel
theorem dX5_fill_4 : decode cX5_fill 4 = .ok (.invokestatic 26, 3) := by decide +kernel
theorem dX5_fill_7 : decode cX5_fill 7 = .ok (.ifCond .ne 7, 3) := by decide +kernel
theorem dX5_fill_10 : decode cX5_fill 10 = .ok (.sipush (-10001), 3) := by decide +kernel
theorem dX5_fill_13 : decode cX5_fill 13 = .ok (.ireturn, 1) := by decide +kernel
theorem dX5_fill_14 : decode cX5_fill 14 = .ok (.aload_n 0, 1) := by decide +kernel
theorem dX5_fill_15 : decode cX5_fill 15 = .ok (.getfield 7, 3) := by decide +kernel
theorem dX5_fill_18 : decode cX5_fill 18 = .ok (.iconst 1, 1) := by decide +kernel
theorem dX5_fill_19 : decode cX5_fill 19 = .ok (.iaload, 1) := by decide +kernel
theorem dX5_fill_20 : decode cX5_fill 20 = .ok (.iload_n 1, 1) := by decide +kernel
theorem dX5_fill_21 : decode cX5_fill 21 = .ok (.iadd, 1) := by decide +kernel
theorem dX5_fill_22 : decode cX5_fill 22 = .ok (.ldc 41, 2) := by decide +kernel
theorem dX5_fill_24 : decode cX5_fill 24 = .ok (.if_icmp .le 7, 3) := by decide +kernel
theorem dX5_fill_27 : decode cX5_fill 27 = .ok (.sipush (-10002), 3) := by decide +kernel
theorem dX5_fill_30 : decode cX5_fill 30 = .ok (.ireturn, 1) := by decide +kernel
theorem dX5_fill_31 : decode cX5_fill 31 = .ok (.aload_n 0, 1) := by decide +kernel
theorem dX5_fill_32 : decode cX5_fill 32 = .ok (.invokevirtual 34, 3) := by decide +kernel
theorem dX5_fill_35 : decode cX5_fill 35 = .ok (.aload_n 0, 1) := by decide +kernel
theorem dX5_fill_36 : decode cX5_fill 36 = .ok (.getfield 7, 3) := by decide +kernel
theorem dX5_fill_39 : decode cX5_fill 39 = .ok (.iconst 1, 1) := by decide +kernel
theorem dX5_fill_40 : decode cX5_fill 40 = .ok (.dup2, 1) := by decide +kernel
theorem dX5_fill_41 : decode cX5_fill 41 = .ok (.iaload, 1) := by decide +kernel
theorem dX5_fill_42 : decode cX5_fill 42 = .ok (.iload_n 1, 1) := by decide +kernel
theorem dX5_fill_43 : decode cX5_fill 43 = .ok (.iadd, 1) := by decide +kernel
theorem dX5_fill_44 : decode cX5_fill 44 = .ok (.iastore, 1) := by decide +kernel
theorem dX5_fill_45 : decode cX5_fill 45 = .ok (.aload_n 0, 1) := by decide +kernel
theorem dX5_fill_46 : decode cX5_fill 46 = .ok (.getfield 7, 3) := by decide +kernel
theorem dX5_fill_49 : decode cX5_fill 49 = .ok (.iconst 1, 1) := by decide +kernel
theorem dX5_fill_50 : decode cX5_fill 50 = .ok (.iaload, 1) := by decide +kernel
theorem dX5_fill_51 : decode cX5_fill 51 = .ok (.ireturn, 1) := by decide +kernel
theorem dX5_sets_0 : decode cX5_sets 0 = .ok (.iload_n 2, 1) := by decide +kernel
theorem dX5_sets_1 : decode cX5_sets 1 = .ok (.iload_n 3, 1) := by decide +kernel
theorem dX5_sets_2 : decode cX5_sets 2 = .ok (.iload 4, 2) := by decide +kernel
theorem dX5_sets_4 : decode cX5_sets 4 = .ok (.invokestatic 26, 3) := by decide +kernel
theorem dX5_sets_7 : decode cX5_sets 7 = .ok (.ifCond .ne 7, 3) := by decide +kernel
theorem dX5_sets_10 : decode cX5_sets 10 = .ok (.sipush (-10001), 3) := by decide +kernel
theorem dX5_sets_13 : decode cX5_sets 13 = .ok (.ireturn, 1) := by decide +kernel
theorem dX5_sets_14 : decode cX5_sets 14 = .ok (.aload_n 0, 1) := by decide +kernel
theorem dX5_sets_15 : decode cX5_sets 15 = .ok (.invokevirtual 34, 3) := by decide +kernel
theorem dX5_sets_18 : decode cX5_sets 18 = .ok (.aload_n 0, 1) := by decide +kernel
theorem dX5_sets_19 : decode cX5_sets 19 = .ok (.getfield 7, 3) := by decide +kernel
theorem dX5_sets_22 : decode cX5_sets 22 = .ok (.iload_n 1, 1) := by decide +kernel
theorem dX5_sets_23 : decode cX5_sets 23 = .ok (.iaload, 1) := by decide +kernel
theorem dX5_sets_24 : decode cX5_sets 24 = .ok (.istore 5, 2) := by decide +kernel
theorem dX5_sets_26 : decode cX5_sets 26 = .ok (.aload_n 0, 1) := by decide +kernel
theorem dX5_sets_27 : decode cX5_sets 27 = .ok (.getfield 7, 3) := by decide +kernel
theorem dX5_sets_30 : decode cX5_sets 30 = .ok (.iload_n 1, 1) := by decide +kernel
theorem dX5_sets_31 : decode cX5_sets 31 = .ok (.iload_n 2, 1) := by decide +kernel
theorem dX5_sets_32 : decode cX5_sets 32 = .ok (.iastore, 1) := by decide +kernel
theorem dX5_sets_33 : decode cX5_sets 33 = .ok (.iload 5, 2) := by decide +kernel
theorem dX5_sets_35 : decode cX5_sets 35 = .ok (.ireturn, 1) := by decide +kernel
theorem dX5_setRate_0 : decode cX5_setRate 0 = .ok (.aload_n 0, 1) := by decide +kernel
theorem dX5_setRate_1 : decode cX5_setRate 1 = .ok (.iconst 2, 1) := by decide +kernel
theorem dX5_setRate_2 : decode cX5_setRate 2 = .ok (.iload_n 1, 1) := by decide +kernel
theorem dX5_setRate_3 : decode cX5_setRate 3 = .ok (.bipush 50, 2) := by decide +kernel
theorem dX5_setRate_5 : decode cX5_setRate 5 = .ok (.sipush 200, 3) := by decide +kernel
theorem dX5_setRate_8 : decode cX5_setRate 8 = .ok (.invokevirtual 42, 3) := by decide +kernel
theorem dX5_setRate_11 : decode cX5_setRate 11 = .ok (.ireturn, 1) := by decide +kernel
theorem dX5_setBonus_0 : decode cX5_setBonus 0 = .ok (.aload_n 0, 1) := by decide +kernel
theorem dX5_setBonus_1 : decode cX5_setBonus 1 = .ok (.iconst 3, 1) := by decide +kernel
theorem dX5_setBonus_2 : decode cX5_setBonus 2 = .ok (.iload_n 1, 1) := by decide +kernel
theorem dX5_setBonus_3 : decode cX5_setBonus 3 = .ok (.iconst 0, 1) := by decide +kernel
theorem dX5_setBonus_4 : decode cX5_setBonus 4 = .ok (.sipush 500, 3) := by decide +kernel
theorem dX5_setBonus_7 : decode cX5_setBonus 7 = .ok (.invokevirtual 42, 3) := by decide +kernel
theorem dX5_setBonus_10 : decode cX5_setBonus 10 = .ok (.ireturn, 1) := by decide +kernel
theorem dX5_report_0 : decode cX5_report 0 = .ok (.aload_n 0, 1) := by decide +kernel
theorem dX5_report_1 : decode cX5_report 1 = .ok (.iload_n 1, 1) := by decide +kernel
theorem dX5_report_2 : decode cX5_report 2 = .ok (.invokevirtual 46, 3) := by decide +kernel
theorem dX5_report_5 : decode cX5_report 5 = .ok (.ifCond .eq 21, 3) := by decide +kernel
theorem dX5_report_8 : decode cX5_report 8 = .ok (.aload_n 0, 1) := by decide +kernel
theorem dX5_report_9 : decode cX5_report 9 = .ok (.iload_n 2, 1) := by decide +kernel
theorem dX5_report_10 : decode cX5_report 10 = .ok (.invokevirtual 50, 3) := by decide +kernel
theorem dX5_report_13 : decode cX5_report 13 = .ok (.ifCond .eq 13, 3) := by decide +kernel
theorem dX5_report_16 : decode cX5_report 16 = .ok (.iload_n 3, 1) := by decide +kernel
theorem dX5_report_17 : decode cX5_report 17 = .ok (.iconst 0, 1) := by decide +kernel
theorem dX5_report_18 : decode cX5_report 18 = .ok (.bipush 99, 2) := by decide +kernel
theorem dX5_report_20 : decode cX5_report 20 = .ok (.invokestatic 26, 3) := by decide +kernel
theorem dX5_report_23 : decode cX5_report 23 = .ok (.ifCond .ne 7, 3) := by decide +kernel
theorem dX5_report_26 : decode cX5_report 26 = .ok (.sipush (-10001), 3) := by decide +kernel
theorem dX5_report_29 : decode cX5_report 29 = .ok (.ireturn, 1) := by decide +kernel
theorem dX5_report_30 : decode cX5_report 30 = .ok (.aload_n 0, 1) := by decide +kernel
theorem dX5_report_31 : decode cX5_report 31 = .ok (.getfield 7, 3) := by decide +kernel
theorem dX5_report_34 : decode cX5_report 34 = .ok (.bipush 6, 2) := by decide +kernel
theorem dX5_report_36 : decode cX5_report 36 = .ok (.iaload, 1) := by decide +kernel
theorem dX5_report_37 : decode cX5_report 37 = .ok (.istore 4, 2) := by decide +kernel
theorem dX5_report_39 : decode cX5_report 39 = .ok (.iload 4, 2) := by decide +kernel
theorem dX5_report_41 : decode cX5_report 41 = .ok (.bipush 40, 2) := by decide +kernel
theorem dX5_report_43 : decode cX5_report 43 = .ok (.if_icmp .ne 7, 3) := by decide +kernel
theorem dX5_report_46 : decode cX5_report 46 = .ok (.sipush (-10003), 3) := by decide +kernel
theorem dX5_report_49 : decode cX5_report 49 = .ok (.ireturn, 1) := by decide +kernel
theorem dX5_report_50 : decode cX5_report 50 = .ok (.aload_n 0, 1) := by decide +kernel
theorem dX5_report_51 : decode cX5_report 51 = .ok (.invokevirtual 34, 3) := by decide +kernel
theorem dX5_report_54 : decode cX5_report 54 = .ok (.iconst 0, 1) := by decide +kernel
theorem dX5_report_55 : decode cX5_report 55 = .ok (.istore 5, 2) := by decide +kernel
theorem dX5_report_57 : decode cX5_report 57 = .ok (.iload 5, 2) := by decide +kernel
theorem dX5_report_59 : decode cX5_report 59 = .ok (.bipush 12, 2) := by decide +kernel
theorem dX5_report_61 : decode cX5_report 61 = .ok (.if_icmp .ge 22, 3) := by decide +kernel
theorem dX5_report_64 : decode cX5_report 64 = .ok (.aload_n 0, 1) := by decide +kernel
theorem dX5_report_65 : decode cX5_report 65 = .ok (.getfield 7, 3) := by decide +kernel
theorem dX5_report_68 : decode cX5_report 68 = .ok (.iload 4, 2) := by decide +kernel
theorem dX5_report_70 : decode cX5_report 70 = .ok (.iload 5, 2) := by decide +kernel
theorem dX5_report_72 : decode cX5_report 72 = .ok (.invokestatic 30, 3) := by decide +kernel
theorem dX5_report_75 : decode cX5_report 75 = .ok (.iconst 0, 1) := by decide +kernel
theorem dX5_report_76 : decode cX5_report 76 = .ok (.iastore, 1) := by decide +kernel
theorem dX5_report_77 : decode cX5_report 77 = .ok (.iinc 5 1, 3) := by decide +kernel
theorem dX5_report_80 : decode cX5_report 80 = .ok (.goto (-23), 3) := by decide +kernel
theorem dX5_report_83 : decode cX5_report 83 = .ok (.aload_n 0, 1) := by decide +kernel
theorem dX5_report_84 : decode cX5_report 84 = .ok (.getfield 7, 3) := by decide +kernel
theorem dX5_report_87 : decode cX5_report 87 = .ok (.iload 4, 2) := by decide +kernel
theorem dX5_report_89 : decode cX5_report 89 = .ok (.iconst 0, 1) := by decide +kernel
theorem dX5_report_90 : decode cX5_report 90 = .ok (.invokestatic 30, 3) := by decide +kernel
theorem dX5_report_93 : decode cX5_report 93 = .ok (.iload_n 1, 1) := by decide +kernel
theorem dX5_report_94 : decode cX5_report 94 = .ok (.iastore, 1) := by decide +kernel
theorem dX5_report_95 : decode cX5_report 95 = .ok (.aload_n 0, 1) := by decide +kernel
theorem dX5_report_96 : decode cX5_report 96 = .ok (.getfield 7, 3) := by decide +kernel
theorem dX5_report_99 : decode cX5_report 99 = .ok (.iload 4, 2) := by decide +kernel
theorem dX5_report_101 : decode cX5_report 101 = .ok (.iconst 1, 1) := by decide +kernel
theorem dX5_report_102 : decode cX5_report 102 = .ok (.invokestatic 30, 3) := by decide +kernel
theorem dX5_report_105 : decode cX5_report 105 = .ok (.iload_n 2, 1) := by decide +kernel
theorem dX5_report_106 : decode cX5_report 106 = .ok (.iastore, 1) := by decide +kernel
theorem dX5_report_107 : decode cX5_report 107 = .ok (.aload_n 0, 1) := by decide +kernel
theorem dX5_report_108 : decode cX5_report 108 = .ok (.getfield 7, 3) := by decide +kernel
theorem dX5_report_111 : decode cX5_report 111 = .ok (.iload 4, 2) := by decide +kernel
theorem dX5_report_113 : decode cX5_report 113 = .ok (.iconst 2, 1) := by decide +kernel
theorem dX5_report_114 : decode cX5_report 114 = .ok (.invokestatic 30, 3) := by decide +kernel
theorem dX5_report_117 : decode cX5_report 117 = .ok (.iload_n 3, 1) := by decide +kernel
theorem dX5_report_118 : decode cX5_report 118 = .ok (.iastore, 1) := by decide +kernel
theorem dX5_report_119 : decode cX5_report 119 = .ok (.aload_n 0, 1) := by decide +kernel
theorem dX5_report_120 : decode cX5_report 120 = .ok (.getfield 7, 3) := by decide +kernel
theorem dX5_report_123 : decode cX5_report 123 = .ok (.iload 4, 2) := by decide +kernel
theorem dX5_report_125 : decode cX5_report 125 = .ok (.iconst 5, 1) := by decide +kernel
theorem dX5_report_126 : decode cX5_report 126 = .ok (.invokestatic 30, 3) := by decide +kernel
theorem dX5_report_129 : decode cX5_report 129 = .ok (.sipush (-10009), 3) := by decide +kernel
theorem dX5_report_132 : decode cX5_report 132 = .ok (.iastore, 1) := by decide +kernel
theorem dX5_report_133 : decode cX5_report 133 = .ok (.aload_n 0, 1) := by decide +kernel
theorem dX5_report_134 : decode cX5_report 134 = .ok (.getfield 7, 3) := by decide +kernel
theorem dX5_report_137 : decode cX5_report 137 = .ok (.bipush 6, 2) := by decide +kernel
theorem dX5_report_139 : decode cX5_report 139 = .ok (.dup2, 1) := by decide +kernel
theorem dX5_report_140 : decode cX5_report 140 = .ok (.iaload, 1) := by decide +kernel
theorem dX5_report_141 : decode cX5_report 141 = .ok (.iconst 1, 1) := by decide +kernel
theorem dX5_report_142 : decode cX5_report 142 = .ok (.iadd, 1) := by decide +kernel
theorem dX5_report_143 : decode cX5_report 143 = .ok (.iastore, 1) := by decide +kernel
theorem dX5_report_144 : decode cX5_report 144 = .ok (.iload 4, 2) := by decide +kernel
theorem dX5_report_146 : decode cX5_report 146 = .ok (.ireturn, 1) := by decide +kernel
theorem dX5_originalOf_0 : decode cX5_originalOf 0 = .ok (.iconst 0, 1) := by decide +kernel
theorem dX5_originalOf_1 : decode cX5_originalOf 1 = .ok (.istore_n 2, 1) := by decide +kernel
theorem dX5_originalOf_2 : decode cX5_originalOf 2 = .ok (.iload_n 2, 1) := by decide +kernel
theorem dX5_originalOf_3 : decode cX5_originalOf 3 = .ok (.iload_n 1, 1) := by decide +kernel
theorem dX5_originalOf_4 : decode cX5_originalOf 4 = .ok (.if_icmp .ge 60, 3) := by decide +kernel
theorem dX5_originalOf_7 : decode cX5_originalOf 7 = .ok (.aload_n 0, 1) := by decide +kernel
theorem dX5_originalOf_8 : decode cX5_originalOf 8 = .ok (.iload_n 1, 1) := by decide +kernel
theorem dX5_originalOf_9 : decode cX5_originalOf 9 = .ok (.iconst 3, 1) := by decide +kernel
theorem dX5_originalOf_10 : decode cX5_originalOf 10 = .ok (.invokevirtual 53, 3) := by decide +kernel
theorem dX5_originalOf_13 : decode cX5_originalOf 13 = .ok (.ifCond .ne 51, 3) := by decide +kernel
theorem dX5_originalOf_16 : decode cX5_originalOf 16 = .ok (.aload_n 0, 1) := by decide +kernel
theorem dX5_originalOf_17 : decode cX5_originalOf 17 = .ok (.iload_n 2, 1) := by decide +kernel
theorem dX5_originalOf_18 : decode cX5_originalOf 18 = .ok (.iconst 1, 1) := by decide +kernel
theorem dX5_originalOf_19 : decode cX5_originalOf 19 = .ok (.invokevirtual 53, 3) := by decide +kernel
theorem dX5_originalOf_22 : decode cX5_originalOf 22 = .ok (.aload_n 0, 1) := by decide +kernel
theorem dX5_originalOf_23 : decode cX5_originalOf 23 = .ok (.iload_n 1, 1) := by decide +kernel
theorem dX5_originalOf_24 : decode cX5_originalOf 24 = .ok (.iconst 1, 1) := by decide +kernel
theorem dX5_originalOf_25 : decode cX5_originalOf 25 = .ok (.invokevirtual 53, 3) := by decide +kernel
theorem dX5_originalOf_28 : decode cX5_originalOf 28 = .ok (.if_icmp .ne 30, 3) := by decide +kernel
theorem dX5_originalOf_31 : decode cX5_originalOf 31 = .ok (.aload_n 0, 1) := by decide +kernel
theorem dX5_originalOf_32 : decode cX5_originalOf 32 = .ok (.iload_n 2, 1) := by decide +kernel
theorem dX5_originalOf_33 : decode cX5_originalOf 33 = .ok (.iconst 2, 1) := by decide +kernel
theorem dX5_originalOf_34 : decode cX5_originalOf 34 = .ok (.invokevirtual 53, 3) := by decide +kernel
theorem dX5_originalOf_37 : decode cX5_originalOf 37 = .ok (.aload_n 0, 1) := by decide +kernel
theorem dX5_originalOf_38 : decode cX5_originalOf 38 = .ok (.iload_n 1, 1) := by decide +kernel
theorem dX5_originalOf_39 : decode cX5_originalOf 39 = .ok (.iconst 2, 1) := by decide +kernel
theorem dX5_originalOf_40 : decode cX5_originalOf 40 = .ok (.invokevirtual 53, 3) := by decide +kernel
theorem dX5_originalOf_43 : decode cX5_originalOf 43 = .ok (.if_icmp .ne 15, 3) := by decide +kernel
theorem dX5_originalOf_46 : decode cX5_originalOf 46 = .ok (.aload_n 0, 1) := by decide +kernel
theorem dX5_originalOf_47 : decode cX5_originalOf 47 = .ok (.iload_n 2, 1) := by decide +kernel
theorem dX5_originalOf_48 : decode cX5_originalOf 48 = .ok (.iconst 3, 1) := by decide +kernel
theorem dX5_originalOf_49 : decode cX5_originalOf 49 = .ok (.invokevirtual 53, 3) := by decide +kernel
theorem dX5_originalOf_52 : decode cX5_originalOf 52 = .ok (.iconst 4, 1) := by decide +kernel
theorem dX5_originalOf_53 : decode cX5_originalOf 53 = .ok (.if_icmp .ge 5, 3) := by decide +kernel
theorem dX5_originalOf_56 : decode cX5_originalOf 56 = .ok (.iload_n 2, 1) := by decide +kernel
theorem dX5_originalOf_57 : decode cX5_originalOf 57 = .ok (.ireturn, 1) := by decide +kernel
theorem dX5_originalOf_58 : decode cX5_originalOf 58 = .ok (.iinc 2 1, 3) := by decide +kernel
theorem dX5_originalOf_61 : decode cX5_originalOf 61 = .ok (.goto (-59), 3) := by decide +kernel
theorem dX5_originalOf_64 : decode cX5_originalOf 64 = .ok (.sipush (-10009), 3) := by decide +kernel
theorem dX5_originalOf_67 : decode cX5_originalOf 67 = .ok (.ireturn, 1) := by decide +kernel
theorem dX5_original_0 : decode cX5_original 0 = .ok (.aload_n 0, 1) := by decide +kernel
theorem dX5_original_1 : decode cX5_original 1 = .ok (.iload_n 1, 1) := by decide +kernel
theorem dX5_original_2 : decode cX5_original 2 = .ok (.invokevirtual 56, 3) := by decide +kernel
theorem dX5_original_5 : decode cX5_original 5 = .ok (.ifCond .eq 11, 3) := by decide +kernel
theorem dX5_original_8 : decode cX5_original 8 = .ok (.aload_n 0, 1) := by decide +kernel
theorem dX5_original_9 : decode cX5_original 9 = .ok (.iload_n 1, 1) := by decide +kernel
theorem dX5_original_10 : decode cX5_original 10 = .ok (.invokevirtual 59, 3) := by decide +kernel
theorem dX5_original_13 : decode cX5_original 13 = .ok (.goto 6, 3) := by decide +kernel
theorem dX5_original_16 : decode cX5_original 16 = .ok (.sipush (-10001), 3) := by decide +kernel
theorem dX5_original_19 : decode cX5_original 19 = .ok (.ireturn, 1) := by decide +kernel
theorem dX5_fold_0 : decode cX5_fold 0 = .ok (.aload_n 0, 1) := by decide +kernel
theorem dX5_fold_1 : decode cX5_fold 1 = .ok (.iload_n 1, 1) := by decide +kernel
theorem dX5_fold_2 : decode cX5_fold 2 = .ok (.invokevirtual 56, 3) := by decide +kernel
theorem dX5_fold_5 : decode cX5_fold 5 = .ok (.ifCond .ne 7, 3) := by decide +kernel
theorem dX5_fold_8 : decode cX5_fold 8 = .ok (.sipush (-10001), 3) := by decide +kernel
theorem dX5_fold_11 : decode cX5_fold 11 = .ok (.ireturn, 1) := by decide +kernel
theorem dX5_fold_12 : decode cX5_fold 12 = .ok (.aload_n 0, 1) := by decide +kernel
theorem dX5_fold_13 : decode cX5_fold 13 = .ok (.iload_n 1, 1) := by decide +kernel
theorem dX5_fold_14 : decode cX5_fold 14 = .ok (.invokevirtual 59, 3) := by decide +kernel
theorem dX5_fold_17 : decode cX5_fold 17 = .ok (.istore_n 2, 1) := by decide +kernel
theorem dX5_fold_18 : decode cX5_fold 18 = .ok (.iload_n 2, 1) := by decide +kernel
theorem dX5_fold_19 : decode cX5_fold 19 = .ok (.sipush (-10009), 3) := by decide +kernel
theorem dX5_fold_22 : decode cX5_fold 22 = .ok (.if_icmp .ne 7, 3) := by decide +kernel
theorem dX5_fold_25 : decode cX5_fold 25 = .ok (.sipush (-10002), 3) := by decide +kernel
theorem dX5_fold_28 : decode cX5_fold 28 = .ok (.ireturn, 1) := by decide +kernel
theorem dX5_fold_29 : decode cX5_fold 29 = .ok (.aload_n 0, 1) := by decide +kernel
theorem dX5_fold_30 : decode cX5_fold 30 = .ok (.invokevirtual 34, 3) := by decide +kernel
theorem dX5_fold_33 : decode cX5_fold 33 = .ok (.aload_n 0, 1) := by decide +kernel
theorem dX5_fold_34 : decode cX5_fold 34 = .ok (.getfield 7, 3) := by decide +kernel
theorem dX5_fold_37 : decode cX5_fold 37 = .ok (.iload_n 1, 1) := by decide +kernel
theorem dX5_fold_38 : decode cX5_fold 38 = .ok (.iconst 3, 1) := by decide +kernel
theorem dX5_fold_39 : decode cX5_fold 39 = .ok (.invokestatic 30, 3) := by decide +kernel
theorem dX5_fold_42 : decode cX5_fold 42 = .ok (.iconst 5, 1) := by decide +kernel
theorem dX5_fold_43 : decode cX5_fold 43 = .ok (.iastore, 1) := by decide +kernel
theorem dX5_fold_44 : decode cX5_fold 44 = .ok (.aload_n 0, 1) := by decide +kernel
theorem dX5_fold_45 : decode cX5_fold 45 = .ok (.getfield 7, 3) := by decide +kernel
theorem dX5_fold_48 : decode cX5_fold 48 = .ok (.iload_n 1, 1) := by decide +kernel
theorem dX5_fold_49 : decode cX5_fold 49 = .ok (.iconst 5, 1) := by decide +kernel
theorem dX5_fold_50 : decode cX5_fold 50 = .ok (.invokestatic 30, 3) := by decide +kernel
theorem dX5_fold_53 : decode cX5_fold 53 = .ok (.iload_n 2, 1) := by decide +kernel
theorem dX5_fold_54 : decode cX5_fold 54 = .ok (.iastore, 1) := by decide +kernel
theorem dX5_fold_55 : decode cX5_fold 55 = .ok (.iload_n 2, 1) := by decide +kernel
theorem dX5_fold_56 : decode cX5_fold 56 = .ok (.ireturn, 1) := by decide +kernel
theorem dX5_unfolds_0 : decode cX5_unfolds 0 = .ok (.iconst 0, 1) := by decide +kernel
theorem dX5_unfolds_1 : decode cX5_unfolds 1 = .ok (.istore_n 2, 1) := by decide +kernel
theorem dX5_unfolds_2 : decode cX5_unfolds 2 = .ok (.iconst 0, 1) := by decide +kernel
theorem dX5_unfolds_3 : decode cX5_unfolds 3 = .ok (.istore_n 3, 1) := by decide +kernel
theorem dX5_unfolds_4 : decode cX5_unfolds 4 = .ok (.iload_n 3, 1) := by decide +kernel
theorem dX5_unfolds_5 : decode cX5_unfolds 5 = .ok (.aload_n 0, 1) := by decide +kernel
theorem dX5_unfolds_6 : decode cX5_unfolds 6 = .ok (.getfield 7, 3) := by decide +kernel
theorem dX5_unfolds_9 : decode cX5_unfolds 9 = .ok (.bipush 6, 2) := by decide +kernel
theorem dX5_unfolds_11 : decode cX5_unfolds 11 = .ok (.iaload, 1) := by decide +kernel
theorem dX5_unfolds_12 : decode cX5_unfolds 12 = .ok (.if_icmp .ge 56, 3) := by decide +kernel
theorem dX5_unfolds_15 : decode cX5_unfolds 15 = .ok (.aload_n 0, 1) := by decide +kernel
theorem dX5_unfolds_16 : decode cX5_unfolds 16 = .ok (.iload_n 3, 1) := by decide +kernel
theorem dX5_unfolds_17 : decode cX5_unfolds 17 = .ok (.iconst 3, 1) := by decide +kernel
theorem dX5_unfolds_18 : decode cX5_unfolds 18 = .ok (.invokevirtual 53, 3) := by decide +kernel
theorem dX5_unfolds_21 : decode cX5_unfolds 21 = .ok (.iconst 5, 1) := by decide +kernel
theorem dX5_unfolds_22 : decode cX5_unfolds 22 = .ok (.if_icmp .ne 40, 3) := by decide +kernel
theorem dX5_unfolds_25 : decode cX5_unfolds 25 = .ok (.aload_n 0, 1) := by decide +kernel
theorem dX5_unfolds_26 : decode cX5_unfolds 26 = .ok (.iload_n 3, 1) := by decide +kernel
theorem dX5_unfolds_27 : decode cX5_unfolds 27 = .ok (.iconst 5, 1) := by decide +kernel
theorem dX5_unfolds_28 : decode cX5_unfolds 28 = .ok (.invokevirtual 53, 3) := by decide +kernel
theorem dX5_unfolds_31 : decode cX5_unfolds 31 = .ok (.iload_n 1, 1) := by decide +kernel
theorem dX5_unfolds_32 : decode cX5_unfolds 32 = .ok (.if_icmp .ne 30, 3) := by decide +kernel
theorem dX5_unfolds_35 : decode cX5_unfolds 35 = .ok (.aload_n 0, 1) := by decide +kernel
theorem dX5_unfolds_36 : decode cX5_unfolds 36 = .ok (.getfield 7, 3) := by decide +kernel
theorem dX5_unfolds_39 : decode cX5_unfolds 39 = .ok (.iload_n 3, 1) := by decide +kernel
theorem dX5_unfolds_40 : decode cX5_unfolds 40 = .ok (.iconst 3, 1) := by decide +kernel
theorem dX5_unfolds_41 : decode cX5_unfolds 41 = .ok (.invokestatic 30, 3) := by decide +kernel
theorem dX5_unfolds_44 : decode cX5_unfolds 44 = .ok (.iconst 0, 1) := by decide +kernel
theorem dX5_unfolds_45 : decode cX5_unfolds 45 = .ok (.iastore, 1) := by decide +kernel
theorem dX5_unfolds_46 : decode cX5_unfolds 46 = .ok (.aload_n 0, 1) := by decide +kernel
theorem dX5_unfolds_47 : decode cX5_unfolds 47 = .ok (.getfield 7, 3) := by decide +kernel
theorem dX5_unfolds_50 : decode cX5_unfolds 50 = .ok (.iload_n 3, 1) := by decide +kernel
theorem dX5_unfolds_51 : decode cX5_unfolds 51 = .ok (.iconst 5, 1) := by decide +kernel
theorem dX5_unfolds_52 : decode cX5_unfolds 52 = .ok (.invokestatic 30, 3) := by decide +kernel
theorem dX5_unfolds_55 : decode cX5_unfolds 55 = .ok (.sipush (-10009), 3) := by decide +kernel
theorem dX5_unfolds_58 : decode cX5_unfolds 58 = .ok (.iastore, 1) := by decide +kernel
theorem dX5_unfolds_59 : decode cX5_unfolds 59 = .ok (.iinc 2 1, 3) := by decide +kernel
theorem dX5_unfolds_62 : decode cX5_unfolds 62 = .ok (.iinc 3 1, 3) := by decide +kernel
theorem dX5_unfolds_65 : decode cX5_unfolds 65 = .ok (.goto (-61), 3) := by decide +kernel
theorem dX5_unfolds_68 : decode cX5_unfolds 68 = .ok (.iload_n 2, 1) := by decide +kernel
theorem dX5_unfolds_69 : decode cX5_unfolds 69 = .ok (.ireturn, 1) := by decide +kernel
theorem dX5_priceBy_0 : decode cX5_priceBy 0 = .ok (.iload_n 2, 1) := by decide +kernel
theorem dX5_priceBy_1 : decode cX5_priceBy 1 = .ok (.iload_n 2, 1) := by decide +kernel
theorem dX5_priceBy_2 : decode cX5_priceBy 2 = .ok (.imul, 1) := by decide +kernel
theorem dX5_priceBy_3 : decode cX5_priceBy 3 = .ok (.aload_n 0, 1) := by decide +kernel
theorem dX5_priceBy_4 : decode cX5_priceBy 4 = .ok (.getfield 7, 3) := by decide +kernel
theorem dX5_priceBy_7 : decode cX5_priceBy 7 = .ok (.aload_n 0, 1) := by decide +kernel
theorem dX5_priceBy_8 : decode cX5_priceBy 8 = .ok (.iload_n 1, 1) := by decide +kernel
theorem dX5_priceBy_9 : decode cX5_priceBy 9 = .ok (.iconst 1, 1) := by decide +kernel
theorem dX5_priceBy_10 : decode cX5_priceBy 10 = .ok (.invokevirtual 53, 3) := by decide +kernel
theorem dX5_priceBy_13 : decode cX5_priceBy 13 = .ok (.iconst 0, 1) := by decide +kernel
theorem dX5_priceBy_14 : decode cX5_priceBy 14 = .ok (.invokestatic 37, 3) := by decide +kernel
theorem dX5_priceBy_17 : decode cX5_priceBy 17 = .ok (.iaload, 1) := by decide +kernel
theorem dX5_priceBy_18 : decode cX5_priceBy 18 = .ok (.imul, 1) := by decide +kernel
theorem dX5_priceBy_19 : decode cX5_priceBy 19 = .ok (.bipush 10, 2) := by decide +kernel
theorem dX5_priceBy_21 : decode cX5_priceBy 21 = .ok (.imul, 1) := by decide +kernel
theorem dX5_priceBy_22 : decode cX5_priceBy 22 = .ok (.aload_n 0, 1) := by decide +kernel
theorem dX5_priceBy_23 : decode cX5_priceBy 23 = .ok (.getfield 7, 3) := by decide +kernel
theorem dX5_priceBy_26 : decode cX5_priceBy 26 = .ok (.iconst 2, 1) := by decide +kernel
theorem dX5_priceBy_27 : decode cX5_priceBy 27 = .ok (.iaload, 1) := by decide +kernel
theorem dX5_priceBy_28 : decode cX5_priceBy 28 = .ok (.imul, 1) := by decide +kernel
theorem dX5_priceBy_29 : decode cX5_priceBy 29 = .ok (.bipush 100, 2) := by decide +kernel
theorem dX5_priceBy_31 : decode cX5_priceBy 31 = .ok (.idiv, 1) := by decide +kernel
theorem dX5_priceBy_32 : decode cX5_priceBy 32 = .ok (.ireturn, 1) := by decide +kernel
theorem dX5_price_0 : decode cX5_price 0 = .ok (.aload_n 0, 1) := by decide +kernel
theorem dX5_price_1 : decode cX5_price 1 = .ok (.iload_n 1, 1) := by decide +kernel
theorem dX5_price_2 : decode cX5_price 2 = .ok (.aload_n 0, 1) := by decide +kernel
theorem dX5_price_3 : decode cX5_price 3 = .ok (.iload_n 1, 1) := by decide +kernel
theorem dX5_price_4 : decode cX5_price 4 = .ok (.iconst 4, 1) := by decide +kernel
theorem dX5_price_5 : decode cX5_price 5 = .ok (.invokevirtual 53, 3) := by decide +kernel
theorem dX5_price_8 : decode cX5_price 8 = .ok (.invokevirtual 63, 3) := by decide +kernel
theorem dX5_price_11 : decode cX5_price 11 = .ok (.ireturn, 1) := by decide +kernel
theorem dX5_isDue_0 : decode cX5_isDue 0 = .ok (.aload_n 0, 1) := by decide +kernel
theorem dX5_isDue_1 : decode cX5_isDue 1 = .ok (.iload_n 1, 1) := by decide +kernel
theorem dX5_isDue_2 : decode cX5_isDue 2 = .ok (.iconst 3, 1) := by decide +kernel
theorem dX5_isDue_3 : decode cX5_isDue 3 = .ok (.invokevirtual 53, 3) := by decide +kernel
theorem dX5_isDue_6 : decode cX5_isDue 6 = .ok (.iconst 1, 1) := by decide +kernel
theorem dX5_isDue_7 : decode cX5_isDue 7 = .ok (.if_icmp .eq 13, 3) := by decide +kernel
theorem dX5_isDue_10 : decode cX5_isDue 10 = .ok (.aload_n 0, 1) := by decide +kernel
theorem dX5_isDue_11 : decode cX5_isDue 11 = .ok (.iload_n 1, 1) := by decide +kernel
theorem dX5_isDue_12 : decode cX5_isDue 12 = .ok (.iconst 3, 1) := by decide +kernel
theorem dX5_isDue_13 : decode cX5_isDue 13 = .ok (.invokevirtual 53, 3) := by decide +kernel
theorem dX5_isDue_16 : decode cX5_isDue 16 = .ok (.iconst 2, 1) := by decide +kernel
theorem dX5_isDue_17 : decode cX5_isDue 17 = .ok (.if_icmp .ne 7, 3) := by decide +kernel
theorem dX5_isDue_20 : decode cX5_isDue 20 = .ok (.iconst 1, 1) := by decide +kernel
theorem dX5_isDue_21 : decode cX5_isDue 21 = .ok (.goto 4, 3) := by decide +kernel
theorem dX5_isDue_24 : decode cX5_isDue 24 = .ok (.iconst 0, 1) := by decide +kernel
theorem dX5_isDue_25 : decode cX5_isDue 25 = .ok (.ireturn, 1) := by decide +kernel
theorem dX5_isOpen_0 : decode cX5_isOpen 0 = .ok (.aload_n 0, 1) := by decide +kernel
theorem dX5_isOpen_1 : decode cX5_isOpen 1 = .ok (.iload_n 1, 1) := by decide +kernel
theorem dX5_isOpen_2 : decode cX5_isOpen 2 = .ok (.bipush 6, 2) := by decide +kernel
theorem dX5_isOpen_4 : decode cX5_isOpen 4 = .ok (.invokevirtual 53, 3) := by decide +kernel
theorem dX5_isOpen_7 : decode cX5_isOpen 7 = .ok (.iconst 1, 1) := by decide +kernel
theorem dX5_isOpen_8 : decode cX5_isOpen 8 = .ok (.if_icmp .ne 7, 3) := by decide +kernel
theorem dX5_isOpen_11 : decode cX5_isOpen 11 = .ok (.iconst 1, 1) := by decide +kernel
theorem dX5_isOpen_12 : decode cX5_isOpen 12 = .ok (.goto 4, 3) := by decide +kernel
theorem dX5_isOpen_15 : decode cX5_isOpen 15 = .ok (.iconst 0, 1) := by decide +kernel
theorem dX5_isOpen_16 : decode cX5_isOpen 16 = .ok (.ireturn, 1) := by decide +kernel
theorem dX5_grade_0 : decode cX5_grade 0 = .ok (.aload_n 0, 1) := by decide +kernel
theorem dX5_grade_1 : decode cX5_grade 1 = .ok (.iload_n 1, 1) := by decide +kernel
theorem dX5_grade_2 : decode cX5_grade 2 = .ok (.invokevirtual 56, 3) := by decide +kernel
theorem dX5_grade_5 : decode cX5_grade 5 = .ok (.ifCond .eq 12, 3) := by decide +kernel
theorem dX5_grade_8 : decode cX5_grade 8 = .ok (.iload_n 2, 1) := by decide +kernel
theorem dX5_grade_9 : decode cX5_grade 9 = .ok (.iconst 1, 1) := by decide +kernel
theorem dX5_grade_10 : decode cX5_grade 10 = .ok (.iconst 4, 1) := by decide +kernel
theorem dX5_grade_11 : decode cX5_grade 11 = .ok (.invokestatic 26, 3) := by decide +kernel
theorem dX5_grade_14 : decode cX5_grade 14 = .ok (.ifCond .ne 7, 3) := by decide +kernel
theorem dX5_grade_17 : decode cX5_grade 17 = .ok (.sipush (-10001), 3) := by decide +kernel
theorem dX5_grade_20 : decode cX5_grade 20 = .ok (.ireturn, 1) := by decide +kernel
theorem dX5_grade_21 : decode cX5_grade 21 = .ok (.aload_n 0, 1) := by decide +kernel
theorem dX5_grade_22 : decode cX5_grade 22 = .ok (.iload_n 1, 1) := by decide +kernel
theorem dX5_grade_23 : decode cX5_grade 23 = .ok (.iconst 3, 1) := by decide +kernel
theorem dX5_grade_24 : decode cX5_grade 24 = .ok (.invokevirtual 53, 3) := by decide +kernel
theorem dX5_grade_27 : decode cX5_grade 27 = .ok (.ifCond .eq 7, 3) := by decide +kernel
theorem dX5_grade_30 : decode cX5_grade 30 = .ok (.sipush (-10002), 3) := by decide +kernel
theorem dX5_grade_33 : decode cX5_grade 33 = .ok (.ireturn, 1) := by decide +kernel
theorem dX5_grade_34 : decode cX5_grade 34 = .ok (.aload_n 0, 1) := by decide +kernel
theorem dX5_grade_35 : decode cX5_grade 35 = .ok (.invokevirtual 34, 3) := by decide +kernel
theorem dX5_grade_38 : decode cX5_grade 38 = .ok (.aload_n 0, 1) := by decide +kernel
theorem dX5_grade_39 : decode cX5_grade 39 = .ok (.getfield 7, 3) := by decide +kernel
theorem dX5_grade_42 : decode cX5_grade 42 = .ok (.iload_n 1, 1) := by decide +kernel
theorem dX5_grade_43 : decode cX5_grade 43 = .ok (.iconst 3, 1) := by decide +kernel
theorem dX5_grade_44 : decode cX5_grade 44 = .ok (.invokestatic 30, 3) := by decide +kernel
theorem dX5_grade_47 : decode cX5_grade 47 = .ok (.iconst 1, 1) := by decide +kernel
theorem dX5_grade_48 : decode cX5_grade 48 = .ok (.iastore, 1) := by decide +kernel
theorem dX5_grade_49 : decode cX5_grade 49 = .ok (.aload_n 0, 1) := by decide +kernel
theorem dX5_grade_50 : decode cX5_grade 50 = .ok (.getfield 7, 3) := by decide +kernel
theorem dX5_grade_53 : decode cX5_grade 53 = .ok (.iload_n 1, 1) := by decide +kernel
theorem dX5_grade_54 : decode cX5_grade 54 = .ok (.iconst 4, 1) := by decide +kernel
theorem dX5_grade_55 : decode cX5_grade 55 = .ok (.invokestatic 30, 3) := by decide +kernel
theorem dX5_grade_58 : decode cX5_grade 58 = .ok (.iload_n 2, 1) := by decide +kernel
theorem dX5_grade_59 : decode cX5_grade 59 = .ok (.iastore, 1) := by decide +kernel
theorem dX5_grade_60 : decode cX5_grade 60 = .ok (.aload_n 0, 1) := by decide +kernel
theorem dX5_grade_61 : decode cX5_grade 61 = .ok (.iload_n 1, 1) := by decide +kernel
theorem dX5_grade_62 : decode cX5_grade 62 = .ok (.invokevirtual 66, 3) := by decide +kernel
theorem dX5_grade_65 : decode cX5_grade 65 = .ok (.ireturn, 1) := by decide +kernel
theorem dX5_refuse_0 : decode cX5_refuse 0 = .ok (.aload_n 0, 1) := by decide +kernel
theorem dX5_refuse_1 : decode cX5_refuse 1 = .ok (.iload_n 1, 1) := by decide +kernel
theorem dX5_refuse_2 : decode cX5_refuse 2 = .ok (.invokevirtual 56, 3) := by decide +kernel
theorem dX5_refuse_5 : decode cX5_refuse 5 = .ok (.ifCond .ne 7, 3) := by decide +kernel
theorem dX5_refuse_8 : decode cX5_refuse 8 = .ok (.sipush (-10001), 3) := by decide +kernel
theorem dX5_refuse_11 : decode cX5_refuse 11 = .ok (.ireturn, 1) := by decide +kernel
theorem dX5_refuse_12 : decode cX5_refuse 12 = .ok (.aload_n 0, 1) := by decide +kernel
theorem dX5_refuse_13 : decode cX5_refuse 13 = .ok (.iload_n 1, 1) := by decide +kernel
theorem dX5_refuse_14 : decode cX5_refuse 14 = .ok (.iconst 3, 1) := by decide +kernel
theorem dX5_refuse_15 : decode cX5_refuse 15 = .ok (.invokevirtual 53, 3) := by decide +kernel
theorem dX5_refuse_18 : decode cX5_refuse 18 = .ok (.iconst 3, 1) := by decide +kernel
theorem dX5_refuse_19 : decode cX5_refuse 19 = .ok (.if_icmp .ge 11, 3) := by decide +kernel
theorem dX5_refuse_22 : decode cX5_refuse 22 = .ok (.aload_n 0, 1) := by decide +kernel
theorem dX5_refuse_23 : decode cX5_refuse 23 = .ok (.iload_n 1, 1) := by decide +kernel
theorem dX5_refuse_24 : decode cX5_refuse 24 = .ok (.invokevirtual 69, 3) := by decide +kernel
theorem dX5_refuse_27 : decode cX5_refuse 27 = .ok (.ifCond .eq 7, 3) := by decide +kernel
theorem dX5_refuse_30 : decode cX5_refuse 30 = .ok (.sipush (-10002), 3) := by decide +kernel
theorem dX5_refuse_33 : decode cX5_refuse 33 = .ok (.ireturn, 1) := by decide +kernel
theorem dX5_refuse_34 : decode cX5_refuse 34 = .ok (.aload_n 0, 1) := by decide +kernel
theorem dX5_refuse_35 : decode cX5_refuse 35 = .ok (.invokevirtual 34, 3) := by decide +kernel
theorem dX5_refuse_38 : decode cX5_refuse 38 = .ok (.aload_n 0, 1) := by decide +kernel
theorem dX5_refuse_39 : decode cX5_refuse 39 = .ok (.getfield 7, 3) := by decide +kernel
theorem dX5_refuse_42 : decode cX5_refuse 42 = .ok (.iload_n 1, 1) := by decide +kernel
theorem dX5_refuse_43 : decode cX5_refuse 43 = .ok (.iconst 3, 1) := by decide +kernel
theorem dX5_refuse_44 : decode cX5_refuse 44 = .ok (.invokestatic 30, 3) := by decide +kernel
theorem dX5_refuse_47 : decode cX5_refuse 47 = .ok (.iconst 4, 1) := by decide +kernel
theorem dX5_refuse_48 : decode cX5_refuse 48 = .ok (.iastore, 1) := by decide +kernel
theorem dX5_refuse_49 : decode cX5_refuse 49 = .ok (.aload_n 0, 1) := by decide +kernel
theorem dX5_refuse_50 : decode cX5_refuse 50 = .ok (.iload_n 1, 1) := by decide +kernel
theorem dX5_refuse_51 : decode cX5_refuse 51 = .ok (.invokevirtual 72, 3) := by decide +kernel
theorem dX5_refuse_54 : decode cX5_refuse 54 = .ok (.ireturn, 1) := by decide +kernel
theorem dX5_appeal_0 : decode cX5_appeal 0 = .ok (.aload_n 0, 1) := by decide +kernel
theorem dX5_appeal_1 : decode cX5_appeal 1 = .ok (.iload_n 1, 1) := by decide +kernel
theorem dX5_appeal_2 : decode cX5_appeal 2 = .ok (.invokevirtual 56, 3) := by decide +kernel
theorem dX5_appeal_5 : decode cX5_appeal 5 = .ok (.ifCond .eq 12, 3) := by decide +kernel
theorem dX5_appeal_8 : decode cX5_appeal 8 = .ok (.iload_n 2, 1) := by decide +kernel
theorem dX5_appeal_9 : decode cX5_appeal 9 = .ok (.iconst 2, 1) := by decide +kernel
theorem dX5_appeal_10 : decode cX5_appeal 10 = .ok (.iconst 4, 1) := by decide +kernel
theorem dX5_appeal_11 : decode cX5_appeal 11 = .ok (.invokestatic 26, 3) := by decide +kernel
theorem dX5_appeal_14 : decode cX5_appeal 14 = .ok (.ifCond .ne 7, 3) := by decide +kernel
theorem dX5_appeal_17 : decode cX5_appeal 17 = .ok (.sipush (-10001), 3) := by decide +kernel
theorem dX5_appeal_20 : decode cX5_appeal 20 = .ok (.ireturn, 1) := by decide +kernel
theorem dX5_appeal_21 : decode cX5_appeal 21 = .ok (.aload_n 0, 1) := by decide +kernel
theorem dX5_appeal_22 : decode cX5_appeal 22 = .ok (.iload_n 1, 1) := by decide +kernel
theorem dX5_appeal_23 : decode cX5_appeal 23 = .ok (.invokevirtual 75, 3) := by decide +kernel
theorem dX5_appeal_26 : decode cX5_appeal 26 = .ok (.ifCond .eq 23, 3) := by decide +kernel
theorem dX5_appeal_29 : decode cX5_appeal 29 = .ok (.aload_n 0, 1) := by decide +kernel
theorem dX5_appeal_30 : decode cX5_appeal 30 = .ok (.iload_n 1, 1) := by decide +kernel
theorem dX5_appeal_31 : decode cX5_appeal 31 = .ok (.bipush 6, 2) := by decide +kernel
theorem dX5_appeal_33 : decode cX5_appeal 33 = .ok (.invokevirtual 53, 3) := by decide +kernel
theorem dX5_appeal_36 : decode cX5_appeal 36 = .ok (.ifCond .ne 13, 3) := by decide +kernel
theorem dX5_appeal_39 : decode cX5_appeal 39 = .ok (.iload_n 2, 1) := by decide +kernel
theorem dX5_appeal_40 : decode cX5_appeal 40 = .ok (.aload_n 0, 1) := by decide +kernel
theorem dX5_appeal_41 : decode cX5_appeal 41 = .ok (.iload_n 1, 1) := by decide +kernel
theorem dX5_appeal_42 : decode cX5_appeal 42 = .ok (.iconst 4, 1) := by decide +kernel
theorem dX5_appeal_43 : decode cX5_appeal 43 = .ok (.invokevirtual 53, 3) := by decide +kernel
theorem dX5_appeal_46 : decode cX5_appeal 46 = .ok (.if_icmp .gt 7, 3) := by decide +kernel
theorem dX5_appeal_49 : decode cX5_appeal 49 = .ok (.sipush (-10002), 3) := by decide +kernel
theorem dX5_appeal_52 : decode cX5_appeal 52 = .ok (.ireturn, 1) := by decide +kernel
theorem dX5_appeal_53 : decode cX5_appeal 53 = .ok (.aload_n 0, 1) := by decide +kernel
theorem dX5_appeal_54 : decode cX5_appeal 54 = .ok (.invokevirtual 34, 3) := by decide +kernel
theorem dX5_appeal_57 : decode cX5_appeal 57 = .ok (.aload_n 0, 1) := by decide +kernel
theorem dX5_appeal_58 : decode cX5_appeal 58 = .ok (.getfield 7, 3) := by decide +kernel
theorem dX5_appeal_61 : decode cX5_appeal 61 = .ok (.iload_n 1, 1) := by decide +kernel
theorem dX5_appeal_62 : decode cX5_appeal 62 = .ok (.bipush 6, 2) := by decide +kernel
theorem dX5_appeal_64 : decode cX5_appeal 64 = .ok (.invokestatic 30, 3) := by decide +kernel
theorem dX5_appeal_67 : decode cX5_appeal 67 = .ok (.iconst 1, 1) := by decide +kernel
theorem dX5_appeal_68 : decode cX5_appeal 68 = .ok (.iastore, 1) := by decide +kernel
theorem dX5_appeal_69 : decode cX5_appeal 69 = .ok (.aload_n 0, 1) := by decide +kernel
theorem dX5_appeal_70 : decode cX5_appeal 70 = .ok (.getfield 7, 3) := by decide +kernel
theorem dX5_appeal_73 : decode cX5_appeal 73 = .ok (.iload_n 1, 1) := by decide +kernel
theorem dX5_appeal_74 : decode cX5_appeal 74 = .ok (.bipush 7, 2) := by decide +kernel
theorem dX5_appeal_76 : decode cX5_appeal 76 = .ok (.invokestatic 30, 3) := by decide +kernel
theorem dX5_appeal_79 : decode cX5_appeal 79 = .ok (.iload_n 2, 1) := by decide +kernel
theorem dX5_appeal_80 : decode cX5_appeal 80 = .ok (.iastore, 1) := by decide +kernel
theorem dX5_appeal_81 : decode cX5_appeal 81 = .ok (.aload_n 0, 1) := by decide +kernel
theorem dX5_appeal_82 : decode cX5_appeal 82 = .ok (.iload_n 1, 1) := by decide +kernel
theorem dX5_appeal_83 : decode cX5_appeal 83 = .ok (.iload_n 2, 1) := by decide +kernel
theorem dX5_appeal_84 : decode cX5_appeal 84 = .ok (.invokevirtual 63, 3) := by decide +kernel
theorem dX5_appeal_87 : decode cX5_appeal 87 = .ok (.ireturn, 1) := by decide +kernel
theorem dX5_decide_0 : decode cX5_decide 0 = .ok (.aload_n 0, 1) := by decide +kernel
theorem dX5_decide_1 : decode cX5_decide 1 = .ok (.iload_n 1, 1) := by decide +kernel
theorem dX5_decide_2 : decode cX5_decide 2 = .ok (.invokevirtual 56, 3) := by decide +kernel
theorem dX5_decide_5 : decode cX5_decide 5 = .ok (.ifCond .ne 7, 3) := by decide +kernel
theorem dX5_decide_8 : decode cX5_decide 8 = .ok (.sipush (-10001), 3) := by decide +kernel
theorem dX5_decide_11 : decode cX5_decide 11 = .ok (.ireturn, 1) := by decide +kernel
theorem dX5_decide_12 : decode cX5_decide 12 = .ok (.aload_n 0, 1) := by decide +kernel
theorem dX5_decide_13 : decode cX5_decide 13 = .ok (.iload_n 1, 1) := by decide +kernel
theorem dX5_decide_14 : decode cX5_decide 14 = .ok (.invokevirtual 69, 3) := by decide +kernel
theorem dX5_decide_17 : decode cX5_decide 17 = .ok (.ifCond .ne 7, 3) := by decide +kernel
theorem dX5_decide_20 : decode cX5_decide 20 = .ok (.sipush (-10002), 3) := by decide +kernel
theorem dX5_decide_23 : decode cX5_decide 23 = .ok (.ireturn, 1) := by decide +kernel
theorem dX5_decide_24 : decode cX5_decide 24 = .ok (.aload_n 0, 1) := by decide +kernel
theorem dX5_decide_25 : decode cX5_decide 25 = .ok (.iload_n 1, 1) := by decide +kernel
theorem dX5_decide_26 : decode cX5_decide 26 = .ok (.iconst 4, 1) := by decide +kernel
theorem dX5_decide_27 : decode cX5_decide 27 = .ok (.invokevirtual 53, 3) := by decide +kernel
theorem dX5_decide_30 : decode cX5_decide 30 = .ok (.istore_n 3, 1) := by decide +kernel
theorem dX5_decide_31 : decode cX5_decide 31 = .ok (.iload_n 2, 1) := by decide +kernel
theorem dX5_decide_32 : decode cX5_decide 32 = .ok (.iload_n 3, 1) := by decide +kernel
theorem dX5_decide_33 : decode cX5_decide 33 = .ok (.aload_n 0, 1) := by decide +kernel
theorem dX5_decide_34 : decode cX5_decide 34 = .ok (.iload_n 1, 1) := by decide +kernel
theorem dX5_decide_35 : decode cX5_decide 35 = .ok (.bipush 7, 2) := by decide +kernel
theorem dX5_decide_37 : decode cX5_decide 37 = .ok (.invokevirtual 53, 3) := by decide +kernel
theorem dX5_decide_40 : decode cX5_decide 40 = .ok (.invokestatic 26, 3) := by decide +kernel
theorem dX5_decide_43 : decode cX5_decide 43 = .ok (.ifCond .ne 7, 3) := by decide +kernel
theorem dX5_decide_46 : decode cX5_decide 46 = .ok (.sipush (-10001), 3) := by decide +kernel
theorem dX5_decide_49 : decode cX5_decide 49 = .ok (.ireturn, 1) := by decide +kernel
theorem dX5_decide_50 : decode cX5_decide 50 = .ok (.aload_n 0, 1) := by decide +kernel
theorem dX5_decide_51 : decode cX5_decide 51 = .ok (.invokevirtual 34, 3) := by decide +kernel
theorem dX5_decide_54 : decode cX5_decide 54 = .ok (.aload_n 0, 1) := by decide +kernel
theorem dX5_decide_55 : decode cX5_decide 55 = .ok (.getfield 7, 3) := by decide +kernel
theorem dX5_decide_58 : decode cX5_decide 58 = .ok (.iload_n 1, 1) := by decide +kernel
theorem dX5_decide_59 : decode cX5_decide 59 = .ok (.bipush 6, 2) := by decide +kernel
theorem dX5_decide_61 : decode cX5_decide 61 = .ok (.invokestatic 30, 3) := by decide +kernel
theorem dX5_decide_64 : decode cX5_decide 64 = .ok (.iconst 2, 1) := by decide +kernel
theorem dX5_decide_65 : decode cX5_decide 65 = .ok (.iastore, 1) := by decide +kernel
theorem dX5_decide_66 : decode cX5_decide 66 = .ok (.aload_n 0, 1) := by decide +kernel
theorem dX5_decide_67 : decode cX5_decide 67 = .ok (.getfield 7, 3) := by decide +kernel
theorem dX5_decide_70 : decode cX5_decide 70 = .ok (.iload_n 1, 1) := by decide +kernel
theorem dX5_decide_71 : decode cX5_decide 71 = .ok (.iconst 4, 1) := by decide +kernel
theorem dX5_decide_72 : decode cX5_decide 72 = .ok (.invokestatic 30, 3) := by decide +kernel
theorem dX5_decide_75 : decode cX5_decide 75 = .ok (.iload_n 2, 1) := by decide +kernel
theorem dX5_decide_76 : decode cX5_decide 76 = .ok (.iastore, 1) := by decide +kernel
theorem dX5_decide_77 : decode cX5_decide 77 = .ok (.iload_n 2, 1) := by decide +kernel
theorem dX5_decide_78 : decode cX5_decide 78 = .ok (.aload_n 0, 1) := by decide +kernel
theorem dX5_decide_79 : decode cX5_decide 79 = .ok (.iload_n 1, 1) := by decide +kernel
theorem dX5_decide_80 : decode cX5_decide 80 = .ok (.bipush 7, 2) := by decide +kernel
theorem dX5_decide_82 : decode cX5_decide 82 = .ok (.invokevirtual 53, 3) := by decide +kernel
theorem dX5_decide_85 : decode cX5_decide 85 = .ok (.if_icmp .ne 7, 3) := by decide +kernel
theorem dX5_decide_88 : decode cX5_decide 88 = .ok (.iconst 2, 1) := by decide +kernel
theorem dX5_decide_89 : decode cX5_decide 89 = .ok (.goto 13, 3) := by decide +kernel
theorem dX5_decide_92 : decode cX5_decide 92 = .ok (.iload_n 2, 1) := by decide +kernel
theorem dX5_decide_93 : decode cX5_decide 93 = .ok (.iload_n 3, 1) := by decide +kernel
theorem dX5_decide_94 : decode cX5_decide 94 = .ok (.if_icmp .le 7, 3) := by decide +kernel
theorem dX5_decide_97 : decode cX5_decide 97 = .ok (.iconst 1, 1) := by decide +kernel
theorem dX5_decide_98 : decode cX5_decide 98 = .ok (.goto 4, 3) := by decide +kernel
theorem dX5_decide_101 : decode cX5_decide 101 = .ok (.iconst 0, 1) := by decide +kernel
theorem dX5_decide_102 : decode cX5_decide 102 = .ok (.istore 4, 2) := by decide +kernel
theorem dX5_decide_104 : decode cX5_decide 104 = .ok (.aload_n 0, 1) := by decide +kernel
theorem dX5_decide_105 : decode cX5_decide 105 = .ok (.getfield 7, 3) := by decide +kernel
theorem dX5_decide_108 : decode cX5_decide 108 = .ok (.aload_n 0, 1) := by decide +kernel
theorem dX5_decide_109 : decode cX5_decide 109 = .ok (.iload_n 1, 1) := by decide +kernel
theorem dX5_decide_110 : decode cX5_decide 110 = .ok (.iconst 0, 1) := by decide +kernel
theorem dX5_decide_111 : decode cX5_decide 111 = .ok (.invokevirtual 53, 3) := by decide +kernel
theorem dX5_decide_114 : decode cX5_decide 114 = .ok (.iconst 1, 1) := by decide +kernel
theorem dX5_decide_115 : decode cX5_decide 115 = .ok (.invokestatic 78, 3) := by decide +kernel
theorem dX5_decide_118 : decode cX5_decide 118 = .ok (.dup2, 1) := by decide +kernel
theorem dX5_decide_119 : decode cX5_decide 119 = .ok (.iaload, 1) := by decide +kernel
theorem dX5_decide_120 : decode cX5_decide 120 = .ok (.iload 4, 2) := by decide +kernel
theorem dX5_decide_122 : decode cX5_decide 122 = .ok (.iconst 2, 1) := by decide +kernel
theorem dX5_decide_123 : decode cX5_decide 123 = .ok (.if_icmp .ne 7, 3) := by decide +kernel
theorem dX5_decide_126 : decode cX5_decide 126 = .ok (.iconst 1, 1) := by decide +kernel
theorem dX5_decide_127 : decode cX5_decide 127 = .ok (.goto 4, 3) := by decide +kernel
theorem dX5_decide_130 : decode cX5_decide 130 = .ok (.iconst 0, 1) := by decide +kernel
theorem dX5_decide_131 : decode cX5_decide 131 = .ok (.iadd, 1) := by decide +kernel
theorem dX5_decide_132 : decode cX5_decide 132 = .ok (.iastore, 1) := by decide +kernel
theorem dX5_decide_133 : decode cX5_decide 133 = .ok (.aload_n 0, 1) := by decide +kernel
theorem dX5_decide_134 : decode cX5_decide 134 = .ok (.getfield 7, 3) := by decide +kernel
theorem dX5_decide_137 : decode cX5_decide 137 = .ok (.aload_n 0, 1) := by decide +kernel
theorem dX5_decide_138 : decode cX5_decide 138 = .ok (.iload_n 1, 1) := by decide +kernel
theorem dX5_decide_139 : decode cX5_decide 139 = .ok (.iconst 0, 1) := by decide +kernel
theorem dX5_decide_140 : decode cX5_decide 140 = .ok (.invokevirtual 53, 3) := by decide +kernel
theorem dX5_decide_143 : decode cX5_decide 143 = .ok (.iconst 2, 1) := by decide +kernel
theorem dX5_decide_144 : decode cX5_decide 144 = .ok (.invokestatic 78, 3) := by decide +kernel
theorem dX5_decide_147 : decode cX5_decide 147 = .ok (.dup2, 1) := by decide +kernel
theorem dX5_decide_148 : decode cX5_decide 148 = .ok (.iaload, 1) := by decide +kernel
theorem dX5_decide_149 : decode cX5_decide 149 = .ok (.iload 4, 2) := by decide +kernel
theorem dX5_decide_151 : decode cX5_decide 151 = .ok (.ifCond .ne 7, 3) := by decide +kernel
theorem dX5_decide_154 : decode cX5_decide 154 = .ok (.iconst 1, 1) := by decide +kernel
theorem dX5_decide_155 : decode cX5_decide 155 = .ok (.goto 4, 3) := by decide +kernel
theorem dX5_decide_158 : decode cX5_decide 158 = .ok (.iconst 0, 1) := by decide +kernel
theorem dX5_decide_159 : decode cX5_decide 159 = .ok (.iadd, 1) := by decide +kernel
theorem dX5_decide_160 : decode cX5_decide 160 = .ok (.iastore, 1) := by decide +kernel
theorem dX5_decide_161 : decode cX5_decide 161 = .ok (.iload 4, 2) := by decide +kernel
theorem dX5_decide_163 : decode cX5_decide 163 = .ok (.ireturn, 1) := by decide +kernel
theorem dX5_gives_0 : decode cX5_gives 0 = .ok (.aload_n 0, 1) := by decide +kernel
theorem dX5_gives_1 : decode cX5_gives 1 = .ok (.getfield 7, 3) := by decide +kernel
theorem dX5_gives_4 : decode cX5_gives 4 = .ok (.iload_n 1, 1) := by decide +kernel
theorem dX5_gives_5 : decode cX5_gives 5 = .ok (.iconst 0, 1) := by decide +kernel
theorem dX5_gives_6 : decode cX5_gives 6 = .ok (.invokestatic 78, 3) := by decide +kernel
theorem dX5_gives_9 : decode cX5_gives 9 = .ok (.dup2, 1) := by decide +kernel
theorem dX5_gives_10 : decode cX5_gives 10 = .ok (.iaload, 1) := by decide +kernel
theorem dX5_gives_11 : decode cX5_gives 11 = .ok (.iload_n 2, 1) := by decide +kernel
theorem dX5_gives_12 : decode cX5_gives 12 = .ok (.iadd, 1) := by decide +kernel
theorem dX5_gives_13 : decode cX5_gives 13 = .ok (.iastore, 1) := by decide +kernel
theorem dX5_gives_14 : decode cX5_gives 14 = .ok (.return_, 1) := by decide +kernel
theorem dX5_pays_0 : decode cX5_pays 0 = .ok (.aload_n 0, 1) := by decide +kernel
theorem dX5_pays_1 : decode cX5_pays 1 = .ok (.iload_n 1, 1) := by decide +kernel
theorem dX5_pays_2 : decode cX5_pays 2 = .ok (.invokevirtual 66, 3) := by decide +kernel
theorem dX5_pays_5 : decode cX5_pays 5 = .ok (.istore_n 2, 1) := by decide +kernel
theorem dX5_pays_6 : decode cX5_pays 6 = .ok (.aload_n 0, 1) := by decide +kernel
theorem dX5_pays_7 : decode cX5_pays 7 = .ok (.iload_n 1, 1) := by decide +kernel
theorem dX5_pays_8 : decode cX5_pays 8 = .ok (.iconst 1, 1) := by decide +kernel
theorem dX5_pays_9 : decode cX5_pays 9 = .ok (.invokevirtual 53, 3) := by decide +kernel
theorem dX5_pays_12 : decode cX5_pays 12 = .ok (.iconst 2, 1) := by decide +kernel
theorem dX5_pays_13 : decode cX5_pays 13 = .ok (.invokestatic 37, 3) := by decide +kernel
theorem dX5_pays_16 : decode cX5_pays 16 = .ok (.istore_n 3, 1) := by decide +kernel
theorem dX5_pays_17 : decode cX5_pays 17 = .ok (.aload_n 0, 1) := by decide +kernel
theorem dX5_pays_18 : decode cX5_pays 18 = .ok (.getfield 7, 3) := by decide +kernel
theorem dX5_pays_21 : decode cX5_pays 21 = .ok (.iload_n 3, 1) := by decide +kernel
theorem dX5_pays_22 : decode cX5_pays 22 = .ok (.iaload, 1) := by decide +kernel
theorem dX5_pays_23 : decode cX5_pays 23 = .ok (.aload_n 0, 1) := by decide +kernel
theorem dX5_pays_24 : decode cX5_pays 24 = .ok (.getfield 7, 3) := by decide +kernel
theorem dX5_pays_27 : decode cX5_pays 27 = .ok (.iconst 1, 1) := by decide +kernel
theorem dX5_pays_28 : decode cX5_pays 28 = .ok (.iaload, 1) := by decide +kernel
theorem dX5_pays_29 : decode cX5_pays 29 = .ok (.iadd, 1) := by decide +kernel
theorem dX5_pays_30 : decode cX5_pays 30 = .ok (.iload_n 2, 1) := by decide +kernel
theorem dX5_pays_31 : decode cX5_pays 31 = .ok (.if_icmp .ge 16, 3) := by decide +kernel
theorem dX5_pays_34 : decode cX5_pays 34 = .ok (.aload_n 0, 1) := by decide +kernel
theorem dX5_pays_35 : decode cX5_pays 35 = .ok (.getfield 7, 3) := by decide +kernel
theorem dX5_pays_38 : decode cX5_pays 38 = .ok (.iload_n 1, 1) := by decide +kernel
theorem dX5_pays_39 : decode cX5_pays 39 = .ok (.iconst 3, 1) := by decide +kernel
theorem dX5_pays_40 : decode cX5_pays 40 = .ok (.invokestatic 30, 3) := by decide +kernel
theorem dX5_pays_43 : decode cX5_pays 43 = .ok (.iconst 2, 1) := by decide +kernel
theorem dX5_pays_44 : decode cX5_pays 44 = .ok (.iastore, 1) := by decide +kernel
theorem dX5_pays_45 : decode cX5_pays 45 = .ok (.iconst 0, 1) := by decide +kernel
theorem dX5_pays_46 : decode cX5_pays 46 = .ok (.ireturn, 1) := by decide +kernel
theorem dX5_pays_47 : decode cX5_pays 47 = .ok (.aload_n 0, 1) := by decide +kernel
theorem dX5_pays_48 : decode cX5_pays 48 = .ok (.getfield 7, 3) := by decide +kernel
theorem dX5_pays_51 : decode cX5_pays 51 = .ok (.iload_n 3, 1) := by decide +kernel
theorem dX5_pays_52 : decode cX5_pays 52 = .ok (.iaload, 1) := by decide +kernel
theorem dX5_pays_53 : decode cX5_pays 53 = .ok (.iload_n 2, 1) := by decide +kernel
theorem dX5_pays_54 : decode cX5_pays 54 = .ok (.invokestatic 81, 3) := by decide +kernel
theorem dX5_pays_57 : decode cX5_pays 57 = .ok (.istore 4, 2) := by decide +kernel
theorem dX5_pays_59 : decode cX5_pays 59 = .ok (.aload_n 0, 1) := by decide +kernel
theorem dX5_pays_60 : decode cX5_pays 60 = .ok (.getfield 7, 3) := by decide +kernel
theorem dX5_pays_63 : decode cX5_pays 63 = .ok (.iload_n 3, 1) := by decide +kernel
theorem dX5_pays_64 : decode cX5_pays 64 = .ok (.dup2, 1) := by decide +kernel
theorem dX5_pays_65 : decode cX5_pays 65 = .ok (.iaload, 1) := by decide +kernel
theorem dX5_pays_66 : decode cX5_pays 66 = .ok (.iload 4, 2) := by decide +kernel
theorem dX5_pays_68 : decode cX5_pays 68 = .ok (.isub, 1) := by decide +kernel
theorem dX5_pays_69 : decode cX5_pays 69 = .ok (.iastore, 1) := by decide +kernel
theorem dX5_pays_70 : decode cX5_pays 70 = .ok (.aload_n 0, 1) := by decide +kernel
theorem dX5_pays_71 : decode cX5_pays 71 = .ok (.getfield 7, 3) := by decide +kernel
theorem dX5_pays_74 : decode cX5_pays 74 = .ok (.iconst 1, 1) := by decide +kernel
theorem dX5_pays_75 : decode cX5_pays 75 = .ok (.dup2, 1) := by decide +kernel
theorem dX5_pays_76 : decode cX5_pays 76 = .ok (.iaload, 1) := by decide +kernel
theorem dX5_pays_77 : decode cX5_pays 77 = .ok (.iload_n 2, 1) := by decide +kernel
theorem dX5_pays_78 : decode cX5_pays 78 = .ok (.iload 4, 2) := by decide +kernel
theorem dX5_pays_80 : decode cX5_pays 80 = .ok (.isub, 1) := by decide +kernel
theorem dX5_pays_81 : decode cX5_pays 81 = .ok (.isub, 1) := by decide +kernel
theorem dX5_pays_82 : decode cX5_pays 82 = .ok (.iastore, 1) := by decide +kernel
theorem dX5_pays_83 : decode cX5_pays 83 = .ok (.aload_n 0, 1) := by decide +kernel
theorem dX5_pays_84 : decode cX5_pays 84 = .ok (.getfield 7, 3) := by decide +kernel
theorem dX5_pays_87 : decode cX5_pays 87 = .ok (.bipush 7, 2) := by decide +kernel
theorem dX5_pays_89 : decode cX5_pays 89 = .ok (.dup2, 1) := by decide +kernel
theorem dX5_pays_90 : decode cX5_pays 90 = .ok (.iaload, 1) := by decide +kernel
theorem dX5_pays_91 : decode cX5_pays 91 = .ok (.iload_n 2, 1) := by decide +kernel
theorem dX5_pays_92 : decode cX5_pays 92 = .ok (.iadd, 1) := by decide +kernel
theorem dX5_pays_93 : decode cX5_pays 93 = .ok (.iastore, 1) := by decide +kernel
theorem dX5_pays_94 : decode cX5_pays 94 = .ok (.aload_n 0, 1) := by decide +kernel
theorem dX5_pays_95 : decode cX5_pays 95 = .ok (.getfield 7, 3) := by decide +kernel
theorem dX5_pays_98 : decode cX5_pays 98 = .ok (.iload_n 1, 1) := by decide +kernel
theorem dX5_pays_99 : decode cX5_pays 99 = .ok (.iconst 3, 1) := by decide +kernel
theorem dX5_pays_100 : decode cX5_pays 100 = .ok (.invokestatic 30, 3) := by decide +kernel
theorem dX5_pays_103 : decode cX5_pays 103 = .ok (.iconst 3, 1) := by decide +kernel
theorem dX5_pays_104 : decode cX5_pays 104 = .ok (.iastore, 1) := by decide +kernel
theorem dX5_pays_105 : decode cX5_pays 105 = .ok (.aload_n 0, 1) := by decide +kernel
theorem dX5_pays_106 : decode cX5_pays 106 = .ok (.getfield 7, 3) := by decide +kernel
theorem dX5_pays_109 : decode cX5_pays 109 = .ok (.iload_n 1, 1) := by decide +kernel
theorem dX5_pays_110 : decode cX5_pays 110 = .ok (.bipush 8, 2) := by decide +kernel
theorem dX5_pays_112 : decode cX5_pays 112 = .ok (.invokestatic 30, 3) := by decide +kernel
theorem dX5_pays_115 : decode cX5_pays 115 = .ok (.iload_n 2, 1) := by decide +kernel
theorem dX5_pays_116 : decode cX5_pays 116 = .ok (.iastore, 1) := by decide +kernel
theorem dX5_pays_117 : decode cX5_pays 117 = .ok (.iload_n 2, 1) := by decide +kernel
theorem dX5_pays_118 : decode cX5_pays 118 = .ok (.istore 5, 2) := by decide +kernel
theorem dX5_pays_120 : decode cX5_pays 120 = .ok (.iconst 0, 1) := by decide +kernel
theorem dX5_pays_121 : decode cX5_pays 121 = .ok (.istore 6, 2) := by decide +kernel
theorem dX5_pays_123 : decode cX5_pays 123 = .ok (.iconst 0, 1) := by decide +kernel
theorem dX5_pays_124 : decode cX5_pays 124 = .ok (.istore 7, 2) := by decide +kernel
theorem dX5_pays_126 : decode cX5_pays 126 = .ok (.iload 7, 2) := by decide +kernel
theorem dX5_pays_128 : decode cX5_pays 128 = .ok (.aload_n 0, 1) := by decide +kernel
theorem dX5_pays_129 : decode cX5_pays 129 = .ok (.getfield 7, 3) := by decide +kernel
theorem dX5_pays_132 : decode cX5_pays 132 = .ok (.bipush 6, 2) := by decide +kernel
theorem dX5_pays_134 : decode cX5_pays 134 = .ok (.iaload, 1) := by decide +kernel
theorem dX5_pays_135 : decode cX5_pays 135 = .ok (.if_icmp .ge 64, 3) := by decide +kernel
theorem dX5_pays_138 : decode cX5_pays 138 = .ok (.iload 6, 2) := by decide +kernel
theorem dX5_pays_140 : decode cX5_pays 140 = .ok (.iconst 3, 1) := by decide +kernel
theorem dX5_pays_141 : decode cX5_pays 141 = .ok (.if_icmp .ge 58, 3) := by decide +kernel
theorem dX5_pays_144 : decode cX5_pays 144 = .ok (.aload_n 0, 1) := by decide +kernel
theorem dX5_pays_145 : decode cX5_pays 145 = .ok (.iload 7, 2) := by decide +kernel
theorem dX5_pays_147 : decode cX5_pays 147 = .ok (.iconst 3, 1) := by decide +kernel
theorem dX5_pays_148 : decode cX5_pays 148 = .ok (.invokevirtual 53, 3) := by decide +kernel
theorem dX5_pays_151 : decode cX5_pays 151 = .ok (.iconst 5, 1) := by decide +kernel
theorem dX5_pays_152 : decode cX5_pays 152 = .ok (.if_icmp .ne 41, 3) := by decide +kernel
theorem dX5_pays_155 : decode cX5_pays 155 = .ok (.aload_n 0, 1) := by decide +kernel
theorem dX5_pays_156 : decode cX5_pays 156 = .ok (.iload 7, 2) := by decide +kernel
theorem dX5_pays_158 : decode cX5_pays 158 = .ok (.iconst 5, 1) := by decide +kernel
theorem dX5_pays_159 : decode cX5_pays 159 = .ok (.invokevirtual 53, 3) := by decide +kernel
theorem dX5_pays_162 : decode cX5_pays 162 = .ok (.iload_n 1, 1) := by decide +kernel
theorem dX5_pays_163 : decode cX5_pays 163 = .ok (.if_icmp .ne 30, 3) := by decide +kernel
theorem dX5_pays_166 : decode cX5_pays 166 = .ok (.aload_n 0, 1) := by decide +kernel
theorem dX5_pays_167 : decode cX5_pays 167 = .ok (.aload_n 0, 1) := by decide +kernel
theorem dX5_pays_168 : decode cX5_pays 168 = .ok (.iload 7, 2) := by decide +kernel
theorem dX5_pays_170 : decode cX5_pays 170 = .ok (.iconst 0, 1) := by decide +kernel
theorem dX5_pays_171 : decode cX5_pays 171 = .ok (.invokevirtual 53, 3) := by decide +kernel
theorem dX5_pays_174 : decode cX5_pays 174 = .ok (.iload_n 2, 1) := by decide +kernel
theorem dX5_pays_175 : decode cX5_pays 175 = .ok (.bipush 10, 2) := by decide +kernel
theorem dX5_pays_177 : decode cX5_pays 177 = .ok (.idiv, 1) := by decide +kernel
theorem dX5_pays_178 : decode cX5_pays 178 = .ok (.invokevirtual 84, 3) := by decide +kernel
theorem dX5_pays_181 : decode cX5_pays 181 = .ok (.iload 5, 2) := by decide +kernel
theorem dX5_pays_183 : decode cX5_pays 183 = .ok (.iload_n 2, 1) := by decide +kernel
theorem dX5_pays_184 : decode cX5_pays 184 = .ok (.bipush 10, 2) := by decide +kernel
theorem dX5_pays_186 : decode cX5_pays 186 = .ok (.idiv, 1) := by decide +kernel
theorem dX5_pays_187 : decode cX5_pays 187 = .ok (.isub, 1) := by decide +kernel
theorem dX5_pays_188 : decode cX5_pays 188 = .ok (.istore 5, 2) := by decide +kernel
theorem dX5_pays_190 : decode cX5_pays 190 = .ok (.iinc 6 1, 3) := by decide +kernel
theorem dX5_pays_193 : decode cX5_pays 193 = .ok (.iinc 7 1, 3) := by decide +kernel
theorem dX5_pays_196 : decode cX5_pays 196 = .ok (.goto (-70), 3) := by decide +kernel
theorem dX5_pays_199 : decode cX5_pays 199 = .ok (.aload_n 0, 1) := by decide +kernel
theorem dX5_pays_200 : decode cX5_pays 200 = .ok (.aload_n 0, 1) := by decide +kernel
theorem dX5_pays_201 : decode cX5_pays 201 = .ok (.iload_n 1, 1) := by decide +kernel
theorem dX5_pays_202 : decode cX5_pays 202 = .ok (.iconst 0, 1) := by decide +kernel
theorem dX5_pays_203 : decode cX5_pays 203 = .ok (.invokevirtual 53, 3) := by decide +kernel
theorem dX5_pays_206 : decode cX5_pays 206 = .ok (.iload 5, 2) := by decide +kernel
theorem dX5_pays_208 : decode cX5_pays 208 = .ok (.invokevirtual 84, 3) := by decide +kernel
theorem dX5_pays_211 : decode cX5_pays 211 = .ok (.iload_n 2, 1) := by decide +kernel
theorem dX5_pays_212 : decode cX5_pays 212 = .ok (.ireturn, 1) := by decide +kernel
theorem dX5_pay_0 : decode cX5_pay 0 = .ok (.aload_n 0, 1) := by decide +kernel
theorem dX5_pay_1 : decode cX5_pay 1 = .ok (.iload_n 1, 1) := by decide +kernel
theorem dX5_pay_2 : decode cX5_pay 2 = .ok (.invokevirtual 56, 3) := by decide +kernel
theorem dX5_pay_5 : decode cX5_pay 5 = .ok (.ifCond .ne 7, 3) := by decide +kernel
theorem dX5_pay_8 : decode cX5_pay 8 = .ok (.sipush (-10001), 3) := by decide +kernel
theorem dX5_pay_11 : decode cX5_pay 11 = .ok (.ireturn, 1) := by decide +kernel
theorem dX5_pay_12 : decode cX5_pay 12 = .ok (.aload_n 0, 1) := by decide +kernel
theorem dX5_pay_13 : decode cX5_pay 13 = .ok (.iload_n 1, 1) := by decide +kernel
theorem dX5_pay_14 : decode cX5_pay 14 = .ok (.invokevirtual 75, 3) := by decide +kernel
theorem dX5_pay_17 : decode cX5_pay 17 = .ok (.ifCond .eq 11, 3) := by decide +kernel
theorem dX5_pay_20 : decode cX5_pay 20 = .ok (.aload_n 0, 1) := by decide +kernel
theorem dX5_pay_21 : decode cX5_pay 21 = .ok (.iload_n 1, 1) := by decide +kernel
theorem dX5_pay_22 : decode cX5_pay 22 = .ok (.invokevirtual 69, 3) := by decide +kernel
theorem dX5_pay_25 : decode cX5_pay 25 = .ok (.ifCond .eq 7, 3) := by decide +kernel
theorem dX5_pay_28 : decode cX5_pay 28 = .ok (.sipush (-10002), 3) := by decide +kernel
theorem dX5_pay_31 : decode cX5_pay 31 = .ok (.ireturn, 1) := by decide +kernel
theorem dX5_pay_32 : decode cX5_pay 32 = .ok (.aload_n 0, 1) := by decide +kernel
theorem dX5_pay_33 : decode cX5_pay 33 = .ok (.invokevirtual 34, 3) := by decide +kernel
theorem dX5_pay_36 : decode cX5_pay 36 = .ok (.aload_n 0, 1) := by decide +kernel
theorem dX5_pay_37 : decode cX5_pay 37 = .ok (.iload_n 1, 1) := by decide +kernel
theorem dX5_pay_38 : decode cX5_pay 38 = .ok (.invokevirtual 88, 3) := by decide +kernel
theorem dX5_pay_41 : decode cX5_pay 41 = .ok (.ireturn, 1) := by decide +kernel
theorem dX5_begins_0 : decode cX5_begins 0 = .ok (.iconst 0, 1) := by decide +kernel
theorem dX5_begins_1 : decode cX5_begins 1 = .ok (.istore_n 1, 1) := by decide +kernel
theorem dX5_begins_2 : decode cX5_begins 2 = .ok (.iload_n 1, 1) := by decide +kernel
theorem dX5_begins_3 : decode cX5_begins 3 = .ok (.aload_n 0, 1) := by decide +kernel
theorem dX5_begins_4 : decode cX5_begins 4 = .ok (.getfield 7, 3) := by decide +kernel
theorem dX5_begins_7 : decode cX5_begins 7 = .ok (.iconst 4, 1) := by decide +kernel
theorem dX5_begins_8 : decode cX5_begins 8 = .ok (.iaload, 1) := by decide +kernel
theorem dX5_begins_9 : decode cX5_begins 9 = .ok (.if_icmp .ge 69, 3) := by decide +kernel
theorem dX5_begins_12 : decode cX5_begins 12 = .ok (.aload_n 0, 1) := by decide +kernel
theorem dX5_begins_13 : decode cX5_begins 13 = .ok (.getfield 7, 3) := by decide +kernel
theorem dX5_begins_16 : decode cX5_begins 16 = .ok (.iload_n 1, 1) := by decide +kernel
theorem dX5_begins_17 : decode cX5_begins 17 = .ok (.iconst 2, 1) := by decide +kernel
theorem dX5_begins_18 : decode cX5_begins 18 = .ok (.invokestatic 37, 3) := by decide +kernel
theorem dX5_begins_21 : decode cX5_begins 21 = .ok (.iaload, 1) := by decide +kernel
theorem dX5_begins_22 : decode cX5_begins 22 = .ok (.istore_n 2, 1) := by decide +kernel
theorem dX5_begins_23 : decode cX5_begins 23 = .ok (.iload_n 2, 1) := by decide +kernel
theorem dX5_begins_24 : decode cX5_begins 24 = .ok (.aload_n 0, 1) := by decide +kernel
theorem dX5_begins_25 : decode cX5_begins 25 = .ok (.getfield 7, 3) := by decide +kernel
theorem dX5_begins_28 : decode cX5_begins 28 = .ok (.iload_n 1, 1) := by decide +kernel
theorem dX5_begins_29 : decode cX5_begins 29 = .ok (.iconst 1, 1) := by decide +kernel
theorem dX5_begins_30 : decode cX5_begins 30 = .ok (.invokestatic 37, 3) := by decide +kernel
theorem dX5_begins_33 : decode cX5_begins 33 = .ok (.iaload, 1) := by decide +kernel
theorem dX5_begins_34 : decode cX5_begins 34 = .ok (.invokestatic 81, 3) := by decide +kernel
theorem dX5_begins_37 : decode cX5_begins 37 = .ok (.istore_n 3, 1) := by decide +kernel
theorem dX5_begins_38 : decode cX5_begins 38 = .ok (.aload_n 0, 1) := by decide +kernel
theorem dX5_begins_39 : decode cX5_begins 39 = .ok (.getfield 7, 3) := by decide +kernel
theorem dX5_begins_42 : decode cX5_begins 42 = .ok (.iconst 1, 1) := by decide +kernel
theorem dX5_begins_43 : decode cX5_begins 43 = .ok (.dup2, 1) := by decide +kernel
theorem dX5_begins_44 : decode cX5_begins 44 = .ok (.iaload, 1) := by decide +kernel
theorem dX5_begins_45 : decode cX5_begins 45 = .ok (.iload_n 2, 1) := by decide +kernel
theorem dX5_begins_46 : decode cX5_begins 46 = .ok (.iload_n 3, 1) := by decide +kernel
theorem dX5_begins_47 : decode cX5_begins 47 = .ok (.isub, 1) := by decide +kernel
theorem dX5_begins_48 : decode cX5_begins 48 = .ok (.iadd, 1) := by decide +kernel
theorem dX5_begins_49 : decode cX5_begins 49 = .ok (.iastore, 1) := by decide +kernel
theorem dX5_begins_50 : decode cX5_begins 50 = .ok (.aload_n 0, 1) := by decide +kernel
theorem dX5_begins_51 : decode cX5_begins 51 = .ok (.getfield 7, 3) := by decide +kernel
theorem dX5_begins_54 : decode cX5_begins 54 = .ok (.iload_n 1, 1) := by decide +kernel
theorem dX5_begins_55 : decode cX5_begins 55 = .ok (.iconst 2, 1) := by decide +kernel
theorem dX5_begins_56 : decode cX5_begins 56 = .ok (.invokestatic 37, 3) := by decide +kernel
theorem dX5_begins_59 : decode cX5_begins 59 = .ok (.iload_n 3, 1) := by decide +kernel
theorem dX5_begins_60 : decode cX5_begins 60 = .ok (.aload_n 0, 1) := by decide +kernel
theorem dX5_begins_61 : decode cX5_begins 61 = .ok (.getfield 7, 3) := by decide +kernel
theorem dX5_begins_64 : decode cX5_begins 64 = .ok (.iload_n 1, 1) := by decide +kernel
theorem dX5_begins_65 : decode cX5_begins 65 = .ok (.iconst 1, 1) := by decide +kernel
theorem dX5_begins_66 : decode cX5_begins 66 = .ok (.invokestatic 37, 3) := by decide +kernel
theorem dX5_begins_69 : decode cX5_begins 69 = .ok (.iaload, 1) := by decide +kernel
theorem dX5_begins_70 : decode cX5_begins 70 = .ok (.iadd, 1) := by decide +kernel
theorem dX5_begins_71 : decode cX5_begins 71 = .ok (.iastore, 1) := by decide +kernel
theorem dX5_begins_72 : decode cX5_begins 72 = .ok (.iinc 1 1, 3) := by decide +kernel
theorem dX5_begins_75 : decode cX5_begins 75 = .ok (.goto (-73), 3) := by decide +kernel
theorem dX5_begins_78 : decode cX5_begins 78 = .ok (.iconst 0, 1) := by decide +kernel
theorem dX5_begins_79 : decode cX5_begins 79 = .ok (.istore_n 1, 1) := by decide +kernel
theorem dX5_begins_80 : decode cX5_begins 80 = .ok (.iconst 0, 1) := by decide +kernel
theorem dX5_begins_81 : decode cX5_begins 81 = .ok (.istore_n 2, 1) := by decide +kernel
theorem dX5_begins_82 : decode cX5_begins 82 = .ok (.iload_n 2, 1) := by decide +kernel
theorem dX5_begins_83 : decode cX5_begins 83 = .ok (.aload_n 0, 1) := by decide +kernel
theorem dX5_begins_84 : decode cX5_begins 84 = .ok (.getfield 7, 3) := by decide +kernel
theorem dX5_begins_87 : decode cX5_begins 87 = .ok (.bipush 6, 2) := by decide +kernel
theorem dX5_begins_89 : decode cX5_begins 89 = .ok (.iaload, 1) := by decide +kernel
theorem dX5_begins_90 : decode cX5_begins 90 = .ok (.if_icmp .ge 43, 3) := by decide +kernel
theorem dX5_begins_93 : decode cX5_begins 93 = .ok (.iload_n 1, 1) := by decide +kernel
theorem dX5_begins_94 : decode cX5_begins 94 = .ok (.aload_n 0, 1) := by decide +kernel
theorem dX5_begins_95 : decode cX5_begins 95 = .ok (.iload_n 2, 1) := by decide +kernel
theorem dX5_begins_96 : decode cX5_begins 96 = .ok (.iconst 3, 1) := by decide +kernel
theorem dX5_begins_97 : decode cX5_begins 97 = .ok (.invokevirtual 53, 3) := by decide +kernel
theorem dX5_begins_100 : decode cX5_begins 100 = .ok (.iconst 2, 1) := by decide +kernel
theorem dX5_begins_101 : decode cX5_begins 101 = .ok (.if_icmp .ne 23, 3) := by decide +kernel
theorem dX5_begins_104 : decode cX5_begins 104 = .ok (.aload_n 0, 1) := by decide +kernel
theorem dX5_begins_105 : decode cX5_begins 105 = .ok (.iload_n 2, 1) := by decide +kernel
theorem dX5_begins_106 : decode cX5_begins 106 = .ok (.invokevirtual 69, 3) := by decide +kernel
theorem dX5_begins_109 : decode cX5_begins 109 = .ok (.ifCond .ne 15, 3) := by decide +kernel
theorem dX5_begins_112 : decode cX5_begins 112 = .ok (.aload_n 0, 1) := by decide +kernel
theorem dX5_begins_113 : decode cX5_begins 113 = .ok (.iload_n 2, 1) := by decide +kernel
theorem dX5_begins_114 : decode cX5_begins 114 = .ok (.invokevirtual 88, 3) := by decide +kernel
theorem dX5_begins_117 : decode cX5_begins 117 = .ok (.ifCond .le 7, 3) := by decide +kernel
theorem dX5_begins_120 : decode cX5_begins 120 = .ok (.iconst 1, 1) := by decide +kernel
theorem dX5_begins_121 : decode cX5_begins 121 = .ok (.goto 4, 3) := by decide +kernel
theorem dX5_begins_124 : decode cX5_begins 124 = .ok (.iconst 0, 1) := by decide +kernel
theorem dX5_begins_125 : decode cX5_begins 125 = .ok (.iadd, 1) := by decide +kernel
theorem dX5_begins_126 : decode cX5_begins 126 = .ok (.istore_n 1, 1) := by decide +kernel
theorem dX5_begins_127 : decode cX5_begins 127 = .ok (.iinc 2 1, 3) := by decide +kernel
theorem dX5_begins_130 : decode cX5_begins 130 = .ok (.goto (-48), 3) := by decide +kernel
theorem dX5_begins_133 : decode cX5_begins 133 = .ok (.iload_n 1, 1) := by decide +kernel
theorem dX5_begins_134 : decode cX5_begins 134 = .ok (.ireturn, 1) := by decide +kernel
theorem dX5_pass_0 : decode cX5_pass 0 = .ok (.iload_n 1, 1) := by decide +kernel
theorem dX5_pass_1 : decode cX5_pass 1 = .ok (.iconst 1, 1) := by decide +kernel
theorem dX5_pass_2 : decode cX5_pass 2 = .ok (.sipush 400, 3) := by decide +kernel
theorem dX5_pass_5 : decode cX5_pass 5 = .ok (.invokestatic 26, 3) := by decide +kernel
theorem dX5_pass_8 : decode cX5_pass 8 = .ok (.ifCond .ne 7, 3) := by decide +kernel
theorem dX5_pass_11 : decode cX5_pass 11 = .ok (.sipush (-10001), 3) := by decide +kernel
theorem dX5_pass_14 : decode cX5_pass 14 = .ok (.ireturn, 1) := by decide +kernel
theorem dX5_pass_15 : decode cX5_pass 15 = .ok (.aload_n 0, 1) := by decide +kernel
theorem dX5_pass_16 : decode cX5_pass 16 = .ok (.getfield 7, 3) := by decide +kernel
theorem dX5_pass_19 : decode cX5_pass 19 = .ok (.iconst 0, 1) := by decide +kernel
theorem dX5_pass_20 : decode cX5_pass 20 = .ok (.iaload, 1) := by decide +kernel
theorem dX5_pass_21 : decode cX5_pass 21 = .ok (.iload_n 1, 1) := by decide +kernel
theorem dX5_pass_22 : decode cX5_pass 22 = .ok (.iadd, 1) := by decide +kernel
theorem dX5_pass_23 : decode cX5_pass 23 = .ok (.sipush 9999, 3) := by decide +kernel
theorem dX5_pass_26 : decode cX5_pass 26 = .ok (.if_icmp .le 7, 3) := by decide +kernel
theorem dX5_pass_29 : decode cX5_pass 29 = .ok (.sipush (-10002), 3) := by decide +kernel
theorem dX5_pass_32 : decode cX5_pass 32 = .ok (.ireturn, 1) := by decide +kernel
theorem dX5_pass_33 : decode cX5_pass 33 = .ok (.aload_n 0, 1) := by decide +kernel
theorem dX5_pass_34 : decode cX5_pass 34 = .ok (.invokevirtual 34, 3) := by decide +kernel
theorem dX5_pass_37 : decode cX5_pass 37 = .ok (.iconst 0, 1) := by decide +kernel
theorem dX5_pass_38 : decode cX5_pass 38 = .ok (.istore_n 2, 1) := by decide +kernel
theorem dX5_pass_39 : decode cX5_pass 39 = .ok (.iconst 0, 1) := by decide +kernel
theorem dX5_pass_40 : decode cX5_pass 40 = .ok (.istore_n 3, 1) := by decide +kernel
theorem dX5_pass_41 : decode cX5_pass 41 = .ok (.iload_n 3, 1) := by decide +kernel
theorem dX5_pass_42 : decode cX5_pass 42 = .ok (.iload_n 1, 1) := by decide +kernel
theorem dX5_pass_43 : decode cX5_pass 43 = .ok (.if_icmp .ge 42, 3) := by decide +kernel
theorem dX5_pass_46 : decode cX5_pass 46 = .ok (.aload_n 0, 1) := by decide +kernel
theorem dX5_pass_47 : decode cX5_pass 47 = .ok (.getfield 7, 3) := by decide +kernel
theorem dX5_pass_50 : decode cX5_pass 50 = .ok (.iconst 0, 1) := by decide +kernel
theorem dX5_pass_51 : decode cX5_pass 51 = .ok (.dup2, 1) := by decide +kernel
theorem dX5_pass_52 : decode cX5_pass 52 = .ok (.iaload, 1) := by decide +kernel
theorem dX5_pass_53 : decode cX5_pass 53 = .ok (.iconst 1, 1) := by decide +kernel
theorem dX5_pass_54 : decode cX5_pass 54 = .ok (.iadd, 1) := by decide +kernel
theorem dX5_pass_55 : decode cX5_pass 55 = .ok (.iastore, 1) := by decide +kernel
theorem dX5_pass_56 : decode cX5_pass 56 = .ok (.iload_n 2, 1) := by decide +kernel
theorem dX5_pass_57 : decode cX5_pass 57 = .ok (.aload_n 0, 1) := by decide +kernel
theorem dX5_pass_58 : decode cX5_pass 58 = .ok (.getfield 7, 3) := by decide +kernel
theorem dX5_pass_61 : decode cX5_pass 61 = .ok (.iconst 0, 1) := by decide +kernel
theorem dX5_pass_62 : decode cX5_pass 62 = .ok (.iaload, 1) := by decide +kernel
theorem dX5_pass_63 : decode cX5_pass 63 = .ok (.bipush 90, 2) := by decide +kernel
theorem dX5_pass_65 : decode cX5_pass 65 = .ok (.irem, 1) := by decide +kernel
theorem dX5_pass_66 : decode cX5_pass 66 = .ok (.ifCond .ne 10, 3) := by decide +kernel
theorem dX5_pass_69 : decode cX5_pass 69 = .ok (.aload_n 0, 1) := by decide +kernel
theorem dX5_pass_70 : decode cX5_pass 70 = .ok (.invokevirtual 91, 3) := by decide +kernel
theorem dX5_pass_73 : decode cX5_pass 73 = .ok (.goto 4, 3) := by decide +kernel
theorem dX5_pass_76 : decode cX5_pass 76 = .ok (.iconst 0, 1) := by decide +kernel
theorem dX5_pass_77 : decode cX5_pass 77 = .ok (.iadd, 1) := by decide +kernel
theorem dX5_pass_78 : decode cX5_pass 78 = .ok (.istore_n 2, 1) := by decide +kernel
theorem dX5_pass_79 : decode cX5_pass 79 = .ok (.iinc 3 1, 3) := by decide +kernel
theorem dX5_pass_82 : decode cX5_pass 82 = .ok (.goto (-41), 3) := by decide +kernel
theorem dX5_pass_85 : decode cX5_pass 85 = .ok (.iload_n 2, 1) := by decide +kernel
theorem dX5_pass_86 : decode cX5_pass 86 = .ok (.ireturn, 1) := by decide +kernel
theorem dX5_hasReported_0 : decode cX5_hasReported 0 = .ok (.aload_n 0, 1) := by decide +kernel
theorem dX5_hasReported_1 : decode cX5_hasReported 1 = .ok (.iload_n 2, 1) := by decide +kernel
theorem dX5_hasReported_2 : decode cX5_hasReported 2 = .ok (.iconst 0, 1) := by decide +kernel
theorem dX5_hasReported_3 : decode cX5_hasReported 3 = .ok (.invokevirtual 53, 3) := by decide +kernel
theorem dX5_hasReported_6 : decode cX5_hasReported 6 = .ok (.iload_n 1, 1) := by decide +kernel
theorem dX5_hasReported_7 : decode cX5_hasReported 7 = .ok (.if_icmp .ne 7, 3) := by decide +kernel
theorem dX5_hasReported_10 : decode cX5_hasReported 10 = .ok (.iconst 1, 1) := by decide +kernel
theorem dX5_hasReported_11 : decode cX5_hasReported 11 = .ok (.goto 4, 3) := by decide +kernel
theorem dX5_hasReported_14 : decode cX5_hasReported 14 = .ok (.iconst 0, 1) := by decide +kernel
theorem dX5_hasReported_15 : decode cX5_hasReported 15 = .ok (.istore_n 3, 1) := by decide +kernel
theorem dX5_hasReported_16 : decode cX5_hasReported 16 = .ok (.iconst 0, 1) := by decide +kernel
theorem dX5_hasReported_17 : decode cX5_hasReported 17 = .ok (.istore 4, 2) := by decide +kernel
theorem dX5_hasReported_19 : decode cX5_hasReported 19 = .ok (.iload 4, 2) := by decide +kernel
theorem dX5_hasReported_21 : decode cX5_hasReported 21 = .ok (.aload_n 0, 1) := by decide +kernel
theorem dX5_hasReported_22 : decode cX5_hasReported 22 = .ok (.getfield 7, 3) := by decide +kernel
theorem dX5_hasReported_25 : decode cX5_hasReported 25 = .ok (.bipush 6, 2) := by decide +kernel
theorem dX5_hasReported_27 : decode cX5_hasReported 27 = .ok (.iaload, 1) := by decide +kernel
theorem dX5_hasReported_28 : decode cX5_hasReported 28 = .ok (.if_icmp .ge 52, 3) := by decide +kernel
theorem dX5_hasReported_31 : decode cX5_hasReported 31 = .ok (.iload_n 3, 1) := by decide +kernel
theorem dX5_hasReported_32 : decode cX5_hasReported 32 = .ok (.ifCond .ne 36, 3) := by decide +kernel
theorem dX5_hasReported_35 : decode cX5_hasReported 35 = .ok (.aload_n 0, 1) := by decide +kernel
theorem dX5_hasReported_36 : decode cX5_hasReported 36 = .ok (.iload 4, 2) := by decide +kernel
theorem dX5_hasReported_38 : decode cX5_hasReported 38 = .ok (.iconst 3, 1) := by decide +kernel
theorem dX5_hasReported_39 : decode cX5_hasReported 39 = .ok (.invokevirtual 53, 3) := by decide +kernel
theorem dX5_hasReported_42 : decode cX5_hasReported 42 = .ok (.iconst 5, 1) := by decide +kernel
theorem dX5_hasReported_43 : decode cX5_hasReported 43 = .ok (.if_icmp .ne 29, 3) := by decide +kernel
theorem dX5_hasReported_46 : decode cX5_hasReported 46 = .ok (.aload_n 0, 1) := by decide +kernel
theorem dX5_hasReported_47 : decode cX5_hasReported 47 = .ok (.iload 4, 2) := by decide +kernel
theorem dX5_hasReported_49 : decode cX5_hasReported 49 = .ok (.iconst 5, 1) := by decide +kernel
theorem dX5_hasReported_50 : decode cX5_hasReported 50 = .ok (.invokevirtual 53, 3) := by decide +kernel
theorem dX5_hasReported_53 : decode cX5_hasReported 53 = .ok (.iload_n 2, 1) := by decide +kernel
theorem dX5_hasReported_54 : decode cX5_hasReported 54 = .ok (.if_icmp .ne 18, 3) := by decide +kernel
theorem dX5_hasReported_57 : decode cX5_hasReported 57 = .ok (.aload_n 0, 1) := by decide +kernel
theorem dX5_hasReported_58 : decode cX5_hasReported 58 = .ok (.iload 4, 2) := by decide +kernel
theorem dX5_hasReported_60 : decode cX5_hasReported 60 = .ok (.iconst 0, 1) := by decide +kernel
theorem dX5_hasReported_61 : decode cX5_hasReported 61 = .ok (.invokevirtual 53, 3) := by decide +kernel
theorem dX5_hasReported_64 : decode cX5_hasReported 64 = .ok (.iload_n 1, 1) := by decide +kernel
theorem dX5_hasReported_65 : decode cX5_hasReported 65 = .ok (.if_icmp .ne 7, 3) := by decide +kernel
theorem dX5_hasReported_68 : decode cX5_hasReported 68 = .ok (.iconst 1, 1) := by decide +kernel
theorem dX5_hasReported_69 : decode cX5_hasReported 69 = .ok (.goto 4, 3) := by decide +kernel
theorem dX5_hasReported_72 : decode cX5_hasReported 72 = .ok (.iconst 0, 1) := by decide +kernel
theorem dX5_hasReported_73 : decode cX5_hasReported 73 = .ok (.istore_n 3, 1) := by decide +kernel
theorem dX5_hasReported_74 : decode cX5_hasReported 74 = .ok (.iinc 4 1, 3) := by decide +kernel
theorem dX5_hasReported_77 : decode cX5_hasReported 77 = .ok (.goto (-58), 3) := by decide +kernel
theorem dX5_hasReported_80 : decode cX5_hasReported 80 = .ok (.iload_n 3, 1) := by decide +kernel
theorem dX5_hasReported_81 : decode cX5_hasReported 81 = .ok (.ireturn, 1) := by decide +kernel
theorem dX5_givesBonuses_0 : decode cX5_givesBonuses 0 = .ok (.iload_n 1, 1) := by decide +kernel
theorem dX5_givesBonuses_1 : decode cX5_givesBonuses 1 = .ok (.invokestatic 95, 3) := by decide +kernel
theorem dX5_givesBonuses_4 : decode cX5_givesBonuses 4 = .ok (.aload_n 0, 1) := by decide +kernel
theorem dX5_givesBonuses_5 : decode cX5_givesBonuses 5 = .ok (.getfield 7, 3) := by decide +kernel
theorem dX5_givesBonuses_8 : decode cX5_givesBonuses 8 = .ok (.iconst 3, 1) := by decide +kernel
theorem dX5_givesBonuses_9 : decode cX5_givesBonuses 9 = .ok (.iaload, 1) := by decide +kernel
theorem dX5_givesBonuses_10 : decode cX5_givesBonuses 10 = .ok (.imul, 1) := by decide +kernel
theorem dX5_givesBonuses_11 : decode cX5_givesBonuses 11 = .ok (.istore_n 2, 1) := by decide +kernel
theorem dX5_givesBonuses_12 : decode cX5_givesBonuses 12 = .ok (.iload_n 2, 1) := by decide +kernel
theorem dX5_givesBonuses_13 : decode cX5_givesBonuses 13 = .ok (.aload_n 0, 1) := by decide +kernel
theorem dX5_givesBonuses_14 : decode cX5_givesBonuses 14 = .ok (.getfield 7, 3) := by decide +kernel
theorem dX5_givesBonuses_17 : decode cX5_givesBonuses 17 = .ok (.iconst 1, 1) := by decide +kernel
theorem dX5_givesBonuses_18 : decode cX5_givesBonuses 18 = .ok (.iaload, 1) := by decide +kernel
theorem dX5_givesBonuses_19 : decode cX5_givesBonuses 19 = .ok (.if_icmp .le 4, 3) := by decide +kernel
theorem dX5_givesBonuses_22 : decode cX5_givesBonuses 22 = .ok (.return_, 1) := by decide +kernel
theorem dX5_givesBonuses_23 : decode cX5_givesBonuses 23 = .ok (.aload_n 0, 1) := by decide +kernel
theorem dX5_givesBonuses_24 : decode cX5_givesBonuses 24 = .ok (.getfield 7, 3) := by decide +kernel
theorem dX5_givesBonuses_27 : decode cX5_givesBonuses 27 = .ok (.iconst 1, 1) := by decide +kernel
theorem dX5_givesBonuses_28 : decode cX5_givesBonuses 28 = .ok (.dup2, 1) := by decide +kernel
theorem dX5_givesBonuses_29 : decode cX5_givesBonuses 29 = .ok (.iaload, 1) := by decide +kernel
theorem dX5_givesBonuses_30 : decode cX5_givesBonuses 30 = .ok (.iload_n 2, 1) := by decide +kernel
theorem dX5_givesBonuses_31 : decode cX5_givesBonuses 31 = .ok (.isub, 1) := by decide +kernel
theorem dX5_givesBonuses_32 : decode cX5_givesBonuses 32 = .ok (.iastore, 1) := by decide +kernel
theorem dX5_givesBonuses_33 : decode cX5_givesBonuses 33 = .ok (.aload_n 0, 1) := by decide +kernel
theorem dX5_givesBonuses_34 : decode cX5_givesBonuses 34 = .ok (.getfield 7, 3) := by decide +kernel
theorem dX5_givesBonuses_37 : decode cX5_givesBonuses 37 = .ok (.bipush 8, 2) := by decide +kernel
theorem dX5_givesBonuses_39 : decode cX5_givesBonuses 39 = .ok (.dup2, 1) := by decide +kernel
theorem dX5_givesBonuses_40 : decode cX5_givesBonuses 40 = .ok (.iaload, 1) := by decide +kernel
theorem dX5_givesBonuses_41 : decode cX5_givesBonuses 41 = .ok (.iload_n 2, 1) := by decide +kernel
theorem dX5_givesBonuses_42 : decode cX5_givesBonuses 42 = .ok (.iadd, 1) := by decide +kernel
theorem dX5_givesBonuses_43 : decode cX5_givesBonuses 43 = .ok (.iastore, 1) := by decide +kernel
theorem dX5_givesBonuses_44 : decode cX5_givesBonuses 44 = .ok (.iconst 0, 1) := by decide +kernel
theorem dX5_givesBonuses_45 : decode cX5_givesBonuses 45 = .ok (.istore_n 3, 1) := by decide +kernel
theorem dX5_givesBonuses_46 : decode cX5_givesBonuses 46 = .ok (.iload_n 3, 1) := by decide +kernel
theorem dX5_givesBonuses_47 : decode cX5_givesBonuses 47 = .ok (.aload_n 0, 1) := by decide +kernel
theorem dX5_givesBonuses_48 : decode cX5_givesBonuses 48 = .ok (.getfield 7, 3) := by decide +kernel
theorem dX5_givesBonuses_51 : decode cX5_givesBonuses 51 = .ok (.iconst 5, 1) := by decide +kernel
theorem dX5_givesBonuses_52 : decode cX5_givesBonuses 52 = .ok (.iaload, 1) := by decide +kernel
theorem dX5_givesBonuses_53 : decode cX5_givesBonuses 53 = .ok (.if_icmp .ge 42, 3) := by decide +kernel
theorem dX5_givesBonuses_56 : decode cX5_givesBonuses 56 = .ok (.iload_n 1, 1) := by decide +kernel
theorem dX5_givesBonuses_57 : decode cX5_givesBonuses 57 = .ok (.iload_n 3, 1) := by decide +kernel
theorem dX5_givesBonuses_58 : decode cX5_givesBonuses 58 = .ok (.invokestatic 98, 3) := by decide +kernel
theorem dX5_givesBonuses_61 : decode cX5_givesBonuses 61 = .ok (.ifCond .eq 28, 3) := by decide +kernel
theorem dX5_givesBonuses_64 : decode cX5_givesBonuses 64 = .ok (.aload_n 0, 1) := by decide +kernel
theorem dX5_givesBonuses_65 : decode cX5_givesBonuses 65 = .ok (.iload_n 3, 1) := by decide +kernel
theorem dX5_givesBonuses_66 : decode cX5_givesBonuses 66 = .ok (.aload_n 0, 1) := by decide +kernel
theorem dX5_givesBonuses_67 : decode cX5_givesBonuses 67 = .ok (.getfield 7, 3) := by decide +kernel
theorem dX5_givesBonuses_70 : decode cX5_givesBonuses 70 = .ok (.iconst 3, 1) := by decide +kernel
theorem dX5_givesBonuses_71 : decode cX5_givesBonuses 71 = .ok (.iaload, 1) := by decide +kernel
theorem dX5_givesBonuses_72 : decode cX5_givesBonuses 72 = .ok (.invokevirtual 84, 3) := by decide +kernel
theorem dX5_givesBonuses_75 : decode cX5_givesBonuses 75 = .ok (.aload_n 0, 1) := by decide +kernel
theorem dX5_givesBonuses_76 : decode cX5_givesBonuses 76 = .ok (.getfield 7, 3) := by decide +kernel
theorem dX5_givesBonuses_79 : decode cX5_givesBonuses 79 = .ok (.iload_n 3, 1) := by decide +kernel
theorem dX5_givesBonuses_80 : decode cX5_givesBonuses 80 = .ok (.iconst 3, 1) := by decide +kernel
theorem dX5_givesBonuses_81 : decode cX5_givesBonuses 81 = .ok (.invokestatic 78, 3) := by decide +kernel
theorem dX5_givesBonuses_84 : decode cX5_givesBonuses 84 = .ok (.dup2, 1) := by decide +kernel
theorem dX5_givesBonuses_85 : decode cX5_givesBonuses 85 = .ok (.iaload, 1) := by decide +kernel
theorem dX5_givesBonuses_86 : decode cX5_givesBonuses 86 = .ok (.iconst 1, 1) := by decide +kernel
theorem dX5_givesBonuses_87 : decode cX5_givesBonuses 87 = .ok (.iadd, 1) := by decide +kernel
theorem dX5_givesBonuses_88 : decode cX5_givesBonuses 88 = .ok (.iastore, 1) := by decide +kernel
theorem dX5_givesBonuses_89 : decode cX5_givesBonuses 89 = .ok (.iinc 3 1, 3) := by decide +kernel
theorem dX5_givesBonuses_92 : decode cX5_givesBonuses 92 = .ok (.goto (-46), 3) := by decide +kernel
