/-! what the tables hold, by program -/
theorem okc_0 : pm_okC vwCl tb_R tb_T 8 101 (2, mX4_init, 0) := ⟨fun h => absurd h (by show ¬ 2 = 3; decide), fun _ => ⟨okm_X4_init, tb_in 13 (by decide +kernel) rfl, tb_in 4 (by decide +kernel) rfl, by decide +kernel, by decide +kernel, by decide +kernel⟩, fun h => absurd h (by show ¬ 2 = 0; decide), fun h => absurd h (by show ¬ 2 = 1; decide), fun _ => ⟨rfl, tb_in 14 (by decide +kernel) rfl, rfl⟩, fun h => absurd h (by show ¬ 2 = 4; decide), fun h => absurd h (by show ¬ 2 = 5; decide)⟩
theorem okc_1 : pm_okC vwCl tb_R tb_T 4 1 (3, mL_law, 0) := ⟨fun _ => ⟨tb_in 16 (by decide +kernel) rfl, tb_in 17 (by decide +kernel) rfl, tb_in 18 (by decide +kernel) rfl⟩, fun h => absurd h (by show ¬ 3 < 3; decide), fun h => absurd h (by show ¬ 3 = 0; decide), fun h => absurd h (by show ¬ 3 = 1; decide), fun h => absurd h (by show ¬ 3 = 2; decide), fun h => absurd h (by show ¬ 3 = 4; decide), fun h => absurd h (by show ¬ 3 = 5; decide)⟩
theorem okc_2 : pm_okC vwCl tb_R tb_T 4 9 (2, mX1_init, 0) := ⟨fun h => absurd h (by show ¬ 2 = 3; decide), fun _ => ⟨okm_X1_init, tb_in 21 (by decide +kernel) rfl, tb_in 5 (by decide +kernel) rfl, by decide +kernel, by decide +kernel, by decide +kernel⟩, fun h => absurd h (by show ¬ 2 = 0; decide), fun h => absurd h (by show ¬ 2 = 1; decide), fun _ => ⟨rfl, tb_in 22 (by decide +kernel) rfl, rfl⟩, fun h => absurd h (by show ¬ 2 = 4; decide), fun h => absurd h (by show ¬ 2 = 5; decide)⟩
theorem okc_3 : pm_okC vwCl tb_R tb_T 1 3 (3, mL_law, 0) := ⟨fun _ => ⟨tb_in 24 (by decide +kernel) rfl, tb_in 17 (by decide +kernel) rfl, tb_in 18 (by decide +kernel) rfl⟩, fun h => absurd h (by show ¬ 3 < 3; decide), fun h => absurd h (by show ¬ 3 = 0; decide), fun h => absurd h (by show ¬ 3 = 1; decide), fun h => absurd h (by show ¬ 3 = 2; decide), fun h => absurd h (by show ¬ 3 = 4; decide), fun h => absurd h (by show ¬ 3 = 5; decide)⟩
theorem okc_4 : pm_okC vwCl tb_R tb_T 1 17 (2, mX0_init, 0) := ⟨fun h => absurd h (by show ¬ 2 = 3; decide), fun _ => ⟨okm_X0_init, tb_in 28 (by decide +kernel) rfl, tb_in 6 (by decide +kernel) rfl, by decide +kernel, by decide +kernel, by decide +kernel⟩, fun h => absurd h (by show ¬ 2 = 0; decide), fun h => absurd h (by show ¬ 2 = 1; decide), fun _ => ⟨rfl, tb_in 29 (by decide +kernel) rfl, rfl⟩, fun h => absurd h (by show ¬ 2 = 4; decide), fun h => absurd h (by show ¬ 2 = 5; decide)⟩
theorem okc_5 : pm_okC vwCl tb_R tb_T 0 1 (3, mL_law, 0) := ⟨fun _ => ⟨tb_in 31 (by decide +kernel) rfl, tb_in 17 (by decide +kernel) rfl, tb_in 18 (by decide +kernel) rfl⟩, fun h => absurd h (by show ¬ 3 < 3; decide), fun h => absurd h (by show ¬ 3 = 0; decide), fun h => absurd h (by show ¬ 3 = 1; decide), fun h => absurd h (by show ¬ 3 = 2; decide), fun h => absurd h (by show ¬ 3 = 4; decide), fun h => absurd h (by show ¬ 3 = 5; decide)⟩
theorem okc_6 : pm_okC vwCl tb_R tb_T 1 24 (2, mX2_init, 0) := ⟨fun h => absurd h (by show ¬ 2 = 3; decide), fun _ => ⟨okm_X2_init, tb_in 51 (by decide +kernel) rfl, tb_in 7 (by decide +kernel) rfl, by decide +kernel, by decide +kernel, by decide +kernel⟩, fun h => absurd h (by show ¬ 2 = 0; decide), fun h => absurd h (by show ¬ 2 = 1; decide), fun _ => ⟨rfl, tb_in 52 (by decide +kernel) rfl, rfl⟩, fun h => absurd h (by show ¬ 2 = 4; decide), fun h => absurd h (by show ¬ 2 = 5; decide)⟩
theorem okc_7 : pm_okC vwCl tb_R tb_T 2 1 (3, mL_law, 0) := ⟨fun _ => ⟨tb_in 54 (by decide +kernel) rfl, tb_in 17 (by decide +kernel) rfl, tb_in 18 (by decide +kernel) rfl⟩, fun h => absurd h (by show ¬ 3 < 3; decide), fun h => absurd h (by show ¬ 3 = 0; decide), fun h => absurd h (by show ¬ 3 = 1; decide), fun h => absurd h (by show ¬ 3 = 2; decide), fun h => absurd h (by show ¬ 3 = 4; decide), fun h => absurd h (by show ¬ 3 = 5; decide)⟩
theorem okc_8 : pm_okC vwCl tb_R tb_T 1 31 (2, mX3_init, 0) := ⟨fun h => absurd h (by show ¬ 2 = 3; decide), fun _ => ⟨okm_X3_init, tb_in 79 (by decide +kernel) rfl, tb_in 8 (by decide +kernel) rfl, by decide +kernel, by decide +kernel, by decide +kernel⟩, fun h => absurd h (by show ¬ 2 = 0; decide), fun h => absurd h (by show ¬ 2 = 1; decide), fun _ => ⟨rfl, tb_in 80 (by decide +kernel) rfl, rfl⟩, fun h => absurd h (by show ¬ 2 = 4; decide), fun h => absurd h (by show ¬ 2 = 5; decide)⟩
theorem okc_9 : pm_okC vwCl tb_R tb_T 3 3 (3, mL_law, 0) := ⟨fun _ => ⟨tb_in 82 (by decide +kernel) rfl, tb_in 17 (by decide +kernel) rfl, tb_in 18 (by decide +kernel) rfl⟩, fun h => absurd h (by show ¬ 3 < 3; decide), fun h => absurd h (by show ¬ 3 = 0; decide), fun h => absurd h (by show ¬ 3 = 1; decide), fun h => absurd h (by show ¬ 3 = 2; decide), fun h => absurd h (by show ¬ 3 = 4; decide), fun h => absurd h (by show ¬ 3 = 5; decide)⟩
theorem okc_10 : pm_okC vwCl tb_R tb_T 8 37 (0, mX4_addAsset, 2) := ⟨fun h => absurd h (by show ¬ 0 = 3; decide), fun _ => ⟨okm_X4_addAsset, tb_in 213 (by decide +kernel) rfl, tb_in 4 (by decide +kernel) rfl, by decide +kernel, by decide +kernel, by decide +kernel⟩, fun _ => ⟨tb_in 214 (by decide +kernel) rfl, tb_in 215 (by decide +kernel) rfl⟩, fun h => absurd h (by show ¬ 0 = 1; decide), fun h => absurd h (by show ¬ 0 = 2; decide), fun h => absurd h (by show ¬ 0 = 4; decide), fun h => absurd h (by show ¬ 0 = 5; decide)⟩
theorem okc_11 : pm_okC vwCl tb_R tb_T 4 34 (1, mX4_isOutside, 3) := ⟨fun h => absurd h (by show ¬ 1 = 3; decide), fun _ => ⟨okm_X4_isOutside, tb_in 217 (by decide +kernel) rfl, tb_in 4 (by decide +kernel) rfl, by decide +kernel, by decide +kernel, by decide +kernel⟩, fun h => absurd h (by show ¬ 1 = 0; decide), fun _ => tb_in 218 (by decide +kernel) rfl, fun h => absurd h (by show ¬ 1 = 2; decide), fun h => absurd h (by show ¬ 1 = 4; decide), fun h => absurd h (by show ¬ 1 = 5; decide)⟩
theorem okc_12 : pm_okC vwCl tb_R tb_T 4 41 (0, mX4_remember, 0) := ⟨fun h => absurd h (by show ¬ 0 = 3; decide), fun _ => ⟨okm_X4_remember, tb_in 220 (by decide +kernel) rfl, tb_in 4 (by decide +kernel) rfl, by decide +kernel, by decide +kernel, by decide +kernel⟩, fun _ => ⟨tb_in 222 (by decide +kernel) rfl, tb_in 0 (by decide +kernel) rfl⟩, fun h => absurd h (by show ¬ 0 = 1; decide), fun h => absurd h (by show ¬ 0 = 2; decide), fun h => absurd h (by show ¬ 0 = 4; decide), fun h => absurd h (by show ¬ 0 = 5; decide)⟩
theorem okc_13 : pm_okC vwCl tb_R tb_T 4 150 (0, mX1_copyFrom, 1) := ⟨fun h => absurd h (by show ¬ 0 = 3; decide), fun _ => ⟨okm_X1_copyFrom, tb_in 224 (by decide +kernel) rfl, tb_in 5 (by decide +kernel) rfl, by decide +kernel, by decide +kernel, by decide +kernel⟩, fun _ => ⟨tb_in 225 (by decide +kernel) rfl, tb_in 226 (by decide +kernel) rfl⟩, fun h => absurd h (by show ¬ 0 = 1; decide), fun h => absurd h (by show ¬ 0 = 2; decide), fun h => absurd h (by show ¬ 0 = 4; decide), fun h => absurd h (by show ¬ 0 = 5; decide)⟩
theorem okc_14 : pm_okC vwCl tb_R tb_T 1 42 (0, mX0_copyFrom, 1) := ⟨fun h => absurd h (by show ¬ 0 = 3; decide), fun _ => ⟨okm_X0_copyFrom, tb_in 228 (by decide +kernel) rfl, tb_in 6 (by decide +kernel) rfl, by decide +kernel, by decide +kernel, by decide +kernel⟩, fun _ => ⟨tb_in 229 (by decide +kernel) rfl, tb_in 230 (by decide +kernel) rfl⟩, fun h => absurd h (by show ¬ 0 = 1; decide), fun h => absurd h (by show ¬ 0 = 2; decide), fun h => absurd h (by show ¬ 0 = 4; decide), fun h => absurd h (by show ¬ 0 = 5; decide)⟩
theorem okc_15 : pm_okC vwCl tb_R tb_T 1 49 (0, mX2_copyFrom, 1) := ⟨fun h => absurd h (by show ¬ 0 = 3; decide), fun _ => ⟨okm_X2_copyFrom, tb_in 232 (by decide +kernel) rfl, tb_in 7 (by decide +kernel) rfl, by decide +kernel, by decide +kernel, by decide +kernel⟩, fun _ => ⟨tb_in 233 (by decide +kernel) rfl, tb_in 234 (by decide +kernel) rfl⟩, fun h => absurd h (by show ¬ 0 = 1; decide), fun h => absurd h (by show ¬ 0 = 2; decide), fun h => absurd h (by show ¬ 0 = 4; decide), fun h => absurd h (by show ¬ 0 = 5; decide)⟩
theorem okc_16 : pm_okC vwCl tb_R tb_T 1 55 (0, mX3_copyFrom, 1) := ⟨fun h => absurd h (by show ¬ 0 = 3; decide), fun _ => ⟨okm_X3_copyFrom, tb_in 236 (by decide +kernel) rfl, tb_in 8 (by decide +kernel) rfl, by decide +kernel, by decide +kernel, by decide +kernel⟩, fun _ => ⟨tb_in 237 (by decide +kernel) rfl, tb_in 238 (by decide +kernel) rfl⟩, fun h => absurd h (by show ¬ 0 = 1; decide), fun h => absurd h (by show ¬ 0 = 2; decide), fun h => absurd h (by show ¬ 0 = 4; decide), fun h => absurd h (by show ¬ 0 = 5; decide)⟩
theorem okc_17 : pm_okC vwCl tb_R tb_T 4 251 (5, mJ9_min_7cf53, 2) := ⟨fun h => absurd h (by show ¬ 5 = 3; decide), fun h => absurd h (by show ¬ 5 < 3; decide), fun h => absurd h (by show ¬ 5 = 0; decide), fun h => absurd h (by show ¬ 5 = 1; decide), fun h => absurd h (by show ¬ 5 = 2; decide), fun h => absurd h (by show ¬ 5 = 4; decide), fun _ => ⟨tb_in 240 (by decide +kernel) rfl, tb_in 241 (by decide +kernel) rfl, tb_in 9 (by decide +kernel) rfl, tb_in 242 (by decide +kernel) rfl⟩⟩
theorem okc_18 : pm_okC vwCl tb_R tb_T 4 44 (0, mX1_openAsset, 2) := ⟨fun h => absurd h (by show ¬ 0 = 3; decide), fun _ => ⟨okm_X1_openAsset, tb_in 243 (by decide +kernel) rfl, tb_in 5 (by decide +kernel) rfl, by decide +kernel, by decide +kernel, by decide +kernel⟩, fun _ => ⟨tb_in 244 (by decide +kernel) rfl, tb_in 245 (by decide +kernel) rfl⟩, fun h => absurd h (by show ¬ 0 = 1; decide), fun h => absurd h (by show ¬ 0 = 2; decide), fun h => absurd h (by show ¬ 0 = 4; decide), fun h => absurd h (by show ¬ 0 = 5; decide)⟩
theorem okc_19 : pm_okC vwCl tb_R tb_T 8 113 (0, mX4_addHunter, 0) := ⟨fun h => absurd h (by show ¬ 0 = 3; decide), fun _ => ⟨okm_X4_addHunter, tb_in 247 (by decide +kernel) rfl, tb_in 4 (by decide +kernel) rfl, by decide +kernel, by decide +kernel, by decide +kernel⟩, fun _ => ⟨tb_in 248 (by decide +kernel) rfl, tb_in 249 (by decide +kernel) rfl⟩, fun h => absurd h (by show ¬ 0 = 1; decide), fun h => absurd h (by show ¬ 0 = 2; decide), fun h => absurd h (by show ¬ 0 = 4; decide), fun h => absurd h (by show ¬ 0 = 5; decide)⟩
theorem okc_20 : pm_okC vwCl tb_R tb_T 4 51 (0, mX1_openHunter, 0) := ⟨fun h => absurd h (by show ¬ 0 = 3; decide), fun _ => ⟨okm_X1_openHunter, tb_in 251 (by decide +kernel) rfl, tb_in 5 (by decide +kernel) rfl, by decide +kernel, by decide +kernel, by decide +kernel⟩, fun _ => ⟨tb_in 252 (by decide +kernel) rfl, tb_in 253 (by decide +kernel) rfl⟩, fun h => absurd h (by show ¬ 0 = 1; decide), fun h => absurd h (by show ¬ 0 = 2; decide), fun h => absurd h (by show ¬ 0 = 4; decide), fun h => absurd h (by show ¬ 0 = 5; decide)⟩
theorem okc_21 : pm_okC vwCl tb_R tb_T 1 79 (0, mX2_clear, 0) := ⟨fun h => absurd h (by show ¬ 0 = 3; decide), fun _ => ⟨okm_X2_clear, tb_in 255 (by decide +kernel) rfl, tb_in 7 (by decide +kernel) rfl, by decide +kernel, by decide +kernel, by decide +kernel⟩, fun _ => ⟨tb_in 256 (by decide +kernel) rfl, tb_in 257 (by decide +kernel) rfl⟩, fun h => absurd h (by show ¬ 0 = 1; decide), fun h => absurd h (by show ¬ 0 = 2; decide), fun h => absurd h (by show ¬ 0 = 4; decide), fun h => absurd h (by show ¬ 0 = 5; decide)⟩
theorem okc_22 : pm_okC vwCl tb_R tb_T 8 43 (0, mX4_setRate, 1) := ⟨fun h => absurd h (by show ¬ 0 = 3; decide), fun _ => ⟨okm_X4_setRate, tb_in 259 (by decide +kernel) rfl, tb_in 4 (by decide +kernel) rfl, by decide +kernel, by decide +kernel, by decide +kernel⟩, fun _ => ⟨tb_in 260 (by decide +kernel) rfl, tb_in 261 (by decide +kernel) rfl⟩, fun h => absurd h (by show ¬ 0 = 1; decide), fun h => absurd h (by show ¬ 0 = 2; decide), fun h => absurd h (by show ¬ 0 = 4; decide), fun h => absurd h (by show ¬ 0 = 5; decide)⟩
theorem okc_23 : pm_okC vwCl tb_R tb_T 8 46 (0, mX4_setBonus, 1) := ⟨fun h => absurd h (by show ¬ 0 = 3; decide), fun _ => ⟨okm_X4_setBonus, tb_in 263 (by decide +kernel) rfl, tb_in 4 (by decide +kernel) rfl, by decide +kernel, by decide +kernel, by decide +kernel⟩, fun _ => ⟨tb_in 264 (by decide +kernel) rfl, tb_in 265 (by decide +kernel) rfl⟩, fun h => absurd h (by show ¬ 0 = 1; decide), fun h => absurd h (by show ¬ 0 = 2; decide), fun h => absurd h (by show ¬ 0 = 4; decide), fun h => absurd h (by show ¬ 0 = 5; decide)⟩
theorem okc_24 : pm_okC vwCl tb_R tb_T 8 90 (0, mX4_undo, 0) := ⟨fun h => absurd h (by show ¬ 0 = 3; decide), fun _ => ⟨okm_X4_undo, tb_in 267 (by decide +kernel) rfl, tb_in 4 (by decide +kernel) rfl, by decide +kernel, by decide +kernel, by decide +kernel⟩, fun _ => ⟨tb_in 268 (by decide +kernel) rfl, tb_in 269 (by decide +kernel) rfl⟩, fun h => absurd h (by show ¬ 0 = 1; decide), fun h => absurd h (by show ¬ 0 = 2; decide), fun h => absurd h (by show ¬ 0 = 4; decide), fun h => absurd h (by show ¬ 0 = 5; decide)⟩
theorem okc_25 : pm_okC vwCl tb_R tb_T 8 17 (0, mX4_count, 1) := ⟨fun h => absurd h (by show ¬ 0 = 3; decide), fun _ => ⟨okm_X4_count, tb_in 271 (by decide +kernel) rfl, tb_in 4 (by decide +kernel) rfl, by decide +kernel, by decide +kernel, by decide +kernel⟩, fun _ => ⟨tb_in 272 (by decide +kernel) rfl, tb_in 273 (by decide +kernel) rfl⟩, fun h => absurd h (by show ¬ 0 = 1; decide), fun h => absurd h (by show ¬ 0 = 2; decide), fun h => absurd h (by show ¬ 0 = 4; decide), fun h => absurd h (by show ¬ 0 = 5; decide)⟩
theorem okc_26 : pm_okC vwCl tb_R tb_T 4 154 (0, mX1_reportsInState, 1) := ⟨fun h => absurd h (by show ¬ 0 = 3; decide), fun _ => ⟨okm_X1_reportsInState, tb_in 275 (by decide +kernel) rfl, tb_in 5 (by decide +kernel) rfl, by decide +kernel, by decide +kernel, by decide +kernel⟩, fun _ => ⟨tb_in 276 (by decide +kernel) rfl, tb_in 277 (by decide +kernel) rfl⟩, fun h => absurd h (by show ¬ 0 = 1; decide), fun h => absurd h (by show ¬ 0 = 2; decide), fun h => absurd h (by show ¬ 0 = 4; decide), fun h => absurd h (by show ¬ 0 = 5; decide)⟩
theorem okc_27 : pm_okC vwCl tb_R tb_T 4 157 (0, mX1_moneyInPools, 0) := ⟨fun h => absurd h (by show ¬ 0 = 3; decide), fun _ => ⟨okm_X1_moneyInPools, tb_in 279 (by decide +kernel) rfl, tb_in 5 (by decide +kernel) rfl, by decide +kernel, by decide +kernel, by decide +kernel⟩, fun _ => ⟨tb_in 280 (by decide +kernel) rfl, tb_in 281 (by decide +kernel) rfl⟩, fun h => absurd h (by show ¬ 0 = 1; decide), fun h => absurd h (by show ¬ 0 = 2; decide), fun h => absurd h (by show ¬ 0 = 4; decide), fun h => absurd h (by show ¬ 0 = 5; decide)⟩
theorem okc_28 : pm_okC vwCl tb_R tb_T 4 166 (0, mX1_openAppeals, 0) := ⟨fun h => absurd h (by show ¬ 0 = 3; decide), fun _ => ⟨okm_X1_openAppeals, tb_in 283 (by decide +kernel) rfl, tb_in 5 (by decide +kernel) rfl, by decide +kernel, by decide +kernel, by decide +kernel⟩, fun _ => ⟨tb_in 284 (by decide +kernel) rfl, tb_in 285 (by decide +kernel) rfl⟩, fun h => absurd h (by show ¬ 0 = 1; decide), fun h => absurd h (by show ¬ 0 = 2; decide), fun h => absurd h (by show ¬ 0 = 4; decide), fun h => absurd h (by show ¬ 0 = 5; decide)⟩
theorem okc_29 : pm_okC vwCl tb_R tb_T 8 109 (1, mL_cell, 2) := ⟨fun h => absurd h (by show ¬ 1 = 3; decide), fun _ => ⟨okm_L_cell, tb_in 287 (by decide +kernel) rfl, tb_in 3 (by decide +kernel) rfl, by decide +kernel, by decide +kernel, by decide +kernel⟩, fun h => absurd h (by show ¬ 1 = 0; decide), fun _ => tb_in 288 (by decide +kernel) rfl, fun h => absurd h (by show ¬ 1 = 2; decide), fun h => absurd h (by show ¬ 1 = 4; decide), fun h => absurd h (by show ¬ 1 = 5; decide)⟩
theorem okc_30 : pm_okC vwCl tb_R tb_T 8 95 (1, mL_low, 2) := ⟨fun h => absurd h (by show ¬ 1 = 3; decide), fun _ => ⟨okm_L_low, tb_in 291 (by decide +kernel) rfl, tb_in 3 (by decide +kernel) rfl, by decide +kernel, by decide +kernel, by decide +kernel⟩, fun h => absurd h (by show ¬ 1 = 0; decide), fun _ => tb_in 292 (by decide +kernel) rfl, fun h => absurd h (by show ¬ 1 = 2; decide), fun h => absurd h (by show ¬ 1 = 4; decide), fun h => absurd h (by show ¬ 1 = 5; decide)⟩
theorem okc_31 : pm_okC vwCl tb_R tb_T 8 31 (1, mL_sum, 1) := ⟨fun h => absurd h (by show ¬ 1 = 3; decide), fun _ => ⟨okm_L_sum, tb_in 295 (by decide +kernel) rfl, tb_in 3 (by decide +kernel) rfl, by decide +kernel, by decide +kernel, by decide +kernel⟩, fun h => absurd h (by show ¬ 1 = 0; decide), fun _ => tb_in 296 (by decide +kernel) rfl, fun h => absurd h (by show ¬ 1 = 2; decide), fun h => absurd h (by show ¬ 1 = 4; decide), fun h => absurd h (by show ¬ 1 = 5; decide)⟩
theorem okc_32 : pm_okC vwCl tb_R tb_T 8 9 (0, mX4_lack, 0) := ⟨fun h => absurd h (by show ¬ 0 = 3; decide), fun _ => ⟨okm_X4_lack, tb_in 298 (by decide +kernel) rfl, tb_in 4 (by decide +kernel) rfl, by decide +kernel, by decide +kernel, by decide +kernel⟩, fun _ => ⟨tb_in 299 (by decide +kernel) rfl, tb_in 300 (by decide +kernel) rfl⟩, fun h => absurd h (by show ¬ 0 = 1; decide), fun h => absurd h (by show ¬ 0 = 2; decide), fun h => absurd h (by show ¬ 0 = 4; decide), fun h => absurd h (by show ¬ 0 = 5; decide)⟩
theorem okc_33 : pm_okC vwCl tb_R tb_T 4 187 (0, mX1_payablePrices, 1) := ⟨fun h => absurd h (by show ¬ 0 = 3; decide), fun _ => ⟨okm_X1_payablePrices, tb_in 302 (by decide +kernel) rfl, tb_in 5 (by decide +kernel) rfl, by decide +kernel, by decide +kernel, by decide +kernel⟩, fun _ => ⟨tb_in 303 (by decide +kernel) rfl, tb_in 304 (by decide +kernel) rfl⟩, fun h => absurd h (by show ¬ 0 = 1; decide), fun h => absurd h (by show ¬ 0 = 2; decide), fun h => absurd h (by show ¬ 0 = 4; decide), fun h => absurd h (by show ¬ 0 = 5; decide)⟩
theorem okc_34 : pm_okC vwCl tb_R tb_T 1 176 (0, mX3_isPayable, 0) := ⟨fun h => absurd h (by show ¬ 0 = 3; decide), fun _ => ⟨okm_X3_isPayable, tb_in 306 (by decide +kernel) rfl, tb_in 8 (by decide +kernel) rfl, by decide +kernel, by decide +kernel, by decide +kernel⟩, fun _ => ⟨tb_in 307 (by decide +kernel) rfl, tb_in 308 (by decide +kernel) rfl⟩, fun h => absurd h (by show ¬ 0 = 1; decide), fun h => absurd h (by show ¬ 0 = 2; decide), fun h => absurd h (by show ¬ 0 = 4; decide), fun h => absurd h (by show ¬ 0 = 5; decide)⟩
theorem okc_35 : pm_okC vwCl tb_R tb_T 1 124 (0, mX1_priceOf, 1) := ⟨fun h => absurd h (by show ¬ 0 = 3; decide), fun _ => ⟨okm_X1_priceOf, tb_in 310 (by decide +kernel) rfl, tb_in 5 (by decide +kernel) rfl, by decide +kernel, by decide +kernel, by decide +kernel⟩, fun _ => ⟨tb_in 311 (by decide +kernel) rfl, tb_in 312 (by decide +kernel) rfl⟩, fun h => absurd h (by show ¬ 0 = 1; decide), fun h => absurd h (by show ¬ 0 = 2; decide), fun h => absurd h (by show ¬ 0 = 4; decide), fun h => absurd h (by show ¬ 0 = 5; decide)⟩
theorem okc_36 : pm_okC vwCl tb_R tb_T 1 105 (0, mX1_priceWith, 2) := ⟨fun h => absurd h (by show ¬ 0 = 3; decide), fun _ => ⟨okm_X1_priceWith, tb_in 314 (by decide +kernel) rfl, tb_in 5 (by decide +kernel) rfl, by decide +kernel, by decide +kernel, by decide +kernel⟩, fun _ => ⟨tb_in 315 (by decide +kernel) rfl, tb_in 316 (by decide +kernel) rfl⟩, fun h => absurd h (by show ¬ 0 = 1; decide), fun h => absurd h (by show ¬ 0 = 2; decide), fun h => absurd h (by show ¬ 0 = 4; decide), fun h => absurd h (by show ¬ 0 = 5; decide)⟩
theorem okc_37 : pm_okC vwCl tb_R tb_T 4 243 (4, mJ9_max_7cf53, 2) := ⟨fun h => absurd h (by show ¬ 4 = 3; decide), fun h => absurd h (by show ¬ 4 < 3; decide), fun h => absurd h (by show ¬ 4 = 0; decide), fun h => absurd h (by show ¬ 4 = 1; decide), fun h => absurd h (by show ¬ 4 = 2; decide), fun _ => ⟨tb_in 318 (by decide +kernel) rfl, tb_in 319 (by decide +kernel) rfl, tb_in 9 (by decide +kernel) rfl, tb_in 320 (by decide +kernel) rfl⟩, fun h => absurd h (by show ¬ 4 = 5; decide)⟩
theorem okc_38 : pm_okC vwCl tb_R tb_T 8 21 (0, mX4_asset, 2) := ⟨fun h => absurd h (by show ¬ 0 = 3; decide), fun _ => ⟨okm_X4_asset, tb_in 322 (by decide +kernel) rfl, tb_in 4 (by decide +kernel) rfl, by decide +kernel, by decide +kernel, by decide +kernel⟩, fun _ => ⟨tb_in 323 (by decide +kernel) rfl, tb_in 324 (by decide +kernel) rfl⟩, fun h => absurd h (by show ¬ 0 = 1; decide), fun h => absurd h (by show ¬ 0 = 2; decide), fun h => absurd h (by show ¬ 0 = 4; decide), fun h => absurd h (by show ¬ 0 = 5; decide)⟩
theorem okc_39 : pm_okC vwCl tb_R tb_T 4 70 (0, mX1_hasAsset, 1) := ⟨fun h => absurd h (by show ¬ 0 = 3; decide), fun _ => ⟨okm_X1_hasAsset, tb_in 326 (by decide +kernel) rfl, tb_in 5 (by decide +kernel) rfl, by decide +kernel, by decide +kernel, by decide +kernel⟩, fun _ => ⟨tb_in 327 (by decide +kernel) rfl, tb_in 328 (by decide +kernel) rfl⟩, fun h => absurd h (by show ¬ 0 = 1; decide), fun h => absurd h (by show ¬ 0 = 2; decide), fun h => absurd h (by show ¬ 0 = 4; decide), fun h => absurd h (by show ¬ 0 = 5; decide)⟩
theorem okc_40 : pm_okC vwCl tb_R tb_T 4 184 (0, mX1_reportsFor, 1) := ⟨fun h => absurd h (by show ¬ 0 = 3; decide), fun _ => ⟨okm_X1_reportsFor, tb_in 330 (by decide +kernel) rfl, tb_in 5 (by decide +kernel) rfl, by decide +kernel, by decide +kernel, by decide +kernel⟩, fun _ => ⟨tb_in 331 (by decide +kernel) rfl, tb_in 332 (by decide +kernel) rfl⟩, fun h => absurd h (by show ¬ 0 = 1; decide), fun h => absurd h (by show ¬ 0 = 2; decide), fun h => absurd h (by show ¬ 0 = 4; decide), fun h => absurd h (by show ¬ 0 = 5; decide)⟩
theorem okc_41 : pm_okC vwCl tb_R tb_T 8 25 (0, mX4_hunter, 2) := ⟨fun h => absurd h (by show ¬ 0 = 3; decide), fun _ => ⟨okm_X4_hunter, tb_in 334 (by decide +kernel) rfl, tb_in 4 (by decide +kernel) rfl, by decide +kernel, by decide +kernel, by decide +kernel⟩, fun _ => ⟨tb_in 335 (by decide +kernel) rfl, tb_in 336 (by decide +kernel) rfl⟩, fun h => absurd h (by show ¬ 0 = 1; decide), fun h => absurd h (by show ¬ 0 = 2; decide), fun h => absurd h (by show ¬ 0 = 4; decide), fun h => absurd h (by show ¬ 0 = 5; decide)⟩
theorem okc_42 : pm_okC vwCl tb_R tb_T 4 66 (0, mX1_hasHunter, 1) := ⟨fun h => absurd h (by show ¬ 0 = 3; decide), fun _ => ⟨okm_X1_hasHunter, tb_in 338 (by decide +kernel) rfl, tb_in 5 (by decide +kernel) rfl, by decide +kernel, by decide +kernel, by decide +kernel⟩, fun _ => ⟨tb_in 339 (by decide +kernel) rfl, tb_in 340 (by decide +kernel) rfl⟩, fun h => absurd h (by show ¬ 0 = 1; decide), fun h => absurd h (by show ¬ 0 = 2; decide), fun h => absurd h (by show ¬ 0 = 4; decide), fun h => absurd h (by show ¬ 0 = 5; decide)⟩
theorem okc_43 : pm_okC vwCl tb_R tb_T 4 194 (0, mX1_reportsBy, 1) := ⟨fun h => absurd h (by show ¬ 0 = 3; decide), fun _ => ⟨okm_X1_reportsBy, tb_in 342 (by decide +kernel) rfl, tb_in 5 (by decide +kernel) rfl, by decide +kernel, by decide +kernel, by decide +kernel⟩, fun _ => ⟨tb_in 343 (by decide +kernel) rfl, tb_in 344 (by decide +kernel) rfl⟩, fun h => absurd h (by show ¬ 0 = 1; decide), fun h => absurd h (by show ¬ 0 = 2; decide), fun h => absurd h (by show ¬ 0 = 4; decide), fun h => absurd h (by show ¬ 0 = 5; decide)⟩
theorem okc_44 : pm_okC vwCl tb_R tb_T 4 202 (0, mX1_standingOf, 1) := ⟨fun h => absurd h (by show ¬ 0 = 3; decide), fun _ => ⟨okm_X1_standingOf, tb_in 346 (by decide +kernel) rfl, tb_in 5 (by decide +kernel) rfl, by decide +kernel, by decide +kernel, by decide +kernel⟩, fun _ => ⟨tb_in 347 (by decide +kernel) rfl, tb_in 348 (by decide +kernel) rfl⟩, fun h => absurd h (by show ¬ 0 = 1; decide), fun h => absurd h (by show ¬ 0 = 2; decide), fun h => absurd h (by show ¬ 0 = 4; decide), fun h => absurd h (by show ¬ 0 = 5; decide)⟩
theorem okc_45 : pm_okC vwCl tb_R tb_T 1 173 (1, mX1_standingFor, 1) := ⟨fun h => absurd h (by show ¬ 1 = 3; decide), fun _ => ⟨okm_X1_standingFor, tb_in 350 (by decide +kernel) rfl, tb_in 5 (by decide +kernel) rfl, by decide +kernel, by decide +kernel, by decide +kernel⟩, fun h => absurd h (by show ¬ 1 = 0; decide), fun _ => tb_in 351 (by decide +kernel) rfl, fun h => absurd h (by show ¬ 1 = 2; decide), fun h => absurd h (by show ¬ 1 = 4; decide), fun h => absurd h (by show ¬ 1 = 5; decide)⟩
theorem okc_46 : pm_okC vwCl tb_R tb_T 8 28 (0, mX4_reportOf, 2) := ⟨fun h => absurd h (by show ¬ 0 = 3; decide), fun _ => ⟨okm_X4_reportOf, tb_in 353 (by decide +kernel) rfl, tb_in 4 (by decide +kernel) rfl, by decide +kernel, by decide +kernel, by decide +kernel⟩, fun _ => ⟨tb_in 354 (by decide +kernel) rfl, tb_in 355 (by decide +kernel) rfl⟩, fun h => absurd h (by show ¬ 0 = 1; decide), fun h => absurd h (by show ¬ 0 = 2; decide), fun h => absurd h (by show ¬ 0 = 4; decide), fun h => absurd h (by show ¬ 0 = 5; decide)⟩
theorem okc_47 : pm_okC vwCl tb_R tb_T 4 80 (0, mX1_hasReport, 1) := ⟨fun h => absurd h (by show ¬ 0 = 3; decide), fun _ => ⟨okm_X1_hasReport, tb_in 357 (by decide +kernel) rfl, tb_in 5 (by decide +kernel) rfl, by decide +kernel, by decide +kernel, by decide +kernel⟩, fun _ => ⟨tb_in 358 (by decide +kernel) rfl, tb_in 359 (by decide +kernel) rfl⟩, fun h => absurd h (by show ¬ 0 = 1; decide), fun h => absurd h (by show ¬ 0 = 2; decide), fun h => absurd h (by show ¬ 0 = 4; decide), fun h => absurd h (by show ¬ 0 = 5; decide)⟩
theorem okc_48 : pm_okC vwCl tb_R tb_T 4 223 (0, mX3_hasSeverity, 0) := ⟨fun h => absurd h (by show ¬ 0 = 3; decide), fun _ => ⟨okm_X3_hasSeverity, tb_in 361 (by decide +kernel) rfl, tb_in 8 (by decide +kernel) rfl, by decide +kernel, by decide +kernel, by decide +kernel⟩, fun _ => ⟨tb_in 362 (by decide +kernel) rfl, tb_in 363 (by decide +kernel) rfl⟩, fun h => absurd h (by show ¬ 0 = 1; decide), fun h => absurd h (by show ¬ 0 = 2; decide), fun h => absurd h (by show ¬ 0 = 4; decide), fun h => absurd h (by show ¬ 0 = 5; decide)⟩
theorem okc_49 : pm_okC vwCl tb_R tb_T 3 52 (0, mX3_isPayable, 0) := ⟨fun h => absurd h (by show ¬ 0 = 3; decide), fun _ => ⟨okm_X3_isPayable, tb_in 365 (by decide +kernel) rfl, tb_in 8 (by decide +kernel) rfl, by decide +kernel, by decide +kernel, by decide +kernel⟩, fun _ => ⟨tb_in 307 (by decide +kernel) rfl, tb_in 308 (by decide +kernel) rfl⟩, fun h => absurd h (by show ¬ 0 = 1; decide), fun h => absurd h (by show ¬ 0 = 2; decide), fun h => absurd h (by show ¬ 0 = 4; decide), fun h => absurd h (by show ¬ 0 = 5; decide)⟩
theorem okc_50 : pm_okC vwCl tb_R tb_T 4 226 (0, mX1_foldedReports, 1) := ⟨fun h => absurd h (by show ¬ 0 = 3; decide), fun _ => ⟨okm_X1_foldedReports, tb_in 366 (by decide +kernel) rfl, tb_in 5 (by decide +kernel) rfl, by decide +kernel, by decide +kernel, by decide +kernel⟩, fun _ => ⟨tb_in 367 (by decide +kernel) rfl, tb_in 368 (by decide +kernel) rfl⟩, fun h => absurd h (by show ¬ 0 = 1; decide), fun h => absurd h (by show ¬ 0 = 2; decide), fun h => absurd h (by show ¬ 0 = 4; decide), fun h => absurd h (by show ¬ 0 = 5; decide)⟩
theorem okc_51 : pm_okC vwCl tb_R tb_T 4 102 (0, mX1_priceOf, 1) := ⟨fun h => absurd h (by show ¬ 0 = 3; decide), fun _ => ⟨okm_X1_priceOf, tb_in 370 (by decide +kernel) rfl, tb_in 5 (by decide +kernel) rfl, by decide +kernel, by decide +kernel, by decide +kernel⟩, fun _ => ⟨tb_in 311 (by decide +kernel) rfl, tb_in 312 (by decide +kernel) rfl⟩, fun h => absurd h (by show ¬ 0 = 1; decide), fun h => absurd h (by show ¬ 0 = 2; decide), fun h => absurd h (by show ¬ 0 = 4; decide), fun h => absurd h (by show ¬ 0 = 5; decide)⟩
theorem okc_52 : pm_okC vwCl tb_R tb_T 4 235 (1, mJ6_bitCount_0f7a4, 1) := ⟨fun h => absurd h (by show ¬ 1 = 3; decide), fun _ => ⟨okm_J6_bitCount_0f7a4, tb_in 371 (by decide +kernel) rfl, tb_in 10 (by decide +kernel) rfl, by decide +kernel, by decide +kernel, by decide +kernel⟩, fun h => absurd h (by show ¬ 1 = 0; decide), fun _ => tb_in 372 (by decide +kernel) rfl, fun h => absurd h (by show ¬ 1 = 2; decide), fun h => absurd h (by show ¬ 1 = 4; decide), fun h => absurd h (by show ¬ 1 = 5; decide)⟩
theorem okc_53 : pm_okC vwCl tb_R tb_T 8 102 (1, mL_refused, 1) := ⟨fun h => absurd h (by show ¬ 1 = 3; decide), fun _ => ⟨okm_L_refused, tb_in 377 (by decide +kernel) rfl, tb_in 3 (by decide +kernel) rfl, by decide +kernel, by decide +kernel, by decide +kernel⟩, fun h => absurd h (by show ¬ 1 = 0; decide), fun _ => tb_in 378 (by decide +kernel) rfl, fun h => absurd h (by show ¬ 1 = 2; decide), fun h => absurd h (by show ¬ 1 = 4; decide), fun h => absurd h (by show ¬ 1 = 5; decide)⟩
theorem okc_54 : pm_okC vwCl tb_R tb_T 8 40 (0, mX4_fill, 1) := ⟨fun h => absurd h (by show ¬ 0 = 3; decide), fun _ => ⟨okm_X4_fill, tb_in 380 (by decide +kernel) rfl, tb_in 4 (by decide +kernel) rfl, by decide +kernel, by decide +kernel, by decide +kernel⟩, fun _ => ⟨tb_in 381 (by decide +kernel) rfl, tb_in 382 (by decide +kernel) rfl⟩, fun h => absurd h (by show ¬ 0 = 1; decide), fun h => absurd h (by show ¬ 0 = 2; decide), fun h => absurd h (by show ¬ 0 = 4; decide), fun h => absurd h (by show ¬ 0 = 5; decide)⟩
theorem okc_55 : pm_okC vwCl tb_R tb_T 8 49 (0, mX4_report, 3) := ⟨fun h => absurd h (by show ¬ 0 = 3; decide), fun _ => ⟨okm_X4_report, tb_in 386 (by decide +kernel) rfl, tb_in 4 (by decide +kernel) rfl, by decide +kernel, by decide +kernel, by decide +kernel⟩, fun _ => ⟨tb_in 387 (by decide +kernel) rfl, tb_in 388 (by decide +kernel) rfl⟩, fun h => absurd h (by show ¬ 0 = 1; decide), fun h => absurd h (by show ¬ 0 = 2; decide), fun h => absurd h (by show ¬ 0 = 4; decide), fun h => absurd h (by show ¬ 0 = 5; decide)⟩
theorem okc_56 : pm_okC vwCl tb_R tb_T 4 76 (0, mX1_openReport, 3) := ⟨fun h => absurd h (by show ¬ 0 = 3; decide), fun _ => ⟨okm_X1_openReport, tb_in 390 (by decide +kernel) rfl, tb_in 5 (by decide +kernel) rfl, by decide +kernel, by decide +kernel, by decide +kernel⟩, fun _ => ⟨tb_in 391 (by decide +kernel) rfl, tb_in 392 (by decide +kernel) rfl⟩, fun h => absurd h (by show ¬ 0 = 1; decide), fun h => absurd h (by show ¬ 0 = 2; decide), fun h => absurd h (by show ¬ 0 = 4; decide), fun h => absurd h (by show ¬ 0 = 5; decide)⟩
theorem okc_57 : pm_okC vwCl tb_R tb_T 1 82 (0, mX3_open, 3) := ⟨fun h => absurd h (by show ¬ 0 = 3; decide), fun _ => ⟨okm_X3_open, tb_in 394 (by decide +kernel) rfl, tb_in 8 (by decide +kernel) rfl, by decide +kernel, by decide +kernel, by decide +kernel⟩, fun _ => ⟨tb_in 395 (by decide +kernel) rfl, tb_in 396 (by decide +kernel) rfl⟩, fun h => absurd h (by show ¬ 0 = 1; decide), fun h => absurd h (by show ¬ 0 = 2; decide), fun h => absurd h (by show ¬ 0 = 4; decide), fun h => absurd h (by show ¬ 0 = 5; decide)⟩
theorem okc_58 : pm_okC vwCl tb_R tb_T 3 27 (0, mX3_makeNew, 0) := ⟨fun h => absurd h (by show ¬ 0 = 3; decide), fun _ => ⟨okm_X3_makeNew, tb_in 398 (by decide +kernel) rfl, tb_in 8 (by decide +kernel) rfl, by decide +kernel, by decide +kernel, by decide +kernel⟩, fun _ => ⟨tb_in 399 (by decide +kernel) rfl, tb_in 400 (by decide +kernel) rfl⟩, fun h => absurd h (by show ¬ 0 = 1; decide), fun h => absurd h (by show ¬ 0 = 2; decide), fun h => absurd h (by show ¬ 0 = 4; decide), fun h => absurd h (by show ¬ 0 = 5; decide)⟩
theorem okc_59 : pm_okC vwCl tb_R tb_T 8 53 (0, mX4_fold, 1) := ⟨fun h => absurd h (by show ¬ 0 = 3; decide), fun _ => ⟨okm_X4_fold, tb_in 402 (by decide +kernel) rfl, tb_in 4 (by decide +kernel) rfl, by decide +kernel, by decide +kernel, by decide +kernel⟩, fun _ => ⟨tb_in 403 (by decide +kernel) rfl, tb_in 404 (by decide +kernel) rfl⟩, fun h => absurd h (by show ¬ 0 = 1; decide), fun h => absurd h (by show ¬ 0 = 2; decide), fun h => absurd h (by show ¬ 0 = 4; decide), fun h => absurd h (by show ¬ 0 = 5; decide)⟩
theorem okc_60 : pm_okC vwCl tb_R tb_T 4 83 (0, mX1_foldTarget, 1) := ⟨fun h => absurd h (by show ¬ 0 = 3; decide), fun _ => ⟨okm_X1_foldTarget, tb_in 406 (by decide +kernel) rfl, tb_in 5 (by decide +kernel) rfl, by decide +kernel, by decide +kernel, by decide +kernel⟩, fun _ => ⟨tb_in 407 (by decide +kernel) rfl, tb_in 408 (by decide +kernel) rfl⟩, fun h => absurd h (by show ¬ 0 = 1; decide), fun h => absurd h (by show ¬ 0 = 2; decide), fun h => absurd h (by show ¬ 0 = 4; decide), fun h => absurd h (by show ¬ 0 = 5; decide)⟩
theorem okc_61 : pm_okC vwCl tb_R tb_T 1 89 (0, mX3_tellsSameAs, 1) := ⟨fun h => absurd h (by show ¬ 0 = 3; decide), fun _ => ⟨okm_X3_tellsSameAs, tb_in 410 (by decide +kernel) rfl, tb_in 8 (by decide +kernel) rfl, by decide +kernel, by decide +kernel, by decide +kernel⟩, fun _ => ⟨tb_in 411 (by decide +kernel) rfl, tb_in 412 (by decide +kernel) rfl⟩, fun h => absurd h (by show ¬ 0 = 1; decide), fun h => absurd h (by show ¬ 0 = 2; decide), fun h => absurd h (by show ¬ 0 = 4; decide), fun h => absurd h (by show ¬ 0 = 5; decide)⟩
theorem okc_62 : pm_okC vwCl tb_R tb_T 8 56 (0, mX4_grade, 2) := ⟨fun h => absurd h (by show ¬ 0 = 3; decide), fun _ => ⟨okm_X4_grade, tb_in 414 (by decide +kernel) rfl, tb_in 4 (by decide +kernel) rfl, by decide +kernel, by decide +kernel, by decide +kernel⟩, fun _ => ⟨tb_in 415 (by decide +kernel) rfl, tb_in 416 (by decide +kernel) rfl⟩, fun h => absurd h (by show ¬ 0 = 1; decide), fun h => absurd h (by show ¬ 0 = 2; decide), fun h => absurd h (by show ¬ 0 = 4; decide), fun h => absurd h (by show ¬ 0 = 5; decide)⟩
theorem okc_63 : pm_okC vwCl tb_R tb_T 8 59 (0, mX4_refuse, 1) := ⟨fun h => absurd h (by show ¬ 0 = 3; decide), fun _ => ⟨okm_X4_refuse, tb_in 418 (by decide +kernel) rfl, tb_in 4 (by decide +kernel) rfl, by decide +kernel, by decide +kernel, by decide +kernel⟩, fun _ => ⟨tb_in 419 (by decide +kernel) rfl, tb_in 420 (by decide +kernel) rfl⟩, fun h => absurd h (by show ¬ 0 = 1; decide), fun h => absurd h (by show ¬ 0 = 2; decide), fun h => absurd h (by show ¬ 0 = 4; decide), fun h => absurd h (by show ¬ 0 = 5; decide)⟩
theorem okc_64 : pm_okC vwCl tb_R tb_T 4 106 (0, mX3_isPayable, 0) := ⟨fun h => absurd h (by show ¬ 0 = 3; decide), fun _ => ⟨okm_X3_isPayable, tb_in 422 (by decide +kernel) rfl, tb_in 8 (by decide +kernel) rfl, by decide +kernel, by decide +kernel, by decide +kernel⟩, fun _ => ⟨tb_in 307 (by decide +kernel) rfl, tb_in 308 (by decide +kernel) rfl⟩, fun h => absurd h (by show ¬ 0 = 1; decide), fun h => absurd h (by show ¬ 0 = 2; decide), fun h => absurd h (by show ¬ 0 = 4; decide), fun h => absurd h (by show ¬ 0 = 5; decide)⟩
theorem okc_65 : pm_okC vwCl tb_R tb_T 4 113 (0, mX1_releaseFolded, 1) := ⟨fun h => absurd h (by show ¬ 0 = 3; decide), fun _ => ⟨okm_X1_releaseFolded, tb_in 423 (by decide +kernel) rfl, tb_in 5 (by decide +kernel) rfl, by decide +kernel, by decide +kernel, by decide +kernel⟩, fun _ => ⟨tb_in 424 (by decide +kernel) rfl, tb_in 425 (by decide +kernel) rfl⟩, fun h => absurd h (by show ¬ 0 = 1; decide), fun h => absurd h (by show ¬ 0 = 2; decide), fun h => absurd h (by show ¬ 0 = 4; decide), fun h => absurd h (by show ¬ 0 = 5; decide)⟩
theorem okc_66 : pm_okC vwCl tb_R tb_T 1 96 (0, mX3_makeNew, 0) := ⟨fun h => absurd h (by show ¬ 0 = 3; decide), fun _ => ⟨okm_X3_makeNew, tb_in 427 (by decide +kernel) rfl, tb_in 8 (by decide +kernel) rfl, by decide +kernel, by decide +kernel, by decide +kernel⟩, fun _ => ⟨tb_in 399 (by decide +kernel) rfl, tb_in 400 (by decide +kernel) rfl⟩, fun h => absurd h (by show ¬ 0 = 1; decide), fun h => absurd h (by show ¬ 0 = 2; decide), fun h => absurd h (by show ¬ 0 = 4; decide), fun h => absurd h (by show ¬ 0 = 5; decide)⟩
theorem okc_67 : pm_okC vwCl tb_R tb_T 8 62 (0, mX4_appeal, 2) := ⟨fun h => absurd h (by show ¬ 0 = 3; decide), fun _ => ⟨okm_X4_appeal, tb_in 428 (by decide +kernel) rfl, tb_in 4 (by decide +kernel) rfl, by decide +kernel, by decide +kernel, by decide +kernel⟩, fun _ => ⟨tb_in 429 (by decide +kernel) rfl, tb_in 430 (by decide +kernel) rfl⟩, fun h => absurd h (by show ¬ 0 = 1; decide), fun h => absurd h (by show ¬ 0 = 2; decide), fun h => absurd h (by show ¬ 0 = 4; decide), fun h => absurd h (by show ¬ 0 = 5; decide)⟩
theorem okc_68 : pm_okC vwCl tb_R tb_T 4 119 (0, mX1_priceWith, 2) := ⟨fun h => absurd h (by show ¬ 0 = 3; decide), fun _ => ⟨okm_X1_priceWith, tb_in 432 (by decide +kernel) rfl, tb_in 5 (by decide +kernel) rfl, by decide +kernel, by decide +kernel, by decide +kernel⟩, fun _ => ⟨tb_in 315 (by decide +kernel) rfl, tb_in 316 (by decide +kernel) rfl⟩, fun h => absurd h (by show ¬ 0 = 1; decide), fun h => absurd h (by show ¬ 0 = 2; decide), fun h => absurd h (by show ¬ 0 = 4; decide), fun h => absurd h (by show ¬ 0 = 5; decide)⟩
theorem okc_69 : pm_okC vwCl tb_R tb_T 8 65 (0, mX4_decide, 2) := ⟨fun h => absurd h (by show ¬ 0 = 3; decide), fun _ => ⟨okm_X4_decide, tb_in 433 (by decide +kernel) rfl, tb_in 4 (by decide +kernel) rfl, by decide +kernel, by decide +kernel, by decide +kernel⟩, fun _ => ⟨tb_in 434 (by decide +kernel) rfl, tb_in 435 (by decide +kernel) rfl⟩, fun h => absurd h (by show ¬ 0 = 1; decide), fun h => absurd h (by show ¬ 0 = 2; decide), fun h => absurd h (by show ¬ 0 = 4; decide), fun h => absurd h (by show ¬ 0 = 5; decide)⟩
theorem okc_70 : pm_okC vwCl tb_R tb_T 4 123 (0, mX1_closeAppeal, 2) := ⟨fun h => absurd h (by show ¬ 0 = 3; decide), fun _ => ⟨okm_X1_closeAppeal, tb_in 437 (by decide +kernel) rfl, tb_in 5 (by decide +kernel) rfl, by decide +kernel, by decide +kernel, by decide +kernel⟩, fun _ => ⟨tb_in 438 (by decide +kernel) rfl, tb_in 439 (by decide +kernel) rfl⟩, fun h => absurd h (by show ¬ 0 = 1; decide), fun h => absurd h (by show ¬ 0 = 2; decide), fun h => absurd h (by show ¬ 0 = 4; decide), fun h => absurd h (by show ¬ 0 = 5; decide)⟩
theorem okc_71 : pm_okC vwCl tb_R tb_T 8 68 (0, mX4_pay, 1) := ⟨fun h => absurd h (by show ¬ 0 = 3; decide), fun _ => ⟨okm_X4_pay, tb_in 441 (by decide +kernel) rfl, tb_in 4 (by decide +kernel) rfl, by decide +kernel, by decide +kernel, by decide +kernel⟩, fun _ => ⟨tb_in 442 (by decide +kernel) rfl, tb_in 443 (by decide +kernel) rfl⟩, fun h => absurd h (by show ¬ 0 = 1; decide), fun h => absurd h (by show ¬ 0 = 2; decide), fun h => absurd h (by show ¬ 0 = 4; decide), fun h => absurd h (by show ¬ 0 = 5; decide)⟩
theorem okc_72 : pm_okC vwCl tb_R tb_T 4 126 (0, mX1_payOrWait, 1) := ⟨fun h => absurd h (by show ¬ 0 = 3; decide), fun _ => ⟨okm_X1_payOrWait, tb_in 445 (by decide +kernel) rfl, tb_in 5 (by decide +kernel) rfl, by decide +kernel, by decide +kernel, by decide +kernel⟩, fun _ => ⟨tb_in 446 (by decide +kernel) rfl, tb_in 447 (by decide +kernel) rfl⟩, fun h => absurd h (by show ¬ 0 = 1; decide), fun h => absurd h (by show ¬ 0 = 2; decide), fun h => absurd h (by show ¬ 0 = 4; decide), fun h => absurd h (by show ¬ 0 = 5; decide)⟩
theorem okc_73 : pm_okC vwCl tb_R tb_T 1 128 (5, mJ9_min_7cf53, 2) := ⟨fun h => absurd h (by show ¬ 5 = 3; decide), fun h => absurd h (by show ¬ 5 < 3; decide), fun h => absurd h (by show ¬ 5 = 0; decide), fun h => absurd h (by show ¬ 5 = 1; decide), fun h => absurd h (by show ¬ 5 = 2; decide), fun h => absurd h (by show ¬ 5 = 4; decide), fun _ => ⟨tb_in 449 (by decide +kernel) rfl, tb_in 241 (by decide +kernel) rfl, tb_in 9 (by decide +kernel) rfl, tb_in 242 (by decide +kernel) rfl⟩⟩
theorem okc_74 : pm_okC vwCl tb_R tb_T 1 137 (0, mX1_shareOut, 2) := ⟨fun h => absurd h (by show ¬ 0 = 3; decide), fun _ => ⟨okm_X1_shareOut, tb_in 450 (by decide +kernel) rfl, tb_in 5 (by decide +kernel) rfl, by decide +kernel, by decide +kernel, by decide +kernel⟩, fun _ => ⟨tb_in 451 (by decide +kernel) rfl, tb_in 452 (by decide +kernel) rfl⟩, fun h => absurd h (by show ¬ 0 = 1; decide), fun h => absurd h (by show ¬ 0 = 2; decide), fun h => absurd h (by show ¬ 0 = 4; decide), fun h => absurd h (by show ¬ 0 = 5; decide)⟩
theorem okc_75 : pm_okC vwCl tb_R tb_T 8 71 (0, mX4_retest, 3) := ⟨fun h => absurd h (by show ¬ 0 = 3; decide), fun _ => ⟨okm_X4_retest, tb_in 454 (by decide +kernel) rfl, tb_in 4 (by decide +kernel) rfl, by decide +kernel, by decide +kernel, by decide +kernel⟩, fun _ => ⟨tb_in 455 (by decide +kernel) rfl, tb_in 456 (by decide +kernel) rfl⟩, fun h => absurd h (by show ¬ 0 = 1; decide), fun h => absurd h (by show ¬ 0 = 2; decide), fun h => absurd h (by show ¬ 0 = 4; decide), fun h => absurd h (by show ¬ 0 = 5; decide)⟩
theorem okc_76 : pm_okC vwCl tb_R tb_T 4 133 (0, mX3_isRetestedBy, 1) := ⟨fun h => absurd h (by show ¬ 0 = 3; decide), fun _ => ⟨okm_X3_isRetestedBy, tb_in 458 (by decide +kernel) rfl, tb_in 8 (by decide +kernel) rfl, by decide +kernel, by decide +kernel, by decide +kernel⟩, fun _ => ⟨tb_in 459 (by decide +kernel) rfl, tb_in 460 (by decide +kernel) rfl⟩, fun h => absurd h (by show ¬ 0 = 1; decide), fun h => absurd h (by show ¬ 0 = 2; decide), fun h => absurd h (by show ¬ 0 = 4; decide), fun h => absurd h (by show ¬ 0 = 5; decide)⟩
theorem okc_77 : pm_okC vwCl tb_R tb_T 4 136 (0, mX1_isReportedBy, 2) := ⟨fun h => absurd h (by show ¬ 0 = 3; decide), fun _ => ⟨okm_X1_isReportedBy, tb_in 462 (by decide +kernel) rfl, tb_in 5 (by decide +kernel) rfl, by decide +kernel, by decide +kernel, by decide +kernel⟩, fun _ => ⟨tb_in 463 (by decide +kernel) rfl, tb_in 464 (by decide +kernel) rfl⟩, fun h => absurd h (by show ¬ 0 = 1; decide), fun h => absurd h (by show ¬ 0 = 2; decide), fun h => absurd h (by show ¬ 0 = 4; decide), fun h => absurd h (by show ¬ 0 = 5; decide)⟩
theorem okc_78 : pm_okC vwCl tb_R tb_T 4 140 (0, mX1_takeRetest, 3) := ⟨fun h => absurd h (by show ¬ 0 = 3; decide), fun _ => ⟨okm_X1_takeRetest, tb_in 466 (by decide +kernel) rfl, tb_in 5 (by decide +kernel) rfl, by decide +kernel, by decide +kernel, by decide +kernel⟩, fun _ => ⟨tb_in 467 (by decide +kernel) rfl, tb_in 468 (by decide +kernel) rfl⟩, fun h => absurd h (by show ¬ 0 = 1; decide), fun h => absurd h (by show ¬ 0 = 2; decide), fun h => absurd h (by show ¬ 0 = 4; decide), fun h => absurd h (by show ¬ 0 = 5; decide)⟩
theorem okc_79 : pm_okC vwCl tb_R tb_T 1 154 (1, mJ6_bitCount_0f7a4, 1) := ⟨fun h => absurd h (by show ¬ 1 = 3; decide), fun _ => ⟨okm_J6_bitCount_0f7a4, tb_in 470 (by decide +kernel) rfl, tb_in 10 (by decide +kernel) rfl, by decide +kernel, by decide +kernel, by decide +kernel⟩, fun h => absurd h (by show ¬ 1 = 0; decide), fun _ => tb_in 372 (by decide +kernel) rfl, fun h => absurd h (by show ¬ 1 = 2; decide), fun h => absurd h (by show ¬ 1 = 4; decide), fun h => absurd h (by show ¬ 1 = 5; decide)⟩
theorem okc_80 : pm_okC vwCl tb_R tb_T 1 159 (0, mX1_giveBonuses, 1) := ⟨fun h => absurd h (by show ¬ 0 = 3; decide), fun _ => ⟨okm_X1_giveBonuses, tb_in 471 (by decide +kernel) rfl, tb_in 5 (by decide +kernel) rfl, by decide +kernel, by decide +kernel, by decide +kernel⟩, fun _ => ⟨tb_in 472 (by decide +kernel) rfl, tb_in 473 (by decide +kernel) rfl⟩, fun h => absurd h (by show ¬ 0 = 1; decide), fun h => absurd h (by show ¬ 0 = 2; decide), fun h => absurd h (by show ¬ 0 = 4; decide), fun h => absurd h (by show ¬ 0 = 5; decide)⟩
theorem okc_81 : pm_okC vwCl tb_R tb_T 1 167 (0, mX1_releaseFolded, 1) := ⟨fun h => absurd h (by show ¬ 0 = 3; decide), fun _ => ⟨okm_X1_releaseFolded, tb_in 475 (by decide +kernel) rfl, tb_in 5 (by decide +kernel) rfl, by decide +kernel, by decide +kernel, by decide +kernel⟩, fun _ => ⟨tb_in 424 (by decide +kernel) rfl, tb_in 425 (by decide +kernel) rfl⟩, fun h => absurd h (by show ¬ 0 = 1; decide), fun h => absurd h (by show ¬ 0 = 2; decide), fun h => absurd h (by show ¬ 0 = 4; decide), fun h => absurd h (by show ¬ 0 = 5; decide)⟩
theorem okc_82 : pm_okC vwCl tb_R tb_T 8 74 (0, mX4_pass, 1) := ⟨fun h => absurd h (by show ¬ 0 = 3; decide), fun _ => ⟨okm_X4_pass, tb_in 476 (by decide +kernel) rfl, tb_in 4 (by decide +kernel) rfl, by decide +kernel, by decide +kernel, by decide +kernel⟩, fun _ => ⟨tb_in 477 (by decide +kernel) rfl, tb_in 478 (by decide +kernel) rfl⟩, fun h => absurd h (by show ¬ 0 = 1; decide), fun h => absurd h (by show ¬ 0 = 2; decide), fun h => absurd h (by show ¬ 0 = 4; decide), fun h => absurd h (by show ¬ 0 = 5; decide)⟩
theorem okc_83 : pm_okC vwCl tb_R tb_T 4 147 (0, mX1_beginQuarter, 0) := ⟨fun h => absurd h (by show ¬ 0 = 3; decide), fun _ => ⟨okm_X1_beginQuarter, tb_in 480 (by decide +kernel) rfl, tb_in 5 (by decide +kernel) rfl, by decide +kernel, by decide +kernel, by decide +kernel⟩, fun _ => ⟨tb_in 481 (by decide +kernel) rfl, tb_in 482 (by decide +kernel) rfl⟩, fun h => absurd h (by show ¬ 0 = 1; decide), fun h => absurd h (by show ¬ 0 = 2; decide), fun h => absurd h (by show ¬ 0 = 4; decide), fun h => absurd h (by show ¬ 0 = 5; decide)⟩
theorem okc_84 : pm_okC vwCl tb_R tb_T 1 144 (0, mX1_payOrWait, 1) := ⟨fun h => absurd h (by show ¬ 0 = 3; decide), fun _ => ⟨okm_X1_payOrWait, tb_in 484 (by decide +kernel) rfl, tb_in 5 (by decide +kernel) rfl, by decide +kernel, by decide +kernel, by decide +kernel⟩, fun _ => ⟨tb_in 446 (by decide +kernel) rfl, tb_in 447 (by decide +kernel) rfl⟩, fun h => absurd h (by show ¬ 0 = 1; decide), fun h => absurd h (by show ¬ 0 = 2; decide), fun h => absurd h (by show ¬ 0 = 4; decide), fun h => absurd h (by show ¬ 0 = 5; decide)⟩
theorem okc_85 : pm_okC vwCl tb_R tb_T 8 77 (0, mX4_original, 1) := ⟨fun h => absurd h (by show ¬ 0 = 3; decide), fun _ => ⟨okm_X4_original, tb_in 485 (by decide +kernel) rfl, tb_in 4 (by decide +kernel) rfl, by decide +kernel, by decide +kernel, by decide +kernel⟩, fun _ => ⟨tb_in 486 (by decide +kernel) rfl, tb_in 487 (by decide +kernel) rfl⟩, fun h => absurd h (by show ¬ 0 = 1; decide), fun h => absurd h (by show ¬ 0 = 2; decide), fun h => absurd h (by show ¬ 0 = 4; decide), fun h => absurd h (by show ¬ 0 = 5; decide)⟩
theorem okc_86 : pm_okC vwCl tb_R tb_T 8 80 (0, mX4_paidIn, 1) := ⟨fun h => absurd h (by show ¬ 0 = 3; decide), fun _ => ⟨okm_X4_paidIn, tb_in 489 (by decide +kernel) rfl, tb_in 4 (by decide +kernel) rfl, by decide +kernel, by decide +kernel, by decide +kernel⟩, fun _ => ⟨tb_in 490 (by decide +kernel) rfl, tb_in 491 (by decide +kernel) rfl⟩, fun h => absurd h (by show ¬ 0 = 1; decide), fun h => absurd h (by show ¬ 0 = 2; decide), fun h => absurd h (by show ¬ 0 = 4; decide), fun h => absurd h (by show ¬ 0 = 5; decide)⟩
theorem okc_87 : pm_okC vwCl tb_R tb_T 8 83 (0, mX4_best, 1) := ⟨fun h => absurd h (by show ¬ 0 = 3; decide), fun _ => ⟨okm_X4_best, tb_in 493 (by decide +kernel) rfl, tb_in 4 (by decide +kernel) rfl, by decide +kernel, by decide +kernel, by decide +kernel⟩, fun _ => ⟨tb_in 494 (by decide +kernel) rfl, tb_in 495 (by decide +kernel) rfl⟩, fun h => absurd h (by show ¬ 0 = 1; decide), fun h => absurd h (by show ¬ 0 = 2; decide), fun h => absurd h (by show ¬ 0 = 4; decide), fun h => absurd h (by show ¬ 0 = 5; decide)⟩
theorem okc_88 : pm_okC vwCl tb_R tb_T 4 248 (0, mX4_huntersAheadOf, 1) := ⟨fun h => absurd h (by show ¬ 0 = 3; decide), fun _ => ⟨okm_X4_huntersAheadOf, tb_in 497 (by decide +kernel) rfl, tb_in 4 (by decide +kernel) rfl, by decide +kernel, by decide +kernel, by decide +kernel⟩, fun _ => ⟨tb_in 499 (by decide +kernel) rfl, tb_in 1 (by decide +kernel) rfl⟩, fun h => absurd h (by show ¬ 0 = 1; decide), fun h => absurd h (by show ¬ 0 = 2; decide), fun h => absurd h (by show ¬ 0 = 4; decide), fun h => absurd h (by show ¬ 0 = 5; decide)⟩
theorem okc_89 : pm_okC vwCl tb_R tb_T 4 254 (0, mX4_isAhead, 2) := ⟨fun h => absurd h (by show ¬ 0 = 3; decide), fun _ => ⟨okm_X4_isAhead, tb_in 501 (by decide +kernel) rfl, tb_in 4 (by decide +kernel) rfl, by decide +kernel, by decide +kernel, by decide +kernel⟩, fun _ => ⟨tb_in 503 (by decide +kernel) rfl, tb_in 2 (by decide +kernel) rfl⟩, fun h => absurd h (by show ¬ 0 = 1; decide), fun h => absurd h (by show ¬ 0 = 2; decide), fun h => absurd h (by show ¬ 0 = 4; decide), fun h => absurd h (by show ¬ 0 = 5; decide)⟩
theorem okc_90 : pm_okC vwCl tb_R tb_T 8 106 (1, mL_fits, 1) := ⟨fun h => absurd h (by show ¬ 1 = 3; decide), fun _ => ⟨okm_L_fits, tb_in 505 (by decide +kernel) rfl, tb_in 3 (by decide +kernel) rfl, by decide +kernel, by decide +kernel, by decide +kernel⟩, fun h => absurd h (by show ¬ 1 = 0; decide), fun _ => tb_in 506 (by decide +kernel) rfl, fun h => absurd h (by show ¬ 1 = 2; decide), fun h => absurd h (by show ¬ 1 = 4; decide), fun h => absurd h (by show ¬ 1 = 5; decide)⟩
theorem okc_91 : pm_okC vwCl tb_R tb_T 8 86 (1, mL_isReport, 2) := ⟨fun h => absurd h (by show ¬ 1 = 3; decide), fun _ => ⟨okm_L_isReport, tb_in 508 (by decide +kernel) rfl, tb_in 3 (by decide +kernel) rfl, by decide +kernel, by decide +kernel, by decide +kernel⟩, fun h => absurd h (by show ¬ 1 = 0; decide), fun _ => tb_in 509 (by decide +kernel) rfl, fun h => absurd h (by show ¬ 1 = 2; decide), fun h => absurd h (by show ¬ 1 = 4; decide), fun h => absurd h (by show ¬ 1 = 5; decide)⟩
theorem okc_92 : pm_okC vwCl tb_R tb_T 8 120 (1, mL_comesSo, 2) := ⟨fun h => absurd h (by show ¬ 1 = 3; decide), fun _ => ⟨okm_L_comesSo, tb_in 511 (by decide +kernel) rfl, tb_in 3 (by decide +kernel) rfl, by decide +kernel, by decide +kernel, by decide +kernel⟩, fun h => absurd h (by show ¬ 1 = 0; decide), fun _ => tb_in 512 (by decide +kernel) rfl, fun h => absurd h (by show ¬ 1 = 2; decide), fun h => absurd h (by show ¬ 1 = 4; decide), fun h => absurd h (by show ¬ 1 = 5; decide)⟩
theorem okc_93 : pm_okC vwCl tb_R tb_T 8 123 (1, mL_isFilled, 1) := ⟨fun h => absurd h (by show ¬ 1 = 3; decide), fun _ => ⟨okm_L_isFilled, tb_in 514 (by decide +kernel) rfl, tb_in 3 (by decide +kernel) rfl, by decide +kernel, by decide +kernel, by decide +kernel⟩, fun h => absurd h (by show ¬ 1 = 0; decide), fun _ => tb_in 515 (by decide +kernel) rfl, fun h => absurd h (by show ¬ 1 = 2; decide), fun h => absurd h (by show ¬ 1 = 4; decide), fun h => absurd h (by show ¬ 1 = 5; decide)⟩
theorem okc_94 : pm_okC vwCl tb_R tb_T 8 116 (1, mL_acts, 4) := ⟨fun h => absurd h (by show ¬ 1 = 3; decide), fun _ => ⟨okm_L_acts, tb_in 519 (by decide +kernel) rfl, tb_in 3 (by decide +kernel) rfl, by decide +kernel, by decide +kernel, by decide +kernel⟩, fun h => absurd h (by show ¬ 1 = 0; decide), fun _ => tb_in 520 (by decide +kernel) rfl, fun h => absurd h (by show ¬ 1 = 2; decide), fun h => absurd h (by show ¬ 1 = 4; decide), fun h => absurd h (by show ¬ 1 = 5; decide)⟩
theorem okc_95 : pm_okC vwCl tb_R tb_T 8 98 (1, mL_money, 1) := ⟨fun h => absurd h (by show ¬ 1 = 3; decide), fun _ => ⟨okm_L_money, tb_in 522 (by decide +kernel) rfl, tb_in 3 (by decide +kernel) rfl, by decide +kernel, by decide +kernel, by decide +kernel⟩, fun h => absurd h (by show ¬ 1 = 0; decide), fun _ => tb_in 523 (by decide +kernel) rfl, fun h => absurd h (by show ¬ 1 = 2; decide), fun h => absurd h (by show ¬ 1 = 4; decide), fun h => absurd h (by show ¬ 1 = 5; decide)⟩
theorem okk_0 : pm_okK tb tb_R tb_T 0 (RX0, TX0, 3) := by
  refine ⟨rfl, fun w hw => ?_, nmX0, tyX0, tyX0_ok, fun j hj => ?_⟩
  · obtain ⟨k, hk, rfl⟩ := List.mem_map.mp hw
    have hk := List.mem_range.mp hk
    match k, hk with
    | 0, _ => exact tb_in 41 (by decide +kernel) rfl
    | 1, _ => exact tb_in 43 (by decide +kernel) rfl
    | 2, _ => exact tb_in 45 (by decide +kernel) rfl
    | k + 3, hk => exact absurd hk (Nat.not_lt.mpr (Nat.le_add_left 3 _))
  · match j, hj with
    | 0, _ => exact Or.inl ⟨rfl, rfl, rfl⟩
    | 1, _ => exact Or.inl ⟨rfl, rfl, rfl⟩
    | 2, _ => exact Or.inl ⟨rfl, rfl, rfl⟩
    | k + 3, hk => exact absurd hk (Nat.not_lt.mpr (Nat.le_add_left 3 _))
theorem okk_1 : pm_okK tb tb_R tb_T 1 (RX1, TX1, 12) := by
  refine ⟨rfl, fun w hw => ?_, nmX1, tyX1, tyX1_ok, fun j hj => ?_⟩
  · obtain ⟨k, hk, rfl⟩ := List.mem_map.mp hw
    have hk := List.mem_range.mp hk
    match k, hk with
    | 0, _ => exact tb_in 167 (by decide +kernel) rfl
    | 1, _ => exact tb_in 169 (by decide +kernel) rfl
    | 2, _ => exact tb_in 171 (by decide +kernel) rfl
    | 3, _ => exact tb_in 173 (by decide +kernel) rfl
    | 4, _ => exact tb_in 175 (by decide +kernel) rfl
    | 5, _ => exact tb_in 177 (by decide +kernel) rfl
    | 6, _ => exact tb_in 179 (by decide +kernel) rfl
    | 7, _ => exact tb_in 181 (by decide +kernel) rfl
    | 8, _ => exact tb_in 183 (by decide +kernel) rfl
    | 9, _ => exact tb_in 185 (by decide +kernel) rfl
    | 10, _ => exact tb_in 187 (by decide +kernel) rfl
    | 11, _ => exact tb_in 189 (by decide +kernel) rfl
    | k + 12, hk => exact absurd hk (Nat.not_lt.mpr (Nat.le_add_left 12 _))
  · match j, hj with
    | 0, _ => exact Or.inr (Or.inr ⟨rfl, Or.inr ⟨_, rfl⟩, rfl, rfl⟩)
    | 1, _ => exact Or.inr (Or.inr ⟨rfl, Or.inr ⟨_, rfl⟩, rfl, rfl⟩)
    | 2, _ => exact Or.inr (Or.inr ⟨rfl, Or.inr ⟨_, rfl⟩, rfl, rfl⟩)
    | 3, _ => exact Or.inl ⟨rfl, rfl, rfl⟩
    | 4, _ => exact Or.inl ⟨rfl, rfl, rfl⟩
    | 5, _ => exact Or.inl ⟨rfl, rfl, rfl⟩
    | 6, _ => exact Or.inl ⟨rfl, rfl, rfl⟩
    | 7, _ => exact Or.inl ⟨rfl, rfl, rfl⟩
    | 8, _ => exact Or.inl ⟨rfl, rfl, rfl⟩
    | 9, _ => exact Or.inl ⟨rfl, rfl, rfl⟩
    | 10, _ => exact Or.inl ⟨rfl, rfl, rfl⟩
    | 11, _ => exact Or.inl ⟨rfl, rfl, rfl⟩
    | k + 12, hk => exact absurd hk (Nat.not_lt.mpr (Nat.le_add_left 12 _))
theorem okk_2 : pm_okK tb tb_R tb_T 2 (RX2, TX2, 4) := by
  refine ⟨rfl, fun w hw => ?_, nmX2, tyX2, tyX2_ok, fun j hj => ?_⟩
  · obtain ⟨k, hk, rfl⟩ := List.mem_map.mp hw
    have hk := List.mem_range.mp hk
    match k, hk with
    | 0, _ => exact tb_in 67 (by decide +kernel) rfl
    | 1, _ => exact tb_in 69 (by decide +kernel) rfl
    | 2, _ => exact tb_in 71 (by decide +kernel) rfl
    | 3, _ => exact tb_in 73 (by decide +kernel) rfl
    | k + 4, hk => exact absurd hk (Nat.not_lt.mpr (Nat.le_add_left 4 _))
  · match j, hj with
    | 0, _ => exact Or.inl ⟨rfl, rfl, rfl⟩
    | 1, _ => exact Or.inl ⟨rfl, rfl, rfl⟩
    | 2, _ => exact Or.inl ⟨rfl, rfl, rfl⟩
    | 3, _ => exact Or.inl ⟨rfl, rfl, rfl⟩
    | k + 4, hk => exact absurd hk (Nat.not_lt.mpr (Nat.le_add_left 4 _))
theorem okk_3 : pm_okK tb tb_R tb_T 3 (RX3, TX3, 12) := by
  refine ⟨rfl, fun w hw => ?_, nmX3, tyX3, tyX3_ok, fun j hj => ?_⟩
  · obtain ⟨k, hk, rfl⟩ := List.mem_map.mp hw
    have hk := List.mem_range.mp hk
    match k, hk with
    | 0, _ => exact tb_in 118 (by decide +kernel) rfl
    | 1, _ => exact tb_in 120 (by decide +kernel) rfl
    | 2, _ => exact tb_in 122 (by decide +kernel) rfl
    | 3, _ => exact tb_in 124 (by decide +kernel) rfl
    | 4, _ => exact tb_in 126 (by decide +kernel) rfl
    | 5, _ => exact tb_in 128 (by decide +kernel) rfl
    | 6, _ => exact tb_in 130 (by decide +kernel) rfl
    | 7, _ => exact tb_in 132 (by decide +kernel) rfl
    | 8, _ => exact tb_in 134 (by decide +kernel) rfl
    | 9, _ => exact tb_in 136 (by decide +kernel) rfl
    | 10, _ => exact tb_in 138 (by decide +kernel) rfl
    | 11, _ => exact tb_in 140 (by decide +kernel) rfl
    | k + 12, hk => exact absurd hk (Nat.not_lt.mpr (Nat.le_add_left 12 _))
  · match j, hj with
    | 0, _ => exact Or.inl ⟨rfl, rfl, rfl⟩
    | 1, _ => exact Or.inl ⟨rfl, rfl, rfl⟩
    | 2, _ => exact Or.inl ⟨rfl, rfl, rfl⟩
    | 3, _ => exact Or.inl ⟨rfl, rfl, rfl⟩
    | 4, _ => exact Or.inl ⟨rfl, rfl, rfl⟩
    | 5, _ => exact Or.inl ⟨rfl, rfl, rfl⟩
    | 6, _ => exact Or.inl ⟨rfl, rfl, rfl⟩
    | 7, _ => exact Or.inl ⟨rfl, rfl, rfl⟩
    | 8, _ => exact Or.inl ⟨rfl, rfl, rfl⟩
    | 9, _ => exact Or.inl ⟨rfl, rfl, rfl⟩
    | 10, _ => exact Or.inl ⟨rfl, rfl, rfl⟩
    | 11, _ => exact Or.inr (Or.inl ⟨rfl, rfl, rfl⟩)
    | k + 12, hk => exact absurd hk (Nat.not_lt.mpr (Nat.le_add_left 12 _))
theorem okk_4 : pm_okK tb tb_R tb_T 4 (RX4, TX4, 6) := by
  refine ⟨rfl, fun w hw => ?_, nmX4, tyX4, tyX4_ok, fun j hj => ?_⟩
  · obtain ⟨k, hk, rfl⟩ := List.mem_map.mp hw
    have hk := List.mem_range.mp hk
    match k, hk with
    | 0, _ => exact tb_in 199 (by decide +kernel) rfl
    | 1, _ => exact tb_in 201 (by decide +kernel) rfl
    | 2, _ => exact tb_in 203 (by decide +kernel) rfl
    | 3, _ => exact tb_in 205 (by decide +kernel) rfl
    | 4, _ => exact tb_in 207 (by decide +kernel) rfl
    | 5, _ => exact tb_in 209 (by decide +kernel) rfl
    | k + 6, hk => exact absurd hk (Nat.not_lt.mpr (Nat.le_add_left 6 _))
  · match j, hj with
    | 0, _ => exact Or.inr (Or.inr ⟨rfl, Or.inl ⟨_, rfl⟩, rfl, rfl⟩)
    | 1, _ => exact Or.inr (Or.inr ⟨rfl, Or.inl ⟨_, rfl⟩, rfl, rfl⟩)
    | 2, _ => exact Or.inr (Or.inr ⟨rfl, Or.inr ⟨_, rfl⟩, rfl, rfl⟩)
    | 3, _ => exact Or.inr (Or.inr ⟨rfl, Or.inr ⟨_, rfl⟩, rfl, rfl⟩)
    | 4, _ => exact Or.inl ⟨rfl, rfl, rfl⟩
    | 5, _ => exact Or.inl ⟨rfl, rfl, rfl⟩
    | k + 6, hk => exact absurd hk (Nat.not_lt.mpr (Nat.le_add_left 6 _))
theorem okf_0 : ∃ q : vw_C, vwCl[0]? = some q ∧ 0 < q.2.2 ∧ Jvm.Cond.fieldLink (tb_R 0) 7 (q.2.1 0).1 (q.2.1 0).2.1 (q.2.1 0).2.2.1 ∈ tb_T := ⟨(RX0, TX0, 3), rfl, by show 0 < 3; decide, tb_in 32 (by decide +kernel) rfl⟩
theorem okf_1 : ∃ q : vw_C, vwCl[0]? = some q ∧ 0 < q.2.2 ∧ Jvm.Cond.fieldLink (tb_R 1) 70 (q.2.1 0).1 (q.2.1 0).2.1 (q.2.1 0).2.2.1 ∈ tb_T := ⟨(RX0, TX0, 3), rfl, by show 0 < 3; decide, tb_in 33 (by decide +kernel) rfl⟩
theorem okf_2 : ∃ q : vw_C, vwCl[0]? = some q ∧ 0 < q.2.2 ∧ Jvm.Cond.fieldLink (tb_R 4) 173 (q.2.1 0).1 (q.2.1 0).2.1 (q.2.1 0).2.2.1 ∈ tb_T := ⟨(RX0, TX0, 3), rfl, by show 0 < 3; decide, tb_in 34 (by decide +kernel) rfl⟩
theorem okf_3 : ∃ q : vw_C, vwCl[0]? = some q ∧ 1 < q.2.2 ∧ Jvm.Cond.fieldLink (tb_R 0) 13 (q.2.1 1).1 (q.2.1 1).2.1 (q.2.1 1).2.2.1 ∈ tb_T := ⟨(RX0, TX0, 3), rfl, by show 1 < 3; decide, tb_in 35 (by decide +kernel) rfl⟩
theorem okf_4 : ∃ q : vw_C, vwCl[0]? = some q ∧ 1 < q.2.2 ∧ Jvm.Cond.fieldLink (tb_R 1) 73 (q.2.1 1).1 (q.2.1 1).2.1 (q.2.1 1).2.2.1 ∈ tb_T := ⟨(RX0, TX0, 3), rfl, by show 1 < 3; decide, tb_in 36 (by decide +kernel) rfl⟩
theorem okf_5 : ∃ q : vw_C, vwCl[0]? = some q ∧ 1 < q.2.2 ∧ Jvm.Cond.fieldLink (tb_R 4) 178 (q.2.1 1).1 (q.2.1 1).2.1 (q.2.1 1).2.2.1 ∈ tb_T := ⟨(RX0, TX0, 3), rfl, by show 1 < 3; decide, tb_in 37 (by decide +kernel) rfl⟩
theorem okf_6 : ∃ q : vw_C, vwCl[0]? = some q ∧ 2 < q.2.2 ∧ Jvm.Cond.fieldLink (tb_R 0) 16 (q.2.1 2).1 (q.2.1 2).2.1 (q.2.1 2).2.2.1 ∈ tb_T := ⟨(RX0, TX0, 3), rfl, by show 2 < 3; decide, tb_in 38 (by decide +kernel) rfl⟩
theorem okf_7 : ∃ q : vw_C, vwCl[0]? = some q ∧ 2 < q.2.2 ∧ Jvm.Cond.fieldLink (tb_R 1) 76 (q.2.1 2).1 (q.2.1 2).2.1 (q.2.1 2).2.2.1 ∈ tb_T := ⟨(RX0, TX0, 3), rfl, by show 2 < 3; decide, tb_in 39 (by decide +kernel) rfl⟩
theorem okf_8 : ∃ q : vw_C, vwCl[0]? = some q ∧ 2 < q.2.2 ∧ Jvm.Cond.fieldLink (tb_R 4) 181 (q.2.1 2).1 (q.2.1 2).2.1 (q.2.1 2).2.2.1 ∈ tb_T := ⟨(RX0, TX0, 3), rfl, by show 2 < 3; decide, tb_in 40 (by decide +kernel) rfl⟩
theorem okf_9 : ∃ q : vw_C, vwCl[2]? = some q ∧ 0 < q.2.2 ∧ Jvm.Cond.fieldLink (tb_R 2) 7 (q.2.1 0).1 (q.2.1 0).2.1 (q.2.1 0).2.2.1 ∈ tb_T := ⟨(RX2, TX2, 4), rfl, by show 0 < 4; decide, tb_in 55 (by decide +kernel) rfl⟩
theorem okf_10 : ∃ q : vw_C, vwCl[2]? = some q ∧ 0 < q.2.2 ∧ Jvm.Cond.fieldLink (tb_R 1) 141 (q.2.1 0).1 (q.2.1 0).2.1 (q.2.1 0).2.2.1 ∈ tb_T := ⟨(RX2, TX2, 4), rfl, by show 0 < 4; decide, tb_in 56 (by decide +kernel) rfl⟩
theorem okf_11 : ∃ q : vw_C, vwCl[2]? = some q ∧ 0 < q.2.2 ∧ Jvm.Cond.fieldLink (tb_R 4) 197 (q.2.1 0).1 (q.2.1 0).2.1 (q.2.1 0).2.2.1 ∈ tb_T := ⟨(RX2, TX2, 4), rfl, by show 0 < 4; decide, tb_in 57 (by decide +kernel) rfl⟩
theorem okf_12 : ∃ q : vw_C, vwCl[2]? = some q ∧ 1 < q.2.2 ∧ Jvm.Cond.fieldLink (tb_R 2) 13 (q.2.1 1).1 (q.2.1 1).2.1 (q.2.1 1).2.2.1 ∈ tb_T := ⟨(RX2, TX2, 4), rfl, by show 1 < 4; decide, tb_in 58 (by decide +kernel) rfl⟩
theorem okf_13 : ∃ q : vw_C, vwCl[2]? = some q ∧ 1 < q.2.2 ∧ Jvm.Cond.fieldLink (tb_R 1) 118 (q.2.1 1).1 (q.2.1 1).2.1 (q.2.1 1).2.2.1 ∈ tb_T := ⟨(RX2, TX2, 4), rfl, by show 1 < 4; decide, tb_in 59 (by decide +kernel) rfl⟩
theorem okf_14 : ∃ q : vw_C, vwCl[2]? = some q ∧ 1 < q.2.2 ∧ Jvm.Cond.fieldLink (tb_R 4) 205 (q.2.1 1).1 (q.2.1 1).2.1 (q.2.1 1).2.2.1 ∈ tb_T := ⟨(RX2, TX2, 4), rfl, by show 1 < 4; decide, tb_in 60 (by decide +kernel) rfl⟩
theorem okf_15 : ∃ q : vw_C, vwCl[2]? = some q ∧ 2 < q.2.2 ∧ Jvm.Cond.fieldLink (tb_R 2) 16 (q.2.1 2).1 (q.2.1 2).2.1 (q.2.1 2).2.2.1 ∈ tb_T := ⟨(RX2, TX2, 4), rfl, by show 2 < 4; decide, tb_in 61 (by decide +kernel) rfl⟩
theorem okf_16 : ∃ q : vw_C, vwCl[2]? = some q ∧ 2 < q.2.2 ∧ Jvm.Cond.fieldLink (tb_R 1) 121 (q.2.1 2).1 (q.2.1 2).2.1 (q.2.1 2).2.2.1 ∈ tb_T := ⟨(RX2, TX2, 4), rfl, by show 2 < 4; decide, tb_in 62 (by decide +kernel) rfl⟩
theorem okf_17 : ∃ q : vw_C, vwCl[2]? = some q ∧ 2 < q.2.2 ∧ Jvm.Cond.fieldLink (tb_R 4) 208 (q.2.1 2).1 (q.2.1 2).2.1 (q.2.1 2).2.2.1 ∈ tb_T := ⟨(RX2, TX2, 4), rfl, by show 2 < 4; decide, tb_in 63 (by decide +kernel) rfl⟩
theorem okf_18 : ∃ q : vw_C, vwCl[2]? = some q ∧ 3 < q.2.2 ∧ Jvm.Cond.fieldLink (tb_R 2) 19 (q.2.1 3).1 (q.2.1 3).2.1 (q.2.1 3).2.2.1 ∈ tb_T := ⟨(RX2, TX2, 4), rfl, by show 3 < 4; decide, tb_in 64 (by decide +kernel) rfl⟩
theorem okf_19 : ∃ q : vw_C, vwCl[2]? = some q ∧ 3 < q.2.2 ∧ Jvm.Cond.fieldLink (tb_R 1) 170 (q.2.1 3).1 (q.2.1 3).2.1 (q.2.1 3).2.2.1 ∈ tb_T := ⟨(RX2, TX2, 4), rfl, by show 3 < 4; decide, tb_in 65 (by decide +kernel) rfl⟩
theorem okf_20 : ∃ q : vw_C, vwCl[2]? = some q ∧ 3 < q.2.2 ∧ Jvm.Cond.fieldLink (tb_R 4) 211 (q.2.1 3).1 (q.2.1 3).2.1 (q.2.1 3).2.2.1 ∈ tb_T := ⟨(RX2, TX2, 4), rfl, by show 3 < 4; decide, tb_in 66 (by decide +kernel) rfl⟩
theorem okf_21 : ∃ q : vw_C, vwCl[3]? = some q ∧ 0 < q.2.2 ∧ Jvm.Cond.fieldLink (tb_R 3) 15 (q.2.1 0).1 (q.2.1 0).2.1 (q.2.1 0).2.2.1 ∈ tb_T := ⟨(RX3, TX3, 12), rfl, by show 0 < 12; decide, tb_in 83 (by decide +kernel) rfl⟩
theorem okf_22 : ∃ q : vw_C, vwCl[3]? = some q ∧ 0 < q.2.2 ∧ Jvm.Cond.fieldLink (tb_R 1) 115 (q.2.1 0).1 (q.2.1 0).2.1 (q.2.1 0).2.2.1 ∈ tb_T := ⟨(RX3, TX3, 12), rfl, by show 0 < 12; decide, tb_in 84 (by decide +kernel) rfl⟩
theorem okf_23 : ∃ q : vw_C, vwCl[3]? = some q ∧ 0 < q.2.2 ∧ Jvm.Cond.fieldLink (tb_R 4) 214 (q.2.1 0).1 (q.2.1 0).2.1 (q.2.1 0).2.2.1 ∈ tb_T := ⟨(RX3, TX3, 12), rfl, by show 0 < 12; decide, tb_in 85 (by decide +kernel) rfl⟩
theorem okf_24 : ∃ q : vw_C, vwCl[3]? = some q ∧ 1 < q.2.2 ∧ Jvm.Cond.fieldLink (tb_R 3) 18 (q.2.1 1).1 (q.2.1 1).2.1 (q.2.1 1).2.2.1 ∈ tb_T := ⟨(RX3, TX3, 12), rfl, by show 1 < 12; decide, tb_in 86 (by decide +kernel) rfl⟩
theorem okf_25 : ∃ q : vw_C, vwCl[3]? = some q ∧ 1 < q.2.2 ∧ Jvm.Cond.fieldLink (tb_R 1) 99 (q.2.1 1).1 (q.2.1 1).2.1 (q.2.1 1).2.2.1 ∈ tb_T := ⟨(RX3, TX3, 12), rfl, by show 1 < 12; decide, tb_in 87 (by decide +kernel) rfl⟩
theorem okf_26 : ∃ q : vw_C, vwCl[3]? = some q ∧ 1 < q.2.2 ∧ Jvm.Cond.fieldLink (tb_R 4) 217 (q.2.1 1).1 (q.2.1 1).2.1 (q.2.1 1).2.2.1 ∈ tb_T := ⟨(RX3, TX3, 12), rfl, by show 1 < 12; decide, tb_in 88 (by decide +kernel) rfl⟩
theorem okf_27 : ∃ q : vw_C, vwCl[3]? = some q ∧ 2 < q.2.2 ∧ Jvm.Cond.fieldLink (tb_R 3) 21 (q.2.1 2).1 (q.2.1 2).2.1 (q.2.1 2).2.2.1 ∈ tb_T := ⟨(RX3, TX3, 12), rfl, by show 2 < 12; decide, tb_in 89 (by decide +kernel) rfl⟩
theorem okf_28 : ∃ q : vw_C, vwCl[3]? = some q ∧ 2 < q.2.2 ∧ Jvm.Cond.fieldLink (tb_R 4) 220 (q.2.1 2).1 (q.2.1 2).2.1 (q.2.1 2).2.2.1 ∈ tb_T := ⟨(RX3, TX3, 12), rfl, by show 2 < 12; decide, tb_in 90 (by decide +kernel) rfl⟩
theorem okf_29 : ∃ q : vw_C, vwCl[3]? = some q ∧ 3 < q.2.2 ∧ Jvm.Cond.fieldLink (tb_R 3) 30 (q.2.1 3).1 (q.2.1 3).2.1 (q.2.1 3).2.2.1 ∈ tb_T := ⟨(RX3, TX3, 12), rfl, by show 3 < 12; decide, tb_in 91 (by decide +kernel) rfl⟩
theorem okf_30 : ∃ q : vw_C, vwCl[3]? = some q ∧ 3 < q.2.2 ∧ Jvm.Cond.fieldLink (tb_R 4) 91 (q.2.1 3).1 (q.2.1 3).2.1 (q.2.1 3).2.2.1 ∈ tb_T := ⟨(RX3, TX3, 12), rfl, by show 3 < 12; decide, tb_in 92 (by decide +kernel) rfl⟩
theorem okf_31 : ∃ q : vw_C, vwCl[3]? = some q ∧ 3 < q.2.2 ∧ Jvm.Cond.fieldLink (tb_R 1) 86 (q.2.1 3).1 (q.2.1 3).2.1 (q.2.1 3).2.2.1 ∈ tb_T := ⟨(RX3, TX3, 12), rfl, by show 3 < 12; decide, tb_in 93 (by decide +kernel) rfl⟩
theorem okf_32 : ∃ q : vw_C, vwCl[3]? = some q ∧ 4 < q.2.2 ∧ Jvm.Cond.fieldLink (tb_R 3) 33 (q.2.1 4).1 (q.2.1 4).2.1 (q.2.1 4).2.2.1 ∈ tb_T := ⟨(RX3, TX3, 12), rfl, by show 4 < 12; decide, tb_in 94 (by decide +kernel) rfl⟩
theorem okf_33 : ∃ q : vw_C, vwCl[3]? = some q ∧ 4 < q.2.2 ∧ Jvm.Cond.fieldLink (tb_R 4) 99 (q.2.1 4).1 (q.2.1 4).2.1 (q.2.1 4).2.2.1 ∈ tb_T := ⟨(RX3, TX3, 12), rfl, by show 4 < 12; decide, tb_in 95 (by decide +kernel) rfl⟩
theorem okf_34 : ∃ q : vw_C, vwCl[3]? = some q ∧ 4 < q.2.2 ∧ Jvm.Cond.fieldLink (tb_R 1) 102 (q.2.1 4).1 (q.2.1 4).2.1 (q.2.1 4).2.2.1 ∈ tb_T := ⟨(RX3, TX3, 12), rfl, by show 4 < 12; decide, tb_in 96 (by decide +kernel) rfl⟩
theorem okf_35 : ∃ q : vw_C, vwCl[3]? = some q ∧ 5 < q.2.2 ∧ Jvm.Cond.fieldLink (tb_R 3) 9 (q.2.1 5).1 (q.2.1 5).2.1 (q.2.1 5).2.2.1 ∈ tb_T := ⟨(RX3, TX3, 12), rfl, by show 5 < 12; decide, tb_in 97 (by decide +kernel) rfl⟩
theorem okf_36 : ∃ q : vw_C, vwCl[3]? = some q ∧ 5 < q.2.2 ∧ Jvm.Cond.fieldLink (tb_R 4) 96 (q.2.1 5).1 (q.2.1 5).2.1 (q.2.1 5).2.2.1 ∈ tb_T := ⟨(RX3, TX3, 12), rfl, by show 5 < 12; decide, tb_in 98 (by decide +kernel) rfl⟩
theorem okf_37 : ∃ q : vw_C, vwCl[3]? = some q ∧ 5 < q.2.2 ∧ Jvm.Cond.fieldLink (tb_R 1) 93 (q.2.1 5).1 (q.2.1 5).2.1 (q.2.1 5).2.2.1 ∈ tb_T := ⟨(RX3, TX3, 12), rfl, by show 5 < 12; decide, tb_in 99 (by decide +kernel) rfl⟩
theorem okf_38 : ∃ q : vw_C, vwCl[3]? = some q ∧ 6 < q.2.2 ∧ Jvm.Cond.fieldLink (tb_R 3) 36 (q.2.1 6).1 (q.2.1 6).2.1 (q.2.1 6).2.2.1 ∈ tb_T := ⟨(RX3, TX3, 12), rfl, by show 6 < 12; decide, tb_in 100 (by decide +kernel) rfl⟩
theorem okf_39 : ∃ q : vw_C, vwCl[3]? = some q ∧ 6 < q.2.2 ∧ Jvm.Cond.fieldLink (tb_R 4) 110 (q.2.1 6).1 (q.2.1 6).2.1 (q.2.1 6).2.2.1 ∈ tb_T := ⟨(RX3, TX3, 12), rfl, by show 6 < 12; decide, tb_in 101 (by decide +kernel) rfl⟩
theorem okf_40 : ∃ q : vw_C, vwCl[3]? = some q ∧ 6 < q.2.2 ∧ Jvm.Cond.fieldLink (tb_R 1) 109 (q.2.1 6).1 (q.2.1 6).2.1 (q.2.1 6).2.2.1 ∈ tb_T := ⟨(RX3, TX3, 12), rfl, by show 6 < 12; decide, tb_in 102 (by decide +kernel) rfl⟩
theorem okf_41 : ∃ q : vw_C, vwCl[3]? = some q ∧ 7 < q.2.2 ∧ Jvm.Cond.fieldLink (tb_R 3) 39 (q.2.1 7).1 (q.2.1 7).2.1 (q.2.1 7).2.2.1 ∈ tb_T := ⟨(RX3, TX3, 12), rfl, by show 7 < 12; decide, tb_in 103 (by decide +kernel) rfl⟩
theorem okf_42 : ∃ q : vw_C, vwCl[3]? = some q ∧ 7 < q.2.2 ∧ Jvm.Cond.fieldLink (tb_R 4) 116 (q.2.1 7).1 (q.2.1 7).2.1 (q.2.1 7).2.2.1 ∈ tb_T := ⟨(RX3, TX3, 12), rfl, by show 7 < 12; decide, tb_in 104 (by decide +kernel) rfl⟩
theorem okf_43 : ∃ q : vw_C, vwCl[3]? = some q ∧ 7 < q.2.2 ∧ Jvm.Cond.fieldLink (tb_R 1) 112 (q.2.1 7).1 (q.2.1 7).2.1 (q.2.1 7).2.2.1 ∈ tb_T := ⟨(RX3, TX3, 12), rfl, by show 7 < 12; decide, tb_in 105 (by decide +kernel) rfl⟩
theorem okf_44 : ∃ q : vw_C, vwCl[3]? = some q ∧ 8 < q.2.2 ∧ Jvm.Cond.fieldLink (tb_R 3) 24 (q.2.1 8).1 (q.2.1 8).2.1 (q.2.1 8).2.2.1 ∈ tb_T := ⟨(RX3, TX3, 12), rfl, by show 8 < 12; decide, tb_in 106 (by decide +kernel) rfl⟩
theorem okf_45 : ∃ q : vw_C, vwCl[3]? = some q ∧ 8 < q.2.2 ∧ Jvm.Cond.fieldLink (tb_R 1) 134 (q.2.1 8).1 (q.2.1 8).2.1 (q.2.1 8).2.2.1 ∈ tb_T := ⟨(RX3, TX3, 12), rfl, by show 8 < 12; decide, tb_in 107 (by decide +kernel) rfl⟩
theorem okf_46 : ∃ q : vw_C, vwCl[3]? = some q ∧ 8 < q.2.2 ∧ Jvm.Cond.fieldLink (tb_R 4) 229 (q.2.1 8).1 (q.2.1 8).2.1 (q.2.1 8).2.2.1 ∈ tb_T := ⟨(RX3, TX3, 12), rfl, by show 8 < 12; decide, tb_in 108 (by decide +kernel) rfl⟩
theorem okf_47 : ∃ q : vw_C, vwCl[3]? = some q ∧ 9 < q.2.2 ∧ Jvm.Cond.fieldLink (tb_R 3) 42 (q.2.1 9).1 (q.2.1 9).2.1 (q.2.1 9).2.2.1 ∈ tb_T := ⟨(RX3, TX3, 12), rfl, by show 9 < 12; decide, tb_in 109 (by decide +kernel) rfl⟩
theorem okf_48 : ∃ q : vw_C, vwCl[3]? = some q ∧ 9 < q.2.2 ∧ Jvm.Cond.fieldLink (tb_R 1) 148 (q.2.1 9).1 (q.2.1 9).2.1 (q.2.1 9).2.2.1 ∈ tb_T := ⟨(RX3, TX3, 12), rfl, by show 9 < 12; decide, tb_in 110 (by decide +kernel) rfl⟩
theorem okf_49 : ∃ q : vw_C, vwCl[3]? = some q ∧ 9 < q.2.2 ∧ Jvm.Cond.fieldLink (tb_R 4) 232 (q.2.1 9).1 (q.2.1 9).2.1 (q.2.1 9).2.2.1 ∈ tb_T := ⟨(RX3, TX3, 12), rfl, by show 9 < 12; decide, tb_in 111 (by decide +kernel) rfl⟩
theorem okf_50 : ∃ q : vw_C, vwCl[3]? = some q ∧ 10 < q.2.2 ∧ Jvm.Cond.fieldLink (tb_R 3) 45 (q.2.1 10).1 (q.2.1 10).2.1 (q.2.1 10).2.2.1 ∈ tb_T := ⟨(RX3, TX3, 12), rfl, by show 10 < 12; decide, tb_in 112 (by decide +kernel) rfl⟩
theorem okf_51 : ∃ q : vw_C, vwCl[3]? = some q ∧ 10 < q.2.2 ∧ Jvm.Cond.fieldLink (tb_R 1) 151 (q.2.1 10).1 (q.2.1 10).2.1 (q.2.1 10).2.2.1 ∈ tb_T := ⟨(RX3, TX3, 12), rfl, by show 10 < 12; decide, tb_in 113 (by decide +kernel) rfl⟩
theorem okf_52 : ∃ q : vw_C, vwCl[3]? = some q ∧ 10 < q.2.2 ∧ Jvm.Cond.fieldLink (tb_R 4) 240 (q.2.1 10).1 (q.2.1 10).2.1 (q.2.1 10).2.2.1 ∈ tb_T := ⟨(RX3, TX3, 12), rfl, by show 10 < 12; decide, tb_in 114 (by decide +kernel) rfl⟩
theorem okf_53 : ∃ q : vw_C, vwCl[3]? = some q ∧ 11 < q.2.2 ∧ Jvm.Cond.fieldLink (tb_R 3) 48 (q.2.1 11).1 (q.2.1 11).2.1 (q.2.1 11).2.2.1 ∈ tb_T := ⟨(RX3, TX3, 12), rfl, by show 11 < 12; decide, tb_in 115 (by decide +kernel) rfl⟩
theorem okf_54 : ∃ q : vw_C, vwCl[3]? = some q ∧ 11 < q.2.2 ∧ Jvm.Cond.fieldLink (tb_R 4) 129 (q.2.1 11).1 (q.2.1 11).2.1 (q.2.1 11).2.2.1 ∈ tb_T := ⟨(RX3, TX3, 12), rfl, by show 11 < 12; decide, tb_in 116 (by decide +kernel) rfl⟩
theorem okf_55 : ∃ q : vw_C, vwCl[3]? = some q ∧ 11 < q.2.2 ∧ Jvm.Cond.fieldLink (tb_R 1) 163 (q.2.1 11).1 (q.2.1 11).2.1 (q.2.1 11).2.2.1 ∈ tb_T := ⟨(RX3, TX3, 12), rfl, by show 11 < 12; decide, tb_in 117 (by decide +kernel) rfl⟩
theorem okf_56 : ∃ q : vw_C, vwCl[1]? = some q ∧ 0 < q.2.2 ∧ Jvm.Cond.fieldLink (tb_R 1) 11 (q.2.1 0).1 (q.2.1 0).2.1 (q.2.1 0).2.2.1 ∈ tb_T := ⟨(RX1, TX1, 12), rfl, by show 0 < 12; decide, tb_in 143 (by decide +kernel) rfl⟩
theorem okf_57 : ∃ q : vw_C, vwCl[1]? = some q ∧ 0 < q.2.2 ∧ Jvm.Cond.fieldLink (tb_R 4) 169 (q.2.1 0).1 (q.2.1 0).2.1 (q.2.1 0).2.2.1 ∈ tb_T := ⟨(RX1, TX1, 12), rfl, by show 0 < 12; decide, tb_in 144 (by decide +kernel) rfl⟩
theorem okf_58 : ∃ q : vw_C, vwCl[1]? = some q ∧ 1 < q.2.2 ∧ Jvm.Cond.fieldLink (tb_R 1) 20 (q.2.1 1).1 (q.2.1 1).2.1 (q.2.1 1).2.2.1 ∈ tb_T := ⟨(RX1, TX1, 12), rfl, by show 1 < 12; decide, tb_in 145 (by decide +kernel) rfl⟩
theorem okf_59 : ∃ q : vw_C, vwCl[1]? = some q ∧ 1 < q.2.2 ∧ Jvm.Cond.fieldLink (tb_R 4) 190 (q.2.1 1).1 (q.2.1 1).2.1 (q.2.1 1).2.2.1 ∈ tb_T := ⟨(RX1, TX1, 12), rfl, by show 1 < 12; decide, tb_in 146 (by decide +kernel) rfl⟩
theorem okf_60 : ∃ q : vw_C, vwCl[1]? = some q ∧ 2 < q.2.2 ∧ Jvm.Cond.fieldLink (tb_R 1) 27 (q.2.1 2).1 (q.2.1 2).2.1 (q.2.1 2).2.2.1 ∈ tb_T := ⟨(RX1, TX1, 12), rfl, by show 2 < 12; decide, tb_in 147 (by decide +kernel) rfl⟩
theorem okf_61 : ∃ q : vw_C, vwCl[1]? = some q ∧ 2 < q.2.2 ∧ Jvm.Cond.fieldLink (tb_R 4) 87 (q.2.1 2).1 (q.2.1 2).2.1 (q.2.1 2).2.2.1 ∈ tb_T := ⟨(RX1, TX1, 12), rfl, by show 2 < 12; decide, tb_in 148 (by decide +kernel) rfl⟩
theorem okf_62 : ∃ q : vw_C, vwCl[1]? = some q ∧ 3 < q.2.2 ∧ Jvm.Cond.fieldLink (tb_R 1) 39 (q.2.1 3).1 (q.2.1 3).2.1 (q.2.1 3).2.2.1 ∈ tb_T := ⟨(RX1, TX1, 12), rfl, by show 3 < 12; decide, tb_in 149 (by decide +kernel) rfl⟩
theorem okf_63 : ∃ q : vw_C, vwCl[1]? = some q ∧ 3 < q.2.2 ∧ Jvm.Cond.fieldLink (tb_R 4) 38 (q.2.1 3).1 (q.2.1 3).2.1 (q.2.1 3).2.2.1 ∈ tb_T := ⟨(RX1, TX1, 12), rfl, by show 3 < 12; decide, tb_in 150 (by decide +kernel) rfl⟩
theorem okf_64 : ∃ q : vw_C, vwCl[1]? = some q ∧ 4 < q.2.2 ∧ Jvm.Cond.fieldLink (tb_R 1) 46 (q.2.1 4).1 (q.2.1 4).2.1 (q.2.1 4).2.2.1 ∈ tb_T := ⟨(RX1, TX1, 12), rfl, by show 4 < 12; decide, tb_in 151 (by decide +kernel) rfl⟩
theorem okf_65 : ∃ q : vw_C, vwCl[1]? = some q ∧ 4 < q.2.2 ∧ Jvm.Cond.fieldLink (tb_R 4) 48 (q.2.1 4).1 (q.2.1 4).2.1 (q.2.1 4).2.2.1 ∈ tb_T := ⟨(RX1, TX1, 12), rfl, by show 4 < 12; decide, tb_in 152 (by decide +kernel) rfl⟩
theorem okf_66 : ∃ q : vw_C, vwCl[1]? = some q ∧ 5 < q.2.2 ∧ Jvm.Cond.fieldLink (tb_R 1) 52 (q.2.1 5).1 (q.2.1 5).2.1 (q.2.1 5).2.2.1 ∈ tb_T := ⟨(RX1, TX1, 12), rfl, by show 5 < 12; decide, tb_in 153 (by decide +kernel) rfl⟩
theorem okf_67 : ∃ q : vw_C, vwCl[1]? = some q ∧ 5 < q.2.2 ∧ Jvm.Cond.fieldLink (tb_R 4) 73 (q.2.1 5).1 (q.2.1 5).2.1 (q.2.1 5).2.2.1 ∈ tb_T := ⟨(RX1, TX1, 12), rfl, by show 5 < 12; decide, tb_in 154 (by decide +kernel) rfl⟩
theorem okf_68 : ∃ q : vw_C, vwCl[1]? = some q ∧ 6 < q.2.2 ∧ Jvm.Cond.fieldLink (tb_R 1) 58 (q.2.1 6).1 (q.2.1 6).2.1 (q.2.1 6).2.2.1 ∈ tb_T := ⟨(RX1, TX1, 12), rfl, by show 6 < 12; decide, tb_in 155 (by decide +kernel) rfl⟩
theorem okf_69 : ∃ q : vw_C, vwCl[1]? = some q ∧ 6 < q.2.2 ∧ Jvm.Cond.fieldLink (tb_R 4) 144 (q.2.1 6).1 (q.2.1 6).2.1 (q.2.1 6).2.2.1 ∈ tb_T := ⟨(RX1, TX1, 12), rfl, by show 6 < 12; decide, tb_in 156 (by decide +kernel) rfl⟩
theorem okf_70 : ∃ q : vw_C, vwCl[1]? = some q ∧ 7 < q.2.2 ∧ Jvm.Cond.fieldLink (tb_R 1) 61 (q.2.1 7).1 (q.2.1 7).2.1 (q.2.1 7).2.2.1 ∈ tb_T := ⟨(RX1, TX1, 12), rfl, by show 7 < 12; decide, tb_in 157 (by decide +kernel) rfl⟩
theorem okf_71 : ∃ q : vw_C, vwCl[1]? = some q ∧ 7 < q.2.2 ∧ Jvm.Cond.fieldLink (tb_R 4) 56 (q.2.1 7).1 (q.2.1 7).2.1 (q.2.1 7).2.2.1 ∈ tb_T := ⟨(RX1, TX1, 12), rfl, by show 7 < 12; decide, tb_in 158 (by decide +kernel) rfl⟩
theorem okf_72 : ∃ q : vw_C, vwCl[1]? = some q ∧ 8 < q.2.2 ∧ Jvm.Cond.fieldLink (tb_R 1) 32 (q.2.1 8).1 (q.2.1 8).2.1 (q.2.1 8).2.2.1 ∈ tb_T := ⟨(RX1, TX1, 12), rfl, by show 8 < 12; decide, tb_in 159 (by decide +kernel) rfl⟩
theorem okf_73 : ∃ q : vw_C, vwCl[1]? = some q ∧ 8 < q.2.2 ∧ Jvm.Cond.fieldLink (tb_R 4) 60 (q.2.1 8).1 (q.2.1 8).2.1 (q.2.1 8).2.2.1 ∈ tb_T := ⟨(RX1, TX1, 12), rfl, by show 8 < 12; decide, tb_in 160 (by decide +kernel) rfl⟩
theorem okf_74 : ∃ q : vw_C, vwCl[1]? = some q ∧ 9 < q.2.2 ∧ Jvm.Cond.fieldLink (tb_R 1) 36 (q.2.1 9).1 (q.2.1 9).2.1 (q.2.1 9).2.2.1 ∈ tb_T := ⟨(RX1, TX1, 12), rfl, by show 9 < 12; decide, tb_in 161 (by decide +kernel) rfl⟩
theorem okf_75 : ∃ q : vw_C, vwCl[1]? = some q ∧ 9 < q.2.2 ∧ Jvm.Cond.fieldLink (tb_R 4) 63 (q.2.1 9).1 (q.2.1 9).2.1 (q.2.1 9).2.2.1 ∈ tb_T := ⟨(RX1, TX1, 12), rfl, by show 9 < 12; decide, tb_in 162 (by decide +kernel) rfl⟩
theorem okf_76 : ∃ q : vw_C, vwCl[1]? = some q ∧ 10 < q.2.2 ∧ Jvm.Cond.fieldLink (tb_R 1) 64 (q.2.1 10).1 (q.2.1 10).2.1 (q.2.1 10).2.2.1 ∈ tb_T := ⟨(RX1, TX1, 12), rfl, by show 10 < 12; decide, tb_in 163 (by decide +kernel) rfl⟩
theorem okf_77 : ∃ q : vw_C, vwCl[1]? = some q ∧ 10 < q.2.2 ∧ Jvm.Cond.fieldLink (tb_R 4) 160 (q.2.1 10).1 (q.2.1 10).2.1 (q.2.1 10).2.2.1 ∈ tb_T := ⟨(RX1, TX1, 12), rfl, by show 10 < 12; decide, tb_in 164 (by decide +kernel) rfl⟩
theorem okf_78 : ∃ q : vw_C, vwCl[1]? = some q ∧ 11 < q.2.2 ∧ Jvm.Cond.fieldLink (tb_R 1) 67 (q.2.1 11).1 (q.2.1 11).2.1 (q.2.1 11).2.2.1 ∈ tb_T := ⟨(RX1, TX1, 12), rfl, by show 11 < 12; decide, tb_in 165 (by decide +kernel) rfl⟩
theorem okf_79 : ∃ q : vw_C, vwCl[1]? = some q ∧ 11 < q.2.2 ∧ Jvm.Cond.fieldLink (tb_R 4) 163 (q.2.1 11).1 (q.2.1 11).2.1 (q.2.1 11).2.2.1 ∈ tb_T := ⟨(RX1, TX1, 12), rfl, by show 11 < 12; decide, tb_in 166 (by decide +kernel) rfl⟩
theorem okf_80 : ∃ q : vw_C, vwCl[4]? = some q ∧ 0 < q.2.2 ∧ Jvm.Cond.fieldLink (tb_R 4) 10 (q.2.1 0).1 (q.2.1 0).2.1 (q.2.1 0).2.2.1 ∈ tb_T := ⟨(RX4, TX4, 6), rfl, by show 0 < 6; decide, tb_in 193 (by decide +kernel) rfl⟩
theorem okf_81 : ∃ q : vw_C, vwCl[4]? = some q ∧ 1 < q.2.2 ∧ Jvm.Cond.fieldLink (tb_R 4) 16 (q.2.1 1).1 (q.2.1 1).2.1 (q.2.1 1).2.2.1 ∈ tb_T := ⟨(RX4, TX4, 6), rfl, by show 1 < 6; decide, tb_in 194 (by decide +kernel) rfl⟩
theorem okf_82 : ∃ q : vw_C, vwCl[4]? = some q ∧ 2 < q.2.2 ∧ Jvm.Cond.fieldLink (tb_R 4) 19 (q.2.1 2).1 (q.2.1 2).2.1 (q.2.1 2).2.2.1 ∈ tb_T := ⟨(RX4, TX4, 6), rfl, by show 2 < 6; decide, tb_in 195 (by decide +kernel) rfl⟩
theorem okf_83 : ∃ q : vw_C, vwCl[4]? = some q ∧ 3 < q.2.2 ∧ Jvm.Cond.fieldLink (tb_R 4) 23 (q.2.1 3).1 (q.2.1 3).2.1 (q.2.1 3).2.2.1 ∈ tb_T := ⟨(RX4, TX4, 6), rfl, by show 3 < 6; decide, tb_in 196 (by decide +kernel) rfl⟩
theorem okf_84 : ∃ q : vw_C, vwCl[4]? = some q ∧ 4 < q.2.2 ∧ Jvm.Cond.fieldLink (tb_R 4) 27 (q.2.1 4).1 (q.2.1 4).2.1 (q.2.1 4).2.2.1 ∈ tb_T := ⟨(RX4, TX4, 6), rfl, by show 4 < 6; decide, tb_in 197 (by decide +kernel) rfl⟩
theorem okf_85 : ∃ q : vw_C, vwCl[4]? = some q ∧ 5 < q.2.2 ∧ Jvm.Cond.fieldLink (tb_R 4) 31 (q.2.1 5).1 (q.2.1 5).2.1 (q.2.1 5).2.2.1 ∈ tb_T := ⟨(RX4, TX4, 6), rfl, by show 5 < 6; decide, tb_in 198 (by decide +kernel) rfl⟩
theorem tb_and {a b c d : Nat} (h : (a == b && c == d) = true) : a = b ∧ c = d := by
  rw [Bool.and_eq_true] at h
  exact ⟨eq_of_beq h.1, eq_of_beq h.2⟩
set_option maxRecDepth 100000 in
theorem ok_allf : ∀ e ∈ tb_f, ∃ q : vw_C, vwCl[e.2.2.1]? = some q ∧ e.2.2.2 < q.2.2 ∧ Jvm.Cond.fieldLink (tb_R e.1) e.2.1 (q.2.1 e.2.2.2).1 (q.2.1 e.2.2.2).2.1 (q.2.1 e.2.2.2).2.2.1 ∈ tb_T := by
  unfold tb_f
  refine List.forall_mem_cons.mpr ⟨okf_0, ?_⟩
  refine List.forall_mem_cons.mpr ⟨okf_1, ?_⟩
  refine List.forall_mem_cons.mpr ⟨okf_2, ?_⟩
  refine List.forall_mem_cons.mpr ⟨okf_3, ?_⟩
  refine List.forall_mem_cons.mpr ⟨okf_4, ?_⟩
  refine List.forall_mem_cons.mpr ⟨okf_5, ?_⟩
  refine List.forall_mem_cons.mpr ⟨okf_6, ?_⟩
  refine List.forall_mem_cons.mpr ⟨okf_7, ?_⟩
  refine List.forall_mem_cons.mpr ⟨okf_8, ?_⟩
  refine List.forall_mem_cons.mpr ⟨okf_9, ?_⟩
  refine List.forall_mem_cons.mpr ⟨okf_10, ?_⟩
  refine List.forall_mem_cons.mpr ⟨okf_11, ?_⟩
  refine List.forall_mem_cons.mpr ⟨okf_12, ?_⟩
  refine List.forall_mem_cons.mpr ⟨okf_13, ?_⟩
  refine List.forall_mem_cons.mpr ⟨okf_14, ?_⟩
  refine List.forall_mem_cons.mpr ⟨okf_15, ?_⟩
  refine List.forall_mem_cons.mpr ⟨okf_16, ?_⟩
  refine List.forall_mem_cons.mpr ⟨okf_17, ?_⟩
  refine List.forall_mem_cons.mpr ⟨okf_18, ?_⟩
  refine List.forall_mem_cons.mpr ⟨okf_19, ?_⟩
  refine List.forall_mem_cons.mpr ⟨okf_20, ?_⟩
  refine List.forall_mem_cons.mpr ⟨okf_21, ?_⟩
  refine List.forall_mem_cons.mpr ⟨okf_22, ?_⟩
  refine List.forall_mem_cons.mpr ⟨okf_23, ?_⟩
  refine List.forall_mem_cons.mpr ⟨okf_24, ?_⟩
  refine List.forall_mem_cons.mpr ⟨okf_25, ?_⟩
  refine List.forall_mem_cons.mpr ⟨okf_26, ?_⟩
  refine List.forall_mem_cons.mpr ⟨okf_27, ?_⟩
  refine List.forall_mem_cons.mpr ⟨okf_28, ?_⟩
  refine List.forall_mem_cons.mpr ⟨okf_29, ?_⟩
  refine List.forall_mem_cons.mpr ⟨okf_30, ?_⟩
  refine List.forall_mem_cons.mpr ⟨okf_31, ?_⟩
  refine List.forall_mem_cons.mpr ⟨okf_32, ?_⟩
  refine List.forall_mem_cons.mpr ⟨okf_33, ?_⟩
  refine List.forall_mem_cons.mpr ⟨okf_34, ?_⟩
  refine List.forall_mem_cons.mpr ⟨okf_35, ?_⟩
  refine List.forall_mem_cons.mpr ⟨okf_36, ?_⟩
  refine List.forall_mem_cons.mpr ⟨okf_37, ?_⟩
  refine List.forall_mem_cons.mpr ⟨okf_38, ?_⟩
  refine List.forall_mem_cons.mpr ⟨okf_39, ?_⟩
  refine List.forall_mem_cons.mpr ⟨okf_40, ?_⟩
  refine List.forall_mem_cons.mpr ⟨okf_41, ?_⟩
  refine List.forall_mem_cons.mpr ⟨okf_42, ?_⟩
  refine List.forall_mem_cons.mpr ⟨okf_43, ?_⟩
  refine List.forall_mem_cons.mpr ⟨okf_44, ?_⟩
  refine List.forall_mem_cons.mpr ⟨okf_45, ?_⟩
  refine List.forall_mem_cons.mpr ⟨okf_46, ?_⟩
  refine List.forall_mem_cons.mpr ⟨okf_47, ?_⟩
  refine List.forall_mem_cons.mpr ⟨okf_48, ?_⟩
  refine List.forall_mem_cons.mpr ⟨okf_49, ?_⟩
  refine List.forall_mem_cons.mpr ⟨okf_50, ?_⟩
  refine List.forall_mem_cons.mpr ⟨okf_51, ?_⟩
  refine List.forall_mem_cons.mpr ⟨okf_52, ?_⟩
  refine List.forall_mem_cons.mpr ⟨okf_53, ?_⟩
  refine List.forall_mem_cons.mpr ⟨okf_54, ?_⟩
  refine List.forall_mem_cons.mpr ⟨okf_55, ?_⟩
  refine List.forall_mem_cons.mpr ⟨okf_56, ?_⟩
  refine List.forall_mem_cons.mpr ⟨okf_57, ?_⟩
  refine List.forall_mem_cons.mpr ⟨okf_58, ?_⟩
  refine List.forall_mem_cons.mpr ⟨okf_59, ?_⟩
  refine List.forall_mem_cons.mpr ⟨okf_60, ?_⟩
  refine List.forall_mem_cons.mpr ⟨okf_61, ?_⟩
  refine List.forall_mem_cons.mpr ⟨okf_62, ?_⟩
  refine List.forall_mem_cons.mpr ⟨okf_63, ?_⟩
  refine List.forall_mem_cons.mpr ⟨okf_64, ?_⟩
  refine List.forall_mem_cons.mpr ⟨okf_65, ?_⟩
  refine List.forall_mem_cons.mpr ⟨okf_66, ?_⟩
  refine List.forall_mem_cons.mpr ⟨okf_67, ?_⟩
  refine List.forall_mem_cons.mpr ⟨okf_68, ?_⟩
  refine List.forall_mem_cons.mpr ⟨okf_69, ?_⟩
  refine List.forall_mem_cons.mpr ⟨okf_70, ?_⟩
  refine List.forall_mem_cons.mpr ⟨okf_71, ?_⟩
  refine List.forall_mem_cons.mpr ⟨okf_72, ?_⟩
  refine List.forall_mem_cons.mpr ⟨okf_73, ?_⟩
  refine List.forall_mem_cons.mpr ⟨okf_74, ?_⟩
  refine List.forall_mem_cons.mpr ⟨okf_75, ?_⟩
  refine List.forall_mem_cons.mpr ⟨okf_76, ?_⟩
  refine List.forall_mem_cons.mpr ⟨okf_77, ?_⟩
  refine List.forall_mem_cons.mpr ⟨okf_78, ?_⟩
  refine List.forall_mem_cons.mpr ⟨okf_79, ?_⟩
  refine List.forall_mem_cons.mpr ⟨okf_80, ?_⟩
  refine List.forall_mem_cons.mpr ⟨okf_81, ?_⟩
  refine List.forall_mem_cons.mpr ⟨okf_82, ?_⟩
  refine List.forall_mem_cons.mpr ⟨okf_83, ?_⟩
  refine List.forall_mem_cons.mpr ⟨okf_84, ?_⟩
  refine List.forall_mem_cons.mpr ⟨okf_85, ?_⟩
  exact fun _ h => absurd h List.not_mem_nil
set_option maxRecDepth 100000 in
theorem ok_allc : ∀ e ∈ tb_c, pm_okC vwCl tb_R tb_T e.1 e.2.1 e.2.2 := by
  unfold tb_c
  refine List.forall_mem_cons.mpr ⟨okc_0, ?_⟩
  refine List.forall_mem_cons.mpr ⟨okc_1, ?_⟩
  refine List.forall_mem_cons.mpr ⟨okc_2, ?_⟩
  refine List.forall_mem_cons.mpr ⟨okc_3, ?_⟩
  refine List.forall_mem_cons.mpr ⟨okc_4, ?_⟩
  refine List.forall_mem_cons.mpr ⟨okc_5, ?_⟩
  refine List.forall_mem_cons.mpr ⟨okc_6, ?_⟩
  refine List.forall_mem_cons.mpr ⟨okc_7, ?_⟩
  refine List.forall_mem_cons.mpr ⟨okc_8, ?_⟩
  refine List.forall_mem_cons.mpr ⟨okc_9, ?_⟩
  refine List.forall_mem_cons.mpr ⟨okc_10, ?_⟩
  refine List.forall_mem_cons.mpr ⟨okc_11, ?_⟩
  refine List.forall_mem_cons.mpr ⟨okc_12, ?_⟩
  refine List.forall_mem_cons.mpr ⟨okc_13, ?_⟩
  refine List.forall_mem_cons.mpr ⟨okc_14, ?_⟩
  refine List.forall_mem_cons.mpr ⟨okc_15, ?_⟩
  refine List.forall_mem_cons.mpr ⟨okc_16, ?_⟩
  refine List.forall_mem_cons.mpr ⟨okc_17, ?_⟩
  refine List.forall_mem_cons.mpr ⟨okc_18, ?_⟩
  refine List.forall_mem_cons.mpr ⟨okc_19, ?_⟩
  refine List.forall_mem_cons.mpr ⟨okc_20, ?_⟩
  refine List.forall_mem_cons.mpr ⟨okc_21, ?_⟩
  refine List.forall_mem_cons.mpr ⟨okc_22, ?_⟩
  refine List.forall_mem_cons.mpr ⟨okc_23, ?_⟩
  refine List.forall_mem_cons.mpr ⟨okc_24, ?_⟩
  refine List.forall_mem_cons.mpr ⟨okc_25, ?_⟩
  refine List.forall_mem_cons.mpr ⟨okc_26, ?_⟩
  refine List.forall_mem_cons.mpr ⟨okc_27, ?_⟩
  refine List.forall_mem_cons.mpr ⟨okc_28, ?_⟩
  refine List.forall_mem_cons.mpr ⟨okc_29, ?_⟩
  refine List.forall_mem_cons.mpr ⟨okc_30, ?_⟩
  refine List.forall_mem_cons.mpr ⟨okc_31, ?_⟩
  refine List.forall_mem_cons.mpr ⟨okc_32, ?_⟩
  refine List.forall_mem_cons.mpr ⟨okc_33, ?_⟩
  refine List.forall_mem_cons.mpr ⟨okc_34, ?_⟩
  refine List.forall_mem_cons.mpr ⟨okc_35, ?_⟩
  refine List.forall_mem_cons.mpr ⟨okc_36, ?_⟩
  refine List.forall_mem_cons.mpr ⟨okc_37, ?_⟩
  refine List.forall_mem_cons.mpr ⟨okc_38, ?_⟩
  refine List.forall_mem_cons.mpr ⟨okc_39, ?_⟩
  refine List.forall_mem_cons.mpr ⟨okc_40, ?_⟩
  refine List.forall_mem_cons.mpr ⟨okc_41, ?_⟩
  refine List.forall_mem_cons.mpr ⟨okc_42, ?_⟩
  refine List.forall_mem_cons.mpr ⟨okc_43, ?_⟩
  refine List.forall_mem_cons.mpr ⟨okc_44, ?_⟩
  refine List.forall_mem_cons.mpr ⟨okc_45, ?_⟩
  refine List.forall_mem_cons.mpr ⟨okc_46, ?_⟩
  refine List.forall_mem_cons.mpr ⟨okc_47, ?_⟩
  refine List.forall_mem_cons.mpr ⟨okc_48, ?_⟩
  refine List.forall_mem_cons.mpr ⟨okc_49, ?_⟩
  refine List.forall_mem_cons.mpr ⟨okc_50, ?_⟩
  refine List.forall_mem_cons.mpr ⟨okc_51, ?_⟩
  refine List.forall_mem_cons.mpr ⟨okc_52, ?_⟩
  refine List.forall_mem_cons.mpr ⟨okc_53, ?_⟩
  refine List.forall_mem_cons.mpr ⟨okc_54, ?_⟩
  refine List.forall_mem_cons.mpr ⟨okc_55, ?_⟩
  refine List.forall_mem_cons.mpr ⟨okc_56, ?_⟩
  refine List.forall_mem_cons.mpr ⟨okc_57, ?_⟩
  refine List.forall_mem_cons.mpr ⟨okc_58, ?_⟩
  refine List.forall_mem_cons.mpr ⟨okc_59, ?_⟩
  refine List.forall_mem_cons.mpr ⟨okc_60, ?_⟩
  refine List.forall_mem_cons.mpr ⟨okc_61, ?_⟩
  refine List.forall_mem_cons.mpr ⟨okc_62, ?_⟩
  refine List.forall_mem_cons.mpr ⟨okc_63, ?_⟩
  refine List.forall_mem_cons.mpr ⟨okc_64, ?_⟩
  refine List.forall_mem_cons.mpr ⟨okc_65, ?_⟩
  refine List.forall_mem_cons.mpr ⟨okc_66, ?_⟩
  refine List.forall_mem_cons.mpr ⟨okc_67, ?_⟩
  refine List.forall_mem_cons.mpr ⟨okc_68, ?_⟩
  refine List.forall_mem_cons.mpr ⟨okc_69, ?_⟩
  refine List.forall_mem_cons.mpr ⟨okc_70, ?_⟩
  refine List.forall_mem_cons.mpr ⟨okc_71, ?_⟩
  refine List.forall_mem_cons.mpr ⟨okc_72, ?_⟩
  refine List.forall_mem_cons.mpr ⟨okc_73, ?_⟩
  refine List.forall_mem_cons.mpr ⟨okc_74, ?_⟩
  refine List.forall_mem_cons.mpr ⟨okc_75, ?_⟩
  refine List.forall_mem_cons.mpr ⟨okc_76, ?_⟩
  refine List.forall_mem_cons.mpr ⟨okc_77, ?_⟩
  refine List.forall_mem_cons.mpr ⟨okc_78, ?_⟩
  refine List.forall_mem_cons.mpr ⟨okc_79, ?_⟩
  refine List.forall_mem_cons.mpr ⟨okc_80, ?_⟩
  refine List.forall_mem_cons.mpr ⟨okc_81, ?_⟩
  refine List.forall_mem_cons.mpr ⟨okc_82, ?_⟩
  refine List.forall_mem_cons.mpr ⟨okc_83, ?_⟩
  refine List.forall_mem_cons.mpr ⟨okc_84, ?_⟩
  refine List.forall_mem_cons.mpr ⟨okc_85, ?_⟩
  refine List.forall_mem_cons.mpr ⟨okc_86, ?_⟩
  refine List.forall_mem_cons.mpr ⟨okc_87, ?_⟩
  refine List.forall_mem_cons.mpr ⟨okc_88, ?_⟩
  refine List.forall_mem_cons.mpr ⟨okc_89, ?_⟩
  refine List.forall_mem_cons.mpr ⟨okc_90, ?_⟩
  refine List.forall_mem_cons.mpr ⟨okc_91, ?_⟩
  refine List.forall_mem_cons.mpr ⟨okc_92, ?_⟩
  refine List.forall_mem_cons.mpr ⟨okc_93, ?_⟩
  refine List.forall_mem_cons.mpr ⟨okc_94, ?_⟩
  refine List.forall_mem_cons.mpr ⟨okc_95, ?_⟩
  exact fun _ h => absurd h List.not_mem_nil
theorem okk0_0 : Jvm.Cond.constant (tb_R 8) 7 916318735 ∈ tb_T := tb_in 290 (by decide +kernel) rfl
theorem okk0_1 : Jvm.Cond.constant (tb_R 8) 8 2147483647 ∈ tb_T := tb_in 294 (by decide +kernel) rfl
theorem okk0_2 : Jvm.Cond.constant (tb_R 6) 265 1431655765 ∈ tb_T := tb_in 374 (by decide +kernel) rfl
theorem okk0_3 : Jvm.Cond.constant (tb_R 6) 266 858993459 ∈ tb_T := tb_in 375 (by decide +kernel) rfl
theorem okk0_4 : Jvm.Cond.constant (tb_R 6) 267 252645135 ∈ tb_T := tb_in 376 (by decide +kernel) rfl
theorem okk0_5 : Jvm.Cond.constant (tb_R 4) 55 100000 ∈ tb_T := tb_in 384 (by decide +kernel) rfl
theorem okk0_6 : Jvm.Cond.constant (tb_R 4) 59 1000000 ∈ tb_T := tb_in 385 (by decide +kernel) rfl
theorem okk0_7 : Jvm.Cond.constant (tb_R 8) 93 100000 ∈ tb_T := tb_in 517 (by decide +kernel) rfl
theorem okk0_8 : Jvm.Cond.constant (tb_R 8) 94 1000000 ∈ tb_T := tb_in 518 (by decide +kernel) rfl
theorem ok_allk : ∀ e ∈ tb_k, Jvm.Cond.constant (tb_R e.1) e.2.1 e.2.2 ∈ tb_T := by
  unfold tb_k
  refine List.forall_mem_cons.mpr ⟨okk0_0, ?_⟩
  refine List.forall_mem_cons.mpr ⟨okk0_1, ?_⟩
  refine List.forall_mem_cons.mpr ⟨okk0_2, ?_⟩
  refine List.forall_mem_cons.mpr ⟨okk0_3, ?_⟩
  refine List.forall_mem_cons.mpr ⟨okk0_4, ?_⟩
  refine List.forall_mem_cons.mpr ⟨okk0_5, ?_⟩
  refine List.forall_mem_cons.mpr ⟨okk0_6, ?_⟩
  refine List.forall_mem_cons.mpr ⟨okk0_7, ?_⟩
  refine List.forall_mem_cons.mpr ⟨okk0_8, ?_⟩
  exact fun _ h => absurd h List.not_mem_nil
theorem okq_0 : Jvm.Cond.constantLong (tb_R 8) 15 31 ∈ tb_T := tb_in 321 (by decide +kernel) rfl
theorem ok_allq : ∀ e ∈ tb_q, Jvm.Cond.constantLong (tb_R e.1) e.2.1 e.2.2 ∈ tb_T := by
  unfold tb_q
  refine List.forall_mem_cons.mpr ⟨okq_0, ?_⟩
  exact fun _ h => absurd h List.not_mem_nil
theorem okn_0 : ∃ q : vw_C, vwCl[1]? = some q ∧ tb_l 1 = q.2.2 ∧ Jvm.Cond.classLink (tb_R 4) 7 q.1 ∈ tb_T ∧ Jvm.Cond.instantiable q.1 q.2.2 ∈ tb_T ∧ Jvm.Cond.initialized q.1 ∈ tb_T := ⟨(RX1, TX1, 12), rfl, rfl, tb_in 19 (by decide +kernel) rfl, tb_in 20 (by decide +kernel) rfl, tb_in 5 (by decide +kernel) rfl⟩
theorem okn_1 : ∃ q : vw_C, vwCl[0]? = some q ∧ tb_l 0 = q.2.2 ∧ Jvm.Cond.classLink (tb_R 1) 9 q.1 ∈ tb_T ∧ Jvm.Cond.instantiable q.1 q.2.2 ∈ tb_T ∧ Jvm.Cond.initialized q.1 ∈ tb_T := ⟨(RX0, TX0, 3), rfl, rfl, tb_in 25 (by decide +kernel) rfl, tb_in 27 (by decide +kernel) rfl, tb_in 6 (by decide +kernel) rfl⟩
theorem okn_2 : ∃ q : vw_C, vwCl[2]? = some q ∧ tb_l 2 = q.2.2 ∧ Jvm.Cond.classLink (tb_R 1) 18 q.1 ∈ tb_T ∧ Jvm.Cond.instantiable q.1 q.2.2 ∈ tb_T ∧ Jvm.Cond.initialized q.1 ∈ tb_T := ⟨(RX2, TX2, 4), rfl, rfl, tb_in 48 (by decide +kernel) rfl, tb_in 50 (by decide +kernel) rfl, tb_in 7 (by decide +kernel) rfl⟩
theorem okn_3 : ∃ q : vw_C, vwCl[3]? = some q ∧ tb_l 3 = q.2.2 ∧ Jvm.Cond.classLink (tb_R 1) 25 q.1 ∈ tb_T ∧ Jvm.Cond.instantiable q.1 q.2.2 ∈ tb_T ∧ Jvm.Cond.initialized q.1 ∈ tb_T := ⟨(RX3, TX3, 12), rfl, rfl, tb_in 76 (by decide +kernel) rfl, tb_in 78 (by decide +kernel) rfl, tb_in 8 (by decide +kernel) rfl⟩
theorem okn_4 : ∃ q : vw_C, vwCl[4]? = some q ∧ tb_l 4 = q.2.2 ∧ Jvm.Cond.classLink (tb_R 8) 10 q.1 ∈ tb_T ∧ Jvm.Cond.instantiable q.1 q.2.2 ∈ tb_T ∧ Jvm.Cond.initialized q.1 ∈ tb_T := ⟨(RX4, TX4, 6), rfl, rfl, tb_in 11 (by decide +kernel) rfl, tb_in 12 (by decide +kernel) rfl, tb_in 4 (by decide +kernel) rfl⟩
theorem ok_alln : ∀ e ∈ tb_n, ∃ q : vw_C, vwCl[e.2.2]? = some q ∧ tb_l e.2.2 = q.2.2 ∧ Jvm.Cond.classLink (tb_R e.1) e.2.1 q.1 ∈ tb_T ∧ Jvm.Cond.instantiable q.1 q.2.2 ∈ tb_T ∧ Jvm.Cond.initialized q.1 ∈ tb_T := by
  unfold tb_n
  refine List.forall_mem_cons.mpr ⟨okn_0, ?_⟩
  refine List.forall_mem_cons.mpr ⟨okn_1, ?_⟩
  refine List.forall_mem_cons.mpr ⟨okn_2, ?_⟩
  refine List.forall_mem_cons.mpr ⟨okn_3, ?_⟩
  refine List.forall_mem_cons.mpr ⟨okn_4, ?_⟩
  exact fun _ h => absurd h List.not_mem_nil
theorem oka_0 : 1 ∈ tb_acs ∧ ∃ q : vw_C, vwCl[1]? = some q ∧ Jvm.Cond.classLink (tb_R 4) 7 q.1 ∈ tb_T := ⟨by decide, (RX1, TX1, 12), rfl, tb_in 19 (by decide +kernel) rfl⟩
theorem oka_1 : 0 ∈ tb_acs ∧ ∃ q : vw_C, vwCl[0]? = some q ∧ Jvm.Cond.classLink (tb_R 1) 9 q.1 ∈ tb_T := ⟨by decide, (RX0, TX0, 3), rfl, tb_in 25 (by decide +kernel) rfl⟩
theorem oka_2 : 2 ∈ tb_acs ∧ ∃ q : vw_C, vwCl[2]? = some q ∧ Jvm.Cond.classLink (tb_R 1) 18 q.1 ∈ tb_T := ⟨by decide, (RX2, TX2, 4), rfl, tb_in 48 (by decide +kernel) rfl⟩
theorem oka_3 : 3 ∈ tb_acs ∧ ∃ q : vw_C, vwCl[3]? = some q ∧ Jvm.Cond.classLink (tb_R 1) 25 q.1 ∈ tb_T := ⟨by decide, (RX3, TX3, 12), rfl, tb_in 76 (by decide +kernel) rfl⟩
theorem ok_alla : ∀ e ∈ tb_a, e.2.2 ∈ tb_acs ∧ ∃ q : vw_C, vwCl[e.2.2]? = some q ∧ Jvm.Cond.classLink (tb_R e.1) e.2.1 q.1 ∈ tb_T := by
  unfold tb_a
  refine List.forall_mem_cons.mpr ⟨oka_0, ?_⟩
  refine List.forall_mem_cons.mpr ⟨oka_1, ?_⟩
  refine List.forall_mem_cons.mpr ⟨oka_2, ?_⟩
  refine List.forall_mem_cons.mpr ⟨oka_3, ?_⟩
  exact fun _ h => absurd h List.not_mem_nil
theorem tb_ok : pm_ok tb vwCl tb_acs tb_R tb_T := by
  refine ⟨fun w hw => (List.mem_filter.mp hw).2, fun c q hq => ?_, fun n x c j h => ?_, ⟨fun n x v h => ?_, fun n x v h => ?_⟩, fun n x c h => ?_, fun n x c h => ?_, tb_in 212 (by decide +kernel) rfl, fun c hc => ?_, fun n x q h => ?_⟩
  · match c, hq with
    | 0, hq => cases hq; exact okk_0
    | 1, hq => cases hq; exact okk_1
    | 2, hq => cases hq; exact okk_2
    | 3, hq => cases hq; exact okk_3
    | 4, hq => cases hq; exact okk_4
    | k + 5, hq => cases hq
  · obtain ⟨e, he, h2⟩ := Option.map_eq_some_iff.mp (show (tb_f.find? (fun e => e.1 == n && e.2.1 == x)).map _ = some _ from h)
    obtain ⟨h3, h4⟩ := tb_find he
    obtain ⟨rfl, rfl⟩ := tb_and h4
    cases h2
    exact ok_allf e h3
  · obtain ⟨e, he, h2⟩ := Option.map_eq_some_iff.mp (show (tb_k.find? (fun e => e.1 == n && e.2.1 == x)).map _ = some _ from h)
    obtain ⟨h3, h4⟩ := tb_find he
    obtain ⟨rfl, rfl⟩ := tb_and h4
    cases h2
    exact ok_allk e h3
  · obtain ⟨e, he, h2⟩ := Option.map_eq_some_iff.mp (show (tb_q.find? (fun e => e.1 == n && e.2.1 == x)).map _ = some _ from h)
    obtain ⟨h3, h4⟩ := tb_find he
    obtain ⟨rfl, rfl⟩ := tb_and h4
    cases h2
    exact ok_allq e h3
  · obtain ⟨e, he, h2⟩ := Option.map_eq_some_iff.mp (show (tb_n.find? (fun e => e.1 == n && e.2.1 == x)).map _ = some _ from h)
    obtain ⟨h3, h4⟩ := tb_find he
    obtain ⟨rfl, rfl⟩ := tb_and h4
    cases h2
    exact ok_alln e h3
  · obtain ⟨e, he, h2⟩ := Option.map_eq_some_iff.mp (show (tb_a.find? (fun e => e.1 == n && e.2.1 == x)).map _ = some _ from h)
    obtain ⟨h3, h4⟩ := tb_find he
    obtain ⟨rfl, rfl⟩ := tb_and h4
    cases h2
    exact ok_alla e h3
  · simp only [tb_acs, List.mem_cons, List.not_mem_nil, or_false] at hc
    rcases hc with rfl | rfl | rfl | rfl
    · exact ⟨_, rfl⟩
    · exact ⟨_, rfl⟩
    · exact ⟨_, rfl⟩
    · exact ⟨_, rfl⟩
  · obtain ⟨e, he, h2⟩ := Option.map_eq_some_iff.mp (show (tb_c.find? (fun e => e.1 == n && e.2.1 == x)).map _ = some _ from h)
    obtain ⟨h3, h4⟩ := tb_find he
    obtain ⟨rfl, rfl⟩ := tb_and h4
    cases h2
    exact ok_allc e h3
