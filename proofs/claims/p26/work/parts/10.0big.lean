set_option maxRecDepth 100000 in
theorem okm_X0_init : pm_okM tb_R tb_T mX0_init := ⟨tb_in 30 (by rfl) rfl, by decide +kernel, rfl⟩
set_option maxRecDepth 100000 in
theorem okm_X0_copyFrom : pm_okM tb_R tb_T mX0_copyFrom := ⟨tb_in 231 (by rfl) rfl, by decide +kernel, rfl⟩
set_option maxRecDepth 100000 in
theorem okm_X1_init : pm_okM tb_R tb_T mX1_init := ⟨tb_in 23 (by rfl) rfl, by decide +kernel, rfl⟩
set_option maxRecDepth 100000 in
theorem okm_X1_copyFrom : pm_okM tb_R tb_T mX1_copyFrom := ⟨tb_in 227 (by rfl) rfl, by decide +kernel, rfl⟩
set_option maxRecDepth 100000 in
theorem okm_X1_hasAsset : pm_okM tb_R tb_T mX1_hasAsset := ⟨tb_in 329 (by rfl) rfl, by decide +kernel, rfl⟩
set_option maxRecDepth 100000 in
theorem okm_X1_hasHunter : pm_okM tb_R tb_T mX1_hasHunter := ⟨tb_in 341 (by rfl) rfl, by decide +kernel, rfl⟩
set_option maxRecDepth 100000 in
theorem okm_X1_hasReport : pm_okM tb_R tb_T mX1_hasReport := ⟨tb_in 360 (by rfl) rfl, by decide +kernel, rfl⟩
set_option maxRecDepth 100000 in
theorem okm_X1_openAsset : pm_okM tb_R tb_T mX1_openAsset := ⟨tb_in 246 (by rfl) rfl, by decide +kernel, rfl⟩
set_option maxRecDepth 100000 in
theorem okm_X1_openHunter : pm_okM tb_R tb_T mX1_openHunter := ⟨tb_in 254 (by rfl) rfl, by decide +kernel, rfl⟩
set_option maxRecDepth 100000 in
theorem okm_X1_openReport : pm_okM tb_R tb_T mX1_openReport := ⟨tb_in 393 (by rfl) rfl, by decide +kernel, rfl⟩
set_option maxRecDepth 100000 in
theorem okm_X1_foldTarget : pm_okM tb_R tb_T mX1_foldTarget := ⟨tb_in 409 (by rfl) rfl, by decide +kernel, rfl⟩
set_option maxRecDepth 100000 in
theorem okm_X1_releaseFolded : pm_okM tb_R tb_T mX1_releaseFolded := ⟨tb_in 426 (by rfl) rfl, by decide +kernel, rfl⟩
set_option maxRecDepth 100000 in
theorem okm_X1_priceWith : pm_okM tb_R tb_T mX1_priceWith := ⟨tb_in 317 (by rfl) rfl, by decide +kernel, rfl⟩
set_option maxRecDepth 100000 in
theorem okm_X1_priceOf : pm_okM tb_R tb_T mX1_priceOf := ⟨tb_in 313 (by rfl) rfl, by decide +kernel, rfl⟩
set_option maxRecDepth 100000 in
theorem okm_X1_closeAppeal : pm_okM tb_R tb_T mX1_closeAppeal := ⟨tb_in 440 (by rfl) rfl, by decide +kernel, rfl⟩
set_option maxRecDepth 100000 in
theorem okm_X1_payOrWait : pm_okM tb_R tb_T mX1_payOrWait := ⟨tb_in 448 (by rfl) rfl, by decide +kernel, rfl⟩
set_option maxRecDepth 100000 in
theorem okm_X1_shareOut : pm_okM tb_R tb_T mX1_shareOut := ⟨tb_in 453 (by rfl) rfl, by decide +kernel, rfl⟩
set_option maxRecDepth 100000 in
theorem okm_X1_beginQuarter : pm_okM tb_R tb_T mX1_beginQuarter := ⟨tb_in 483 (by rfl) rfl, by decide +kernel, rfl⟩
set_option maxRecDepth 100000 in
theorem okm_X1_isReportedBy : pm_okM tb_R tb_T mX1_isReportedBy := ⟨tb_in 465 (by rfl) rfl, by decide +kernel, rfl⟩
set_option maxRecDepth 100000 in
theorem okm_X1_takeRetest : pm_okM tb_R tb_T mX1_takeRetest := ⟨tb_in 469 (by rfl) rfl, by decide +kernel, rfl⟩
set_option maxRecDepth 100000 in
theorem okm_X1_giveBonuses : pm_okM tb_R tb_T mX1_giveBonuses := ⟨tb_in 474 (by rfl) rfl, by decide +kernel, rfl⟩
set_option maxRecDepth 100000 in
theorem okm_X1_standingOf : pm_okM tb_R tb_T mX1_standingOf := ⟨tb_in 349 (by rfl) rfl, by decide +kernel, rfl⟩
set_option maxRecDepth 100000 in
theorem okm_X1_standingFor : pm_okM tb_R tb_T mX1_standingFor := ⟨tb_in 352 (by rfl) rfl, by decide +kernel, rfl⟩
set_option maxRecDepth 100000 in
theorem okm_X1_reportsInState : pm_okM tb_R tb_T mX1_reportsInState := ⟨tb_in 278 (by rfl) rfl, by decide +kernel, rfl⟩
set_option maxRecDepth 100000 in
theorem okm_X1_reportsFor : pm_okM tb_R tb_T mX1_reportsFor := ⟨tb_in 333 (by rfl) rfl, by decide +kernel, rfl⟩
set_option maxRecDepth 100000 in
theorem okm_X1_reportsBy : pm_okM tb_R tb_T mX1_reportsBy := ⟨tb_in 345 (by rfl) rfl, by decide +kernel, rfl⟩
set_option maxRecDepth 100000 in
theorem okm_X1_foldedReports : pm_okM tb_R tb_T mX1_foldedReports := ⟨tb_in 369 (by rfl) rfl, by decide +kernel, rfl⟩
set_option maxRecDepth 100000 in
theorem okm_X1_openAppeals : pm_okM tb_R tb_T mX1_openAppeals := ⟨tb_in 286 (by rfl) rfl, by decide +kernel, rfl⟩
set_option maxRecDepth 100000 in
theorem okm_X1_moneyInPools : pm_okM tb_R tb_T mX1_moneyInPools := ⟨tb_in 282 (by rfl) rfl, by decide +kernel, rfl⟩
set_option maxRecDepth 100000 in
theorem okm_X1_payablePrices : pm_okM tb_R tb_T mX1_payablePrices := ⟨tb_in 305 (by rfl) rfl, by decide +kernel, rfl⟩
set_option maxRecDepth 100000 in
theorem okm_X2_init : pm_okM tb_R tb_T mX2_init := ⟨tb_in 53 (by rfl) rfl, by decide +kernel, rfl⟩
set_option maxRecDepth 100000 in
theorem okm_X2_clear : pm_okM tb_R tb_T mX2_clear := ⟨tb_in 258 (by rfl) rfl, by decide +kernel, rfl⟩
set_option maxRecDepth 100000 in
theorem okm_X2_copyFrom : pm_okM tb_R tb_T mX2_copyFrom := ⟨tb_in 235 (by rfl) rfl, by decide +kernel, rfl⟩
set_option maxRecDepth 100000 in
theorem okm_X3_init : pm_okM tb_R tb_T mX3_init := ⟨tb_in 81 (by rfl) rfl, by decide +kernel, rfl⟩
set_option maxRecDepth 100000 in
theorem okm_X3_open : pm_okM tb_R tb_T mX3_open := ⟨tb_in 397 (by rfl) rfl, by decide +kernel, rfl⟩
set_option maxRecDepth 100000 in
theorem okm_X3_makeNew : pm_okM tb_R tb_T mX3_makeNew := ⟨tb_in 401 (by rfl) rfl, by decide +kernel, rfl⟩
set_option maxRecDepth 100000 in
theorem okm_X3_isPayable : pm_okM tb_R tb_T mX3_isPayable := ⟨tb_in 309 (by rfl) rfl, by decide +kernel, rfl⟩
set_option maxRecDepth 100000 in
theorem okm_X3_hasSeverity : pm_okM tb_R tb_T mX3_hasSeverity := ⟨tb_in 364 (by rfl) rfl, by decide +kernel, rfl⟩
set_option maxRecDepth 100000 in
theorem okm_X3_isRetestedBy : pm_okM tb_R tb_T mX3_isRetestedBy := ⟨tb_in 461 (by rfl) rfl, by decide +kernel, rfl⟩
set_option maxRecDepth 100000 in
theorem okm_X3_tellsSameAs : pm_okM tb_R tb_T mX3_tellsSameAs := ⟨tb_in 413 (by rfl) rfl, by decide +kernel, rfl⟩
set_option maxRecDepth 100000 in
theorem okm_X3_copyFrom : pm_okM tb_R tb_T mX3_copyFrom := ⟨tb_in 239 (by rfl) rfl, by decide +kernel, rfl⟩
set_option maxRecDepth 100000 in
theorem okm_X4_init : pm_okM tb_R tb_T mX4_init := ⟨tb_in 15 (by rfl) rfl, by decide +kernel, rfl⟩
set_option maxRecDepth 100000 in
theorem okm_X4_addAsset : pm_okM tb_R tb_T mX4_addAsset := ⟨tb_in 216 (by rfl) rfl, by decide +kernel, rfl⟩
set_option maxRecDepth 100000 in
theorem okm_X4_addHunter : pm_okM tb_R tb_T mX4_addHunter := ⟨tb_in 250 (by rfl) rfl, by decide +kernel, rfl⟩
set_option maxRecDepth 100000 in
theorem okm_X4_fill : pm_okM tb_R tb_T mX4_fill := ⟨tb_in 383 (by rfl) rfl, by decide +kernel, rfl⟩
set_option maxRecDepth 100000 in
theorem okm_X4_setRate : pm_okM tb_R tb_T mX4_setRate := ⟨tb_in 262 (by rfl) rfl, by decide +kernel, rfl⟩
set_option maxRecDepth 100000 in
theorem okm_X4_setBonus : pm_okM tb_R tb_T mX4_setBonus := ⟨tb_in 266 (by rfl) rfl, by decide +kernel, rfl⟩
set_option maxRecDepth 100000 in
theorem okm_X4_report : pm_okM tb_R tb_T mX4_report := ⟨tb_in 389 (by rfl) rfl, by decide +kernel, rfl⟩
set_option maxRecDepth 100000 in
theorem okm_X4_fold : pm_okM tb_R tb_T mX4_fold := ⟨tb_in 405 (by rfl) rfl, by decide +kernel, rfl⟩
set_option maxRecDepth 100000 in
theorem okm_X4_grade : pm_okM tb_R tb_T mX4_grade := ⟨tb_in 417 (by rfl) rfl, by decide +kernel, rfl⟩
set_option maxRecDepth 100000 in
theorem okm_X4_refuse : pm_okM tb_R tb_T mX4_refuse := ⟨tb_in 421 (by rfl) rfl, by decide +kernel, rfl⟩
set_option maxRecDepth 100000 in
theorem okm_X4_appeal : pm_okM tb_R tb_T mX4_appeal := ⟨tb_in 431 (by rfl) rfl, by decide +kernel, rfl⟩
set_option maxRecDepth 100000 in
theorem okm_X4_decide : pm_okM tb_R tb_T mX4_decide := ⟨tb_in 436 (by rfl) rfl, by decide +kernel, rfl⟩
set_option maxRecDepth 100000 in
theorem okm_X4_pay : pm_okM tb_R tb_T mX4_pay := ⟨tb_in 444 (by rfl) rfl, by decide +kernel, rfl⟩
set_option maxRecDepth 100000 in
theorem okm_X4_retest : pm_okM tb_R tb_T mX4_retest := ⟨tb_in 457 (by rfl) rfl, by decide +kernel, rfl⟩
set_option maxRecDepth 100000 in
theorem okm_X4_pass : pm_okM tb_R tb_T mX4_pass := ⟨tb_in 479 (by rfl) rfl, by decide +kernel, rfl⟩
set_option maxRecDepth 100000 in
theorem okm_X4_undo : pm_okM tb_R tb_T mX4_undo := ⟨tb_in 270 (by rfl) rfl, by decide +kernel, rfl⟩
set_option maxRecDepth 100000 in
theorem okm_X4_count : pm_okM tb_R tb_T mX4_count := ⟨tb_in 274 (by rfl) rfl, by decide +kernel, rfl⟩
set_option maxRecDepth 100000 in
theorem okm_X4_asset : pm_okM tb_R tb_T mX4_asset := ⟨tb_in 325 (by rfl) rfl, by decide +kernel, rfl⟩
set_option maxRecDepth 100000 in
theorem okm_X4_hunter : pm_okM tb_R tb_T mX4_hunter := ⟨tb_in 337 (by rfl) rfl, by decide +kernel, rfl⟩
set_option maxRecDepth 100000 in
theorem okm_X4_reportOf : pm_okM tb_R tb_T mX4_reportOf := ⟨tb_in 356 (by rfl) rfl, by decide +kernel, rfl⟩
set_option maxRecDepth 100000 in
theorem okm_X4_original : pm_okM tb_R tb_T mX4_original := ⟨tb_in 488 (by rfl) rfl, by decide +kernel, rfl⟩
set_option maxRecDepth 100000 in
theorem okm_X4_lack : pm_okM tb_R tb_T mX4_lack := ⟨tb_in 301 (by rfl) rfl, by decide +kernel, rfl⟩
set_option maxRecDepth 100000 in
theorem okm_X4_best : pm_okM tb_R tb_T mX4_best := ⟨tb_in 496 (by rfl) rfl, by decide +kernel, rfl⟩
set_option maxRecDepth 100000 in
theorem okm_X4_paidIn : pm_okM tb_R tb_T mX4_paidIn := ⟨tb_in 492 (by rfl) rfl, by decide +kernel, rfl⟩
set_option maxRecDepth 100000 in
theorem okm_X4_isOutside : pm_okM tb_R tb_T mX4_isOutside := ⟨tb_in 219 (by rfl) rfl, by decide +kernel, rfl⟩
set_option maxRecDepth 100000 in
theorem okm_X4_remember : pm_okM tb_R tb_T mX4_remember := ⟨tb_in 223 (by rfl) rfl, by decide +kernel, rfl⟩
set_option maxRecDepth 100000 in
theorem okm_X4_huntersAheadOf : pm_okM tb_R tb_T mX4_huntersAheadOf := ⟨tb_in 500 (by rfl) rfl, by decide +kernel, rfl⟩
set_option maxRecDepth 100000 in
theorem okm_X4_isAhead : pm_okM tb_R tb_T mX4_isAhead := ⟨tb_in 504 (by rfl) rfl, by decide +kernel, rfl⟩
set_option maxRecDepth 100000 in
theorem okm_J6_bitCount_0f7a4 : pm_okM tb_R tb_T mJ6_bitCount_0f7a4 := ⟨tb_in 373 (by rfl) rfl, by decide +kernel, rfl⟩
set_option maxRecDepth 100000 in
theorem okm_L_cell : pm_okM tb_R tb_T mL_cell := ⟨tb_in 289 (by rfl) rfl, by decide +kernel, rfl⟩
set_option maxRecDepth 100000 in
theorem okm_L_low : pm_okM tb_R tb_T mL_low := ⟨tb_in 293 (by rfl) rfl, by decide +kernel, rfl⟩
set_option maxRecDepth 100000 in
theorem okm_L_sum : pm_okM tb_R tb_T mL_sum := ⟨tb_in 297 (by rfl) rfl, by decide +kernel, rfl⟩
set_option maxRecDepth 100000 in
theorem okm_L_refused : pm_okM tb_R tb_T mL_refused := ⟨tb_in 379 (by rfl) rfl, by decide +kernel, rfl⟩
set_option maxRecDepth 100000 in
theorem okm_L_money : pm_okM tb_R tb_T mL_money := ⟨tb_in 524 (by rfl) rfl, by decide +kernel, rfl⟩
set_option maxRecDepth 100000 in
theorem okm_L_isReport : pm_okM tb_R tb_T mL_isReport := ⟨tb_in 510 (by rfl) rfl, by decide +kernel, rfl⟩
set_option maxRecDepth 100000 in
theorem okm_L_fits : pm_okM tb_R tb_T mL_fits := ⟨tb_in 507 (by rfl) rfl, by decide +kernel, rfl⟩
set_option maxRecDepth 100000 in
theorem okm_L_comesSo : pm_okM tb_R tb_T mL_comesSo := ⟨tb_in 513 (by rfl) rfl, by decide +kernel, rfl⟩
set_option maxRecDepth 100000 in
theorem okm_L_isFilled : pm_okM tb_R tb_T mL_isFilled := ⟨tb_in 516 (by rfl) rfl, by decide +kernel, rfl⟩
set_option maxRecDepth 100000 in
theorem okm_L_acts : pm_okM tb_R tb_T mL_acts := ⟨tb_in 521 (by rfl) rfl, by decide +kernel, rfl⟩
