/-! the tables, read at each number; branches as 'if' -/
def zb (v : Int32) : Prop := v = 0 ∨ v = 1
section PMB
variable {τ : pm_T} {xl : Nat} {xs : Nat → Int32} {m : pm_M} {pc : Nat} {ls : pm_L} {st : List Value} {M : pm_H}
theorem ev_aald2 {i : Int32} {o : Nat} (hk : 3 ≤ (pm_k M o).1 ∧ (pm_k M o).1 % 2 = 1) (hi : ¬ (i < 0 ∨ (pm_k M o).2 ≤ i.toNatClampNeg)) (hd : decode (pm_b m) pc = .ok (.aaload, 1)) : pm_ev τ xl xs m pc ls (.int i :: .ref o :: st) M = pm_ev τ xl xs m (pc + 1) ls (pm_rv (pm_rs M o i.toNatClampNeg) :: st) M := ev_aald (c := ((pm_k M o).1 - 3) / 2) (by omega) hi hd
theorem ev_aast2 {i : Int32} {o v : Nat} (hk : 3 ≤ (pm_k M o).1 ∧ (pm_k M o).1 % 2 = 1) (hi : ¬ (i < 0 ∨ (pm_k M o).2 ≤ i.toNatClampNeg)) (hv : (pm_k M v).1 + 1 = (pm_k M o).1) (hd : decode (pm_b m) pc = .ok (.aastore, 1)) : pm_ev τ xl xs m pc ls (.ref v :: .int i :: .ref o :: st) M = pm_ev τ xl xs m (pc + 1) ls st (pm_setR M o i.toNatClampNeg (some v)) := ev_aast (c := ((pm_k M o).1 - 3) / 2) (by omega) hi (by omega) hd
theorem ev_ifeq {off : Int} {t : Nat} {x : Int32} (ht : pm_jmp pc off = some t) (hd : decode (pm_b m) pc = .ok (.ifCond .eq off, 3)) : pm_ev τ xl xs m pc ls (.int x :: st) M = if x = 0 then pm_ev τ xl xs m t ls st M else pm_ev τ xl xs m (pc + 3) ls st M := by
  rw [ev_if ht hd]
  simp only [pm_cmp, decide_eq_true_eq]
theorem ev_ifne {off : Int} {t : Nat} {x : Int32} (ht : pm_jmp pc off = some t) (hd : decode (pm_b m) pc = .ok (.ifCond .ne off, 3)) : pm_ev τ xl xs m pc ls (.int x :: st) M = if x = 0 then pm_ev τ xl xs m (pc + 3) ls st M else pm_ev τ xl xs m t ls st M := by
  rw [ev_if ht hd]
  simp only [pm_cmp, decide_eq_true_eq]
  exact ite_not _ _ _
theorem ev_iflt {off : Int} {t : Nat} {x : Int32} (ht : pm_jmp pc off = some t) (hd : decode (pm_b m) pc = .ok (.ifCond .lt off, 3)) : pm_ev τ xl xs m pc ls (.int x :: st) M = if x < 0 then pm_ev τ xl xs m t ls st M else pm_ev τ xl xs m (pc + 3) ls st M := by
  rw [ev_if ht hd]
  simp only [pm_cmp, decide_eq_true_eq]
theorem ev_ifge {off : Int} {t : Nat} {x : Int32} (ht : pm_jmp pc off = some t) (hd : decode (pm_b m) pc = .ok (.ifCond .ge off, 3)) : pm_ev τ xl xs m pc ls (.int x :: st) M = if x < 0 then pm_ev τ xl xs m (pc + 3) ls st M else pm_ev τ xl xs m t ls st M := by
  rw [ev_if ht hd]
  simp only [pm_cmp, decide_eq_true_eq]
  by_cases h : x < 0
  · rw [if_pos h, if_neg (Int32.not_le.mpr h)]
  · rw [if_neg h, if_pos (Int32.not_lt.mp h)]
theorem ev_ifgt {off : Int} {t : Nat} {x : Int32} (ht : pm_jmp pc off = some t) (hd : decode (pm_b m) pc = .ok (.ifCond .gt off, 3)) : pm_ev τ xl xs m pc ls (.int x :: st) M = if 0 < x then pm_ev τ xl xs m t ls st M else pm_ev τ xl xs m (pc + 3) ls st M := by
  rw [ev_if ht hd]
  simp only [pm_cmp, decide_eq_true_eq]
theorem ev_ifle {off : Int} {t : Nat} {x : Int32} (ht : pm_jmp pc off = some t) (hd : decode (pm_b m) pc = .ok (.ifCond .le off, 3)) : pm_ev τ xl xs m pc ls (.int x :: st) M = if 0 < x then pm_ev τ xl xs m (pc + 3) ls st M else pm_ev τ xl xs m t ls st M := by
  rw [ev_if ht hd]
  simp only [pm_cmp, decide_eq_true_eq]
  by_cases h : 0 < x
  · rw [if_pos h, if_neg (Int32.not_le.mpr h)]
  · rw [if_neg h, if_pos (Int32.not_lt.mp h)]
theorem ev_icmpeq {off : Int} {t : Nat} {x y : Int32} (ht : pm_jmp pc off = some t) (hd : decode (pm_b m) pc = .ok (.if_icmp .eq off, 3)) : pm_ev τ xl xs m pc ls (.int y :: .int x :: st) M = if x = y then pm_ev τ xl xs m t ls st M else pm_ev τ xl xs m (pc + 3) ls st M := by
  rw [ev_icmp ht hd]
  simp only [pm_cmp, decide_eq_true_eq]
theorem ev_icmpne {off : Int} {t : Nat} {x y : Int32} (ht : pm_jmp pc off = some t) (hd : decode (pm_b m) pc = .ok (.if_icmp .ne off, 3)) : pm_ev τ xl xs m pc ls (.int y :: .int x :: st) M = if x = y then pm_ev τ xl xs m (pc + 3) ls st M else pm_ev τ xl xs m t ls st M := by
  rw [ev_icmp ht hd]
  simp only [pm_cmp, decide_eq_true_eq]
  exact ite_not _ _ _
theorem ev_icmplt {off : Int} {t : Nat} {x y : Int32} (ht : pm_jmp pc off = some t) (hd : decode (pm_b m) pc = .ok (.if_icmp .lt off, 3)) : pm_ev τ xl xs m pc ls (.int y :: .int x :: st) M = if x < y then pm_ev τ xl xs m t ls st M else pm_ev τ xl xs m (pc + 3) ls st M := by
  rw [ev_icmp ht hd]
  simp only [pm_cmp, decide_eq_true_eq]
theorem ev_icmpge {off : Int} {t : Nat} {x y : Int32} (ht : pm_jmp pc off = some t) (hd : decode (pm_b m) pc = .ok (.if_icmp .ge off, 3)) : pm_ev τ xl xs m pc ls (.int y :: .int x :: st) M = if x < y then pm_ev τ xl xs m (pc + 3) ls st M else pm_ev τ xl xs m t ls st M := by
  rw [ev_icmp ht hd]
  simp only [pm_cmp, decide_eq_true_eq]
  by_cases h : x < y
  · rw [if_pos h, if_neg (Int32.not_le.mpr h)]
  · rw [if_neg h, if_pos (Int32.not_lt.mp h)]
theorem ev_icmpgt {off : Int} {t : Nat} {x y : Int32} (ht : pm_jmp pc off = some t) (hd : decode (pm_b m) pc = .ok (.if_icmp .gt off, 3)) : pm_ev τ xl xs m pc ls (.int y :: .int x :: st) M = if y < x then pm_ev τ xl xs m t ls st M else pm_ev τ xl xs m (pc + 3) ls st M := by
  rw [ev_icmp ht hd]
  simp only [pm_cmp, decide_eq_true_eq]
theorem ev_icmple {off : Int} {t : Nat} {x y : Int32} (ht : pm_jmp pc off = some t) (hd : decode (pm_b m) pc = .ok (.if_icmp .le off, 3)) : pm_ev τ xl xs m pc ls (.int y :: .int x :: st) M = if y < x then pm_ev τ xl xs m (pc + 3) ls st M else pm_ev τ xl xs m t ls st M := by
  rw [ev_icmp ht hd]
  simp only [pm_cmp, decide_eq_true_eq]
  by_cases h : y < x
  · rw [if_pos h, if_neg (Int32.not_le.mpr h)]
  · rw [if_neg h, if_pos (Int32.not_lt.mp h)]
end PMB
theorem lkc_0_1 : pm_tc tb 0 1 = some (3, mL_law, 0) := rfl
theorem lkc_1_3 : pm_tc tb 1 3 = some (3, mL_law, 0) := rfl
theorem lkc_1_17 : pm_tc tb 1 17 = some (2, mX0_init, 0) := rfl
theorem lkc_1_24 : pm_tc tb 1 24 = some (2, mX2_init, 0) := rfl
theorem lkc_1_31 : pm_tc tb 1 31 = some (2, mX3_init, 0) := rfl
theorem lkc_1_42 : pm_tc tb 1 42 = some (0, mX0_copyFrom, 1) := rfl
theorem lkc_1_49 : pm_tc tb 1 49 = some (0, mX2_copyFrom, 1) := rfl
theorem lkc_1_55 : pm_tc tb 1 55 = some (0, mX3_copyFrom, 1) := rfl
theorem lkc_1_79 : pm_tc tb 1 79 = some (0, mX2_clear, 0) := rfl
theorem lkc_1_82 : pm_tc tb 1 82 = some (0, mX3_open, 3) := rfl
theorem lkc_1_89 : pm_tc tb 1 89 = some (0, mX3_tellsSameAs, 1) := rfl
theorem lkc_1_96 : pm_tc tb 1 96 = some (0, mX3_makeNew, 0) := rfl
theorem lkc_1_105 : pm_tc tb 1 105 = some (0, mX1_priceWith, 2) := rfl
theorem lkc_1_124 : pm_tc tb 1 124 = some (0, mX1_priceOf, 1) := rfl
theorem lkc_1_128 : pm_tc tb 1 128 = some (5, mJ9_min_7cf53, 2) := rfl
theorem lkc_1_137 : pm_tc tb 1 137 = some (0, mX1_shareOut, 2) := rfl
theorem lkc_1_144 : pm_tc tb 1 144 = some (0, mX1_payOrWait, 1) := rfl
theorem lkc_1_154 : pm_tc tb 1 154 = some (1, mJ6_bitCount_0f7a4, 1) := rfl
theorem lkc_1_159 : pm_tc tb 1 159 = some (0, mX1_giveBonuses, 1) := rfl
theorem lkc_1_167 : pm_tc tb 1 167 = some (0, mX1_releaseFolded, 1) := rfl
theorem lkc_1_173 : pm_tc tb 1 173 = some (1, mX1_standingFor, 1) := rfl
theorem lkc_1_176 : pm_tc tb 1 176 = some (0, mX3_isPayable, 0) := rfl
theorem lkc_2_1 : pm_tc tb 2 1 = some (3, mL_law, 0) := rfl
theorem lkc_3_3 : pm_tc tb 3 3 = some (3, mL_law, 0) := rfl
theorem lkc_3_27 : pm_tc tb 3 27 = some (0, mX3_makeNew, 0) := rfl
theorem lkc_3_52 : pm_tc tb 3 52 = some (0, mX3_isPayable, 0) := rfl
theorem lkc_4_1 : pm_tc tb 4 1 = some (3, mL_law, 0) := rfl
theorem lkc_4_9 : pm_tc tb 4 9 = some (2, mX1_init, 0) := rfl
theorem lkc_4_34 : pm_tc tb 4 34 = some (1, mX4_isOutside, 3) := rfl
theorem lkc_4_41 : pm_tc tb 4 41 = some (0, mX4_remember, 0) := rfl
theorem lkc_4_44 : pm_tc tb 4 44 = some (0, mX1_openAsset, 2) := rfl
theorem lkc_4_51 : pm_tc tb 4 51 = some (0, mX1_openHunter, 0) := rfl
theorem lkc_4_66 : pm_tc tb 4 66 = some (0, mX1_hasHunter, 1) := rfl
theorem lkc_4_70 : pm_tc tb 4 70 = some (0, mX1_hasAsset, 1) := rfl
theorem lkc_4_76 : pm_tc tb 4 76 = some (0, mX1_openReport, 3) := rfl
theorem lkc_4_80 : pm_tc tb 4 80 = some (0, mX1_hasReport, 1) := rfl
theorem lkc_4_83 : pm_tc tb 4 83 = some (0, mX1_foldTarget, 1) := rfl
theorem lkc_4_102 : pm_tc tb 4 102 = some (0, mX1_priceOf, 1) := rfl
theorem lkc_4_106 : pm_tc tb 4 106 = some (0, mX3_isPayable, 0) := rfl
theorem lkc_4_113 : pm_tc tb 4 113 = some (0, mX1_releaseFolded, 1) := rfl
theorem lkc_4_119 : pm_tc tb 4 119 = some (0, mX1_priceWith, 2) := rfl
theorem lkc_4_123 : pm_tc tb 4 123 = some (0, mX1_closeAppeal, 2) := rfl
theorem lkc_4_126 : pm_tc tb 4 126 = some (0, mX1_payOrWait, 1) := rfl
theorem lkc_4_133 : pm_tc tb 4 133 = some (0, mX3_isRetestedBy, 1) := rfl
theorem lkc_4_136 : pm_tc tb 4 136 = some (0, mX1_isReportedBy, 2) := rfl
theorem lkc_4_140 : pm_tc tb 4 140 = some (0, mX1_takeRetest, 3) := rfl
theorem lkc_4_147 : pm_tc tb 4 147 = some (0, mX1_beginQuarter, 0) := rfl
theorem lkc_4_150 : pm_tc tb 4 150 = some (0, mX1_copyFrom, 1) := rfl
theorem lkc_4_154 : pm_tc tb 4 154 = some (0, mX1_reportsInState, 1) := rfl
theorem lkc_4_157 : pm_tc tb 4 157 = some (0, mX1_moneyInPools, 0) := rfl
theorem lkc_4_166 : pm_tc tb 4 166 = some (0, mX1_openAppeals, 0) := rfl
theorem lkc_4_184 : pm_tc tb 4 184 = some (0, mX1_reportsFor, 1) := rfl
theorem lkc_4_187 : pm_tc tb 4 187 = some (0, mX1_payablePrices, 1) := rfl
theorem lkc_4_194 : pm_tc tb 4 194 = some (0, mX1_reportsBy, 1) := rfl
theorem lkc_4_202 : pm_tc tb 4 202 = some (0, mX1_standingOf, 1) := rfl
theorem lkc_4_223 : pm_tc tb 4 223 = some (0, mX3_hasSeverity, 0) := rfl
theorem lkc_4_226 : pm_tc tb 4 226 = some (0, mX1_foldedReports, 1) := rfl
theorem lkc_4_235 : pm_tc tb 4 235 = some (1, mJ6_bitCount_0f7a4, 1) := rfl
theorem lkc_4_243 : pm_tc tb 4 243 = some (4, mJ9_max_7cf53, 2) := rfl
theorem lkc_4_248 : pm_tc tb 4 248 = some (0, mX4_huntersAheadOf, 1) := rfl
theorem lkc_4_251 : pm_tc tb 4 251 = some (5, mJ9_min_7cf53, 2) := rfl
theorem lkc_4_254 : pm_tc tb 4 254 = some (0, mX4_isAhead, 2) := rfl
theorem lkc_8_9 : pm_tc tb 8 9 = some (0, mX4_lack, 0) := rfl
theorem lkc_8_17 : pm_tc tb 8 17 = some (0, mX4_count, 1) := rfl
theorem lkc_8_21 : pm_tc tb 8 21 = some (0, mX4_asset, 2) := rfl
theorem lkc_8_25 : pm_tc tb 8 25 = some (0, mX4_hunter, 2) := rfl
theorem lkc_8_28 : pm_tc tb 8 28 = some (0, mX4_reportOf, 2) := rfl
theorem lkc_8_31 : pm_tc tb 8 31 = some (1, mL_sum, 1) := rfl
theorem lkc_8_37 : pm_tc tb 8 37 = some (0, mX4_addAsset, 2) := rfl
theorem lkc_8_40 : pm_tc tb 8 40 = some (0, mX4_fill, 1) := rfl
theorem lkc_8_43 : pm_tc tb 8 43 = some (0, mX4_setRate, 1) := rfl
theorem lkc_8_46 : pm_tc tb 8 46 = some (0, mX4_setBonus, 1) := rfl
theorem lkc_8_49 : pm_tc tb 8 49 = some (0, mX4_report, 3) := rfl
theorem lkc_8_53 : pm_tc tb 8 53 = some (0, mX4_fold, 1) := rfl
theorem lkc_8_56 : pm_tc tb 8 56 = some (0, mX4_grade, 2) := rfl
theorem lkc_8_59 : pm_tc tb 8 59 = some (0, mX4_refuse, 1) := rfl
theorem lkc_8_62 : pm_tc tb 8 62 = some (0, mX4_appeal, 2) := rfl
theorem lkc_8_65 : pm_tc tb 8 65 = some (0, mX4_decide, 2) := rfl
theorem lkc_8_68 : pm_tc tb 8 68 = some (0, mX4_pay, 1) := rfl
theorem lkc_8_71 : pm_tc tb 8 71 = some (0, mX4_retest, 3) := rfl
theorem lkc_8_74 : pm_tc tb 8 74 = some (0, mX4_pass, 1) := rfl
theorem lkc_8_77 : pm_tc tb 8 77 = some (0, mX4_original, 1) := rfl
theorem lkc_8_80 : pm_tc tb 8 80 = some (0, mX4_paidIn, 1) := rfl
theorem lkc_8_83 : pm_tc tb 8 83 = some (0, mX4_best, 1) := rfl
theorem lkc_8_86 : pm_tc tb 8 86 = some (1, mL_isReport, 2) := rfl
theorem lkc_8_90 : pm_tc tb 8 90 = some (0, mX4_undo, 0) := rfl
theorem lkc_8_95 : pm_tc tb 8 95 = some (1, mL_low, 2) := rfl
theorem lkc_8_98 : pm_tc tb 8 98 = some (1, mL_money, 1) := rfl
theorem lkc_8_101 : pm_tc tb 8 101 = some (2, mX4_init, 0) := rfl
theorem lkc_8_102 : pm_tc tb 8 102 = some (1, mL_refused, 1) := rfl
theorem lkc_8_106 : pm_tc tb 8 106 = some (1, mL_fits, 1) := rfl
theorem lkc_8_109 : pm_tc tb 8 109 = some (1, mL_cell, 2) := rfl
theorem lkc_8_113 : pm_tc tb 8 113 = some (0, mX4_addHunter, 0) := rfl
theorem lkc_8_116 : pm_tc tb 8 116 = some (1, mL_acts, 4) := rfl
theorem lkc_8_120 : pm_tc tb 8 120 = some (1, mL_comesSo, 2) := rfl
theorem lkc_8_123 : pm_tc tb 8 123 = some (1, mL_isFilled, 1) := rfl
theorem lkf_0_7 : pm_tf tb 0 7 = some (0, 0) := rfl
theorem lkf_0_13 : pm_tf tb 0 13 = some (0, 1) := rfl
theorem lkf_0_16 : pm_tf tb 0 16 = some (0, 2) := rfl
theorem lkf_1_11 : pm_tf tb 1 11 = some (1, 0) := rfl
theorem lkf_1_20 : pm_tf tb 1 20 = some (1, 1) := rfl
theorem lkf_1_27 : pm_tf tb 1 27 = some (1, 2) := rfl
theorem lkf_1_32 : pm_tf tb 1 32 = some (1, 8) := rfl
theorem lkf_1_36 : pm_tf tb 1 36 = some (1, 9) := rfl
theorem lkf_1_39 : pm_tf tb 1 39 = some (1, 3) := rfl
theorem lkf_1_46 : pm_tf tb 1 46 = some (1, 4) := rfl
theorem lkf_1_52 : pm_tf tb 1 52 = some (1, 5) := rfl
theorem lkf_1_58 : pm_tf tb 1 58 = some (1, 6) := rfl
theorem lkf_1_61 : pm_tf tb 1 61 = some (1, 7) := rfl
theorem lkf_1_64 : pm_tf tb 1 64 = some (1, 10) := rfl
theorem lkf_1_67 : pm_tf tb 1 67 = some (1, 11) := rfl
theorem lkf_1_70 : pm_tf tb 1 70 = some (0, 0) := rfl
theorem lkf_1_73 : pm_tf tb 1 73 = some (0, 1) := rfl
theorem lkf_1_76 : pm_tf tb 1 76 = some (0, 2) := rfl
theorem lkf_1_86 : pm_tf tb 1 86 = some (3, 3) := rfl
theorem lkf_1_93 : pm_tf tb 1 93 = some (3, 5) := rfl
theorem lkf_1_99 : pm_tf tb 1 99 = some (3, 1) := rfl
theorem lkf_1_102 : pm_tf tb 1 102 = some (3, 4) := rfl
theorem lkf_1_109 : pm_tf tb 1 109 = some (3, 6) := rfl
theorem lkf_1_112 : pm_tf tb 1 112 = some (3, 7) := rfl
theorem lkf_1_115 : pm_tf tb 1 115 = some (3, 0) := rfl
theorem lkf_1_118 : pm_tf tb 1 118 = some (2, 1) := rfl
theorem lkf_1_121 : pm_tf tb 1 121 = some (2, 2) := rfl
theorem lkf_1_134 : pm_tf tb 1 134 = some (3, 8) := rfl
theorem lkf_1_141 : pm_tf tb 1 141 = some (2, 0) := rfl
theorem lkf_1_148 : pm_tf tb 1 148 = some (3, 9) := rfl
theorem lkf_1_151 : pm_tf tb 1 151 = some (3, 10) := rfl
theorem lkf_1_163 : pm_tf tb 1 163 = some (3, 11) := rfl
theorem lkf_1_170 : pm_tf tb 1 170 = some (2, 3) := rfl
theorem lkf_2_7 : pm_tf tb 2 7 = some (2, 0) := rfl
theorem lkf_2_13 : pm_tf tb 2 13 = some (2, 1) := rfl
theorem lkf_2_16 : pm_tf tb 2 16 = some (2, 2) := rfl
theorem lkf_2_19 : pm_tf tb 2 19 = some (2, 3) := rfl
theorem lkf_3_9 : pm_tf tb 3 9 = some (3, 5) := rfl
theorem lkf_3_15 : pm_tf tb 3 15 = some (3, 0) := rfl
theorem lkf_3_18 : pm_tf tb 3 18 = some (3, 1) := rfl
theorem lkf_3_21 : pm_tf tb 3 21 = some (3, 2) := rfl
theorem lkf_3_24 : pm_tf tb 3 24 = some (3, 8) := rfl
theorem lkf_3_30 : pm_tf tb 3 30 = some (3, 3) := rfl
theorem lkf_3_33 : pm_tf tb 3 33 = some (3, 4) := rfl
theorem lkf_3_36 : pm_tf tb 3 36 = some (3, 6) := rfl
theorem lkf_3_39 : pm_tf tb 3 39 = some (3, 7) := rfl
theorem lkf_3_42 : pm_tf tb 3 42 = some (3, 9) := rfl
theorem lkf_3_45 : pm_tf tb 3 45 = some (3, 10) := rfl
theorem lkf_3_48 : pm_tf tb 3 48 = some (3, 11) := rfl
theorem lkf_4_10 : pm_tf tb 4 10 = some (4, 0) := rfl
theorem lkf_4_16 : pm_tf tb 4 16 = some (4, 1) := rfl
theorem lkf_4_19 : pm_tf tb 4 19 = some (4, 2) := rfl
theorem lkf_4_23 : pm_tf tb 4 23 = some (4, 3) := rfl
theorem lkf_4_27 : pm_tf tb 4 27 = some (4, 4) := rfl
theorem lkf_4_31 : pm_tf tb 4 31 = some (4, 5) := rfl
theorem lkf_4_38 : pm_tf tb 4 38 = some (1, 3) := rfl
theorem lkf_4_48 : pm_tf tb 4 48 = some (1, 4) := rfl
theorem lkf_4_56 : pm_tf tb 4 56 = some (1, 7) := rfl
theorem lkf_4_60 : pm_tf tb 4 60 = some (1, 8) := rfl
theorem lkf_4_63 : pm_tf tb 4 63 = some (1, 9) := rfl
theorem lkf_4_73 : pm_tf tb 4 73 = some (1, 5) := rfl
theorem lkf_4_87 : pm_tf tb 4 87 = some (1, 2) := rfl
theorem lkf_4_91 : pm_tf tb 4 91 = some (3, 3) := rfl
theorem lkf_4_96 : pm_tf tb 4 96 = some (3, 5) := rfl
theorem lkf_4_99 : pm_tf tb 4 99 = some (3, 4) := rfl
theorem lkf_4_110 : pm_tf tb 4 110 = some (3, 6) := rfl
theorem lkf_4_116 : pm_tf tb 4 116 = some (3, 7) := rfl
theorem lkf_4_129 : pm_tf tb 4 129 = some (3, 11) := rfl
theorem lkf_4_144 : pm_tf tb 4 144 = some (1, 6) := rfl
theorem lkf_4_160 : pm_tf tb 4 160 = some (1, 10) := rfl
theorem lkf_4_163 : pm_tf tb 4 163 = some (1, 11) := rfl
theorem lkf_4_169 : pm_tf tb 4 169 = some (1, 0) := rfl
theorem lkf_4_173 : pm_tf tb 4 173 = some (0, 0) := rfl
theorem lkf_4_178 : pm_tf tb 4 178 = some (0, 1) := rfl
theorem lkf_4_181 : pm_tf tb 4 181 = some (0, 2) := rfl
theorem lkf_4_190 : pm_tf tb 4 190 = some (1, 1) := rfl
theorem lkf_4_197 : pm_tf tb 4 197 = some (2, 0) := rfl
theorem lkf_4_205 : pm_tf tb 4 205 = some (2, 1) := rfl
theorem lkf_4_208 : pm_tf tb 4 208 = some (2, 2) := rfl
theorem lkf_4_211 : pm_tf tb 4 211 = some (2, 3) := rfl
theorem lkf_4_214 : pm_tf tb 4 214 = some (3, 0) := rfl
theorem lkf_4_217 : pm_tf tb 4 217 = some (3, 1) := rfl
theorem lkf_4_220 : pm_tf tb 4 220 = some (3, 2) := rfl
theorem lkf_4_229 : pm_tf tb 4 229 = some (3, 8) := rfl
theorem lkf_4_232 : pm_tf tb 4 232 = some (3, 9) := rfl
theorem lkf_4_240 : pm_tf tb 4 240 = some (3, 10) := rfl
theorem lkq_8_15 : pm_tq tb 8 15 = some 31 := rfl
theorem lkk_8_7 : pm_tk tb 8 7 = some 916318735 := rfl
theorem lkk_8_8 : pm_tk tb 8 8 = some 2147483647 := rfl
theorem lkk_6_265 : pm_tk tb 6 265 = some 1431655765 := rfl
theorem lkk_6_266 : pm_tk tb 6 266 = some 858993459 := rfl
theorem lkk_6_267 : pm_tk tb 6 267 = some 252645135 := rfl
theorem lkk_4_55 : pm_tk tb 4 55 = some 100000 := rfl
theorem lkk_4_59 : pm_tk tb 4 59 = some 1000000 := rfl
theorem lkk_8_93 : pm_tk tb 8 93 = some 100000 := rfl
theorem lkk_8_94 : pm_tk tb 8 94 = some 1000000 := rfl
theorem lkn_4_7 : pm_tn tb 4 7 = some 1 := rfl
theorem lkn_1_9 : pm_tn tb 1 9 = some 0 := rfl
theorem lkn_1_18 : pm_tn tb 1 18 = some 2 := rfl
theorem lkn_1_25 : pm_tn tb 1 25 = some 3 := rfl
theorem lkn_8_10 : pm_tn tb 8 10 = some 4 := rfl
theorem lka_4_7 : pm_ta tb 4 7 = some 1 := rfl
theorem lka_1_9 : pm_ta tb 1 9 = some 0 := rfl
theorem lka_1_18 : pm_ta tb 1 18 = some 2 := rfl
theorem lka_1_25 : pm_ta tb 1 25 = some 3 := rfl
