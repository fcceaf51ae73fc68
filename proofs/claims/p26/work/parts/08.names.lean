/-! names of the claim's bytecode, by program -/
def RX0 : String := "BountyDesk$Asset"
def TX0 : u_T := fun k => match k with
  | 0 => ("BountyDesk$Asset", "weight", "I", false)
  | 1 => ("BountyDesk$Asset", "allowance", "I", false)
  | _ => ("BountyDesk$Asset", "pool", "I", false)
def tyX0 : Nat → FieldType := fun k => match k with
  | 0 => .int
  | 1 => .int
  | _ => .int
theorem nmX0 : ∀ a, a < 3 → ∀ b, b < 3 → a ≠ b → (TX0 a).2.1 ≠ (TX0 b).2.1 := by decide +kernel
theorem tyX0_ok : ∀ k, k < 3 → parseFieldDescriptor (TX0 k).2.2.1 = some (tyX0 k) := by decide +kernel
abbrev cX0_init : ByteArray := prog_2_method_1_code
def yX0_init : MethodName := ⟨RX0, "<init>", "()V"⟩
abbrev cX0_copyFrom : ByteArray := prog_2_method_2_code
def yX0_copyFrom : MethodName := ⟨RX0, "copyFrom", "(LBountyDesk$Asset;)V"⟩
def RX1 : String := "BountyDesk$Books"
def TX1 : u_T := fun k => match k with
  | 0 => ("BountyDesk$Books", "assets", "[LBountyDesk$Asset;", true)
  | 1 => ("BountyDesk$Books", "hunters", "[LBountyDesk$Hunter;", true)
  | 2 => ("BountyDesk$Books", "reports", "[LBountyDesk$Report;", true)
  | 3 => ("BountyDesk$Books", "assetCount", "I", false)
  | 4 => ("BountyDesk$Books", "hunterCount", "I", false)
  | 5 => ("BountyDesk$Books", "reportCount", "I", false)
  | 6 => ("BountyDesk$Books", "day", "I", false)
  | 7 => ("BountyDesk$Books", "reserve", "I", false)
  | 8 => ("BountyDesk$Books", "rate", "I", false)
  | 9 => ("BountyDesk$Books", "bonus", "I", false)
  | 10 => ("BountyDesk$Books", "paidSoFar", "I", false)
  | _ => ("BountyDesk$Books", "bonusesSoFar", "I", false)
def tyX1 : Nat → FieldType := fun k => match k with
  | 0 => .array (.object "BountyDesk$Asset")
  | 1 => .array (.object "BountyDesk$Hunter")
  | 2 => .array (.object "BountyDesk$Report")
  | 3 => .int
  | 4 => .int
  | 5 => .int
  | 6 => .int
  | 7 => .int
  | 8 => .int
  | 9 => .int
  | 10 => .int
  | _ => .int
theorem nmX1 : ∀ a, a < 12 → ∀ b, b < 12 → a ≠ b → (TX1 a).2.1 ≠ (TX1 b).2.1 := by decide +kernel
theorem tyX1_ok : ∀ k, k < 12 → parseFieldDescriptor (TX1 k).2.2.1 = some (tyX1 k) := by decide +kernel
abbrev cX1_init : ByteArray := prog_3_method_1_code
def yX1_init : MethodName := ⟨RX1, "<init>", "()V"⟩
abbrev cX1_copyFrom : ByteArray := prog_3_method_2_code
def yX1_copyFrom : MethodName := ⟨RX1, "copyFrom", "(LBountyDesk$Books;)V"⟩
abbrev cX1_hasAsset : ByteArray := prog_3_method_3_code
def yX1_hasAsset : MethodName := ⟨RX1, "hasAsset", "(I)Z"⟩
abbrev cX1_hasHunter : ByteArray := prog_3_method_4_code
def yX1_hasHunter : MethodName := ⟨RX1, "hasHunter", "(I)Z"⟩
abbrev cX1_hasReport : ByteArray := prog_3_method_5_code
def yX1_hasReport : MethodName := ⟨RX1, "hasReport", "(I)Z"⟩
abbrev cX1_openAsset : ByteArray := prog_3_method_6_code
def yX1_openAsset : MethodName := ⟨RX1, "openAsset", "(II)I"⟩
abbrev cX1_openHunter : ByteArray := prog_3_method_7_code
def yX1_openHunter : MethodName := ⟨RX1, "openHunter", "()I"⟩
abbrev cX1_openReport : ByteArray := prog_3_method_8_code
def yX1_openReport : MethodName := ⟨RX1, "openReport", "(III)I"⟩
abbrev cX1_foldTarget : ByteArray := prog_3_method_9_code
def yX1_foldTarget : MethodName := ⟨RX1, "foldTarget", "(I)I"⟩
abbrev cX1_releaseFolded : ByteArray := prog_3_method_10_code
def yX1_releaseFolded : MethodName := ⟨RX1, "releaseFolded", "(I)I"⟩
abbrev cX1_priceWith : ByteArray := prog_3_method_11_code
def yX1_priceWith : MethodName := ⟨RX1, "priceWith", "(LBountyDesk$Report;I)I"⟩
abbrev cX1_priceOf : ByteArray := prog_3_method_12_code
def yX1_priceOf : MethodName := ⟨RX1, "priceOf", "(LBountyDesk$Report;)I"⟩
abbrev cX1_closeAppeal : ByteArray := prog_3_method_13_code
def yX1_closeAppeal : MethodName := ⟨RX1, "closeAppeal", "(LBountyDesk$Report;I)I"⟩
abbrev cX1_payOrWait : ByteArray := prog_3_method_14_code
def yX1_payOrWait : MethodName := ⟨RX1, "payOrWait", "(I)I"⟩
abbrev cX1_shareOut : ByteArray := prog_3_method_15_code
def yX1_shareOut : MethodName := ⟨RX1, "shareOut", "(II)V"⟩
abbrev cX1_beginQuarter : ByteArray := prog_3_method_16_code
def yX1_beginQuarter : MethodName := ⟨RX1, "beginQuarter", "()I"⟩
abbrev cX1_isReportedBy : ByteArray := prog_3_method_17_code
def yX1_isReportedBy : MethodName := ⟨RX1, "isReportedBy", "(II)Z"⟩
abbrev cX1_takeRetest : ByteArray := prog_3_method_18_code
def yX1_takeRetest : MethodName := ⟨RX1, "takeRetest", "(IIZ)I"⟩
abbrev cX1_giveBonuses : ByteArray := prog_3_method_19_code
def yX1_giveBonuses : MethodName := ⟨RX1, "giveBonuses", "(I)V"⟩
abbrev cX1_standingOf : ByteArray := prog_3_method_20_code
def yX1_standingOf : MethodName := ⟨RX1, "standingOf", "(I)I"⟩
abbrev cX1_standingFor : ByteArray := prog_3_method_21_code
def yX1_standingFor : MethodName := ⟨RX1, "standingFor", "(I)I"⟩
abbrev cX1_reportsInState : ByteArray := prog_3_method_22_code
def yX1_reportsInState : MethodName := ⟨RX1, "reportsInState", "(I)I"⟩
abbrev cX1_reportsFor : ByteArray := prog_3_method_23_code
def yX1_reportsFor : MethodName := ⟨RX1, "reportsFor", "(I)I"⟩
abbrev cX1_reportsBy : ByteArray := prog_3_method_24_code
def yX1_reportsBy : MethodName := ⟨RX1, "reportsBy", "(I)I"⟩
abbrev cX1_foldedReports : ByteArray := prog_3_method_25_code
def yX1_foldedReports : MethodName := ⟨RX1, "foldedReports", "(I)I"⟩
abbrev cX1_openAppeals : ByteArray := prog_3_method_26_code
def yX1_openAppeals : MethodName := ⟨RX1, "openAppeals", "()I"⟩
abbrev cX1_moneyInPools : ByteArray := prog_3_method_27_code
def yX1_moneyInPools : MethodName := ⟨RX1, "moneyInPools", "()I"⟩
abbrev cX1_payablePrices : ByteArray := prog_3_method_28_code
def yX1_payablePrices : MethodName := ⟨RX1, "payablePrices", "(I)I"⟩
def RX2 : String := "BountyDesk$Hunter"
def TX2 : u_T := fun k => match k with
  | 0 => ("BountyDesk$Hunter", "money", "I", false)
  | 1 => ("BountyDesk$Hunter", "won", "I", false)
  | 2 => ("BountyDesk$Hunter", "lost", "I", false)
  | _ => ("BountyDesk$Hunter", "bonuses", "I", false)
def tyX2 : Nat → FieldType := fun k => match k with
  | 0 => .int
  | 1 => .int
  | 2 => .int
  | _ => .int
theorem nmX2 : ∀ a, a < 4 → ∀ b, b < 4 → a ≠ b → (TX2 a).2.1 ≠ (TX2 b).2.1 := by decide +kernel
theorem tyX2_ok : ∀ k, k < 4 → parseFieldDescriptor (TX2 k).2.2.1 = some (tyX2 k) := by decide +kernel
abbrev cX2_init : ByteArray := prog_4_method_1_code
def yX2_init : MethodName := ⟨RX2, "<init>", "()V"⟩
abbrev cX2_clear : ByteArray := prog_4_method_2_code
def yX2_clear : MethodName := ⟨RX2, "clear", "()V"⟩
abbrev cX2_copyFrom : ByteArray := prog_4_method_3_code
def yX2_copyFrom : MethodName := ⟨RX2, "copyFrom", "(LBountyDesk$Hunter;)V"⟩
def RX3 : String := "BountyDesk$Report"
def TX3 : u_T := fun k => match k with
  | 0 => ("BountyDesk$Report", "hunter", "I", false)
  | 1 => ("BountyDesk$Report", "asset", "I", false)
  | 2 => ("BountyDesk$Report", "flaw", "I", false)
  | 3 => ("BountyDesk$Report", "state", "I", false)
  | 4 => ("BountyDesk$Report", "severity", "I", false)
  | 5 => ("BountyDesk$Report", "foldedInto", "I", false)
  | 6 => ("BountyDesk$Report", "appeal", "I", false)
  | 7 => ("BountyDesk$Report", "claimed", "I", false)
  | 8 => ("BountyDesk$Report", "lastPaid", "I", false)
  | 9 => ("BountyDesk$Report", "toldGone", "I", false)
  | 10 => ("BountyDesk$Report", "toldThere", "I", false)
  | _ => ("BountyDesk$Report", "isClosed", "Z", false)
def tyX3 : Nat → FieldType := fun k => match k with
  | 0 => .int
  | 1 => .int
  | 2 => .int
  | 3 => .int
  | 4 => .int
  | 5 => .int
  | 6 => .int
  | 7 => .int
  | 8 => .int
  | 9 => .int
  | 10 => .int
  | _ => .boolean
theorem nmX3 : ∀ a, a < 12 → ∀ b, b < 12 → a ≠ b → (TX3 a).2.1 ≠ (TX3 b).2.1 := by decide +kernel
theorem tyX3_ok : ∀ k, k < 12 → parseFieldDescriptor (TX3 k).2.2.1 = some (tyX3 k) := by decide +kernel
abbrev cX3_init : ByteArray := prog_5_method_1_code
def yX3_init : MethodName := ⟨RX3, "<init>", "()V"⟩
abbrev cX3_open : ByteArray := prog_5_method_2_code
def yX3_open : MethodName := ⟨RX3, "open", "(III)V"⟩
abbrev cX3_makeNew : ByteArray := prog_5_method_3_code
def yX3_makeNew : MethodName := ⟨RX3, "makeNew", "()V"⟩
abbrev cX3_isPayable : ByteArray := prog_5_method_4_code
def yX3_isPayable : MethodName := ⟨RX3, "isPayable", "()Z"⟩
abbrev cX3_hasSeverity : ByteArray := prog_5_method_5_code
def yX3_hasSeverity : MethodName := ⟨RX3, "hasSeverity", "()Z"⟩
abbrev cX3_isRetestedBy : ByteArray := prog_5_method_6_code
def yX3_isRetestedBy : MethodName := ⟨RX3, "isRetestedBy", "(I)Z"⟩
abbrev cX3_tellsSameAs : ByteArray := prog_5_method_7_code
def yX3_tellsSameAs : MethodName := ⟨RX3, "tellsSameAs", "(LBountyDesk$Report;)Z"⟩
abbrev cX3_copyFrom : ByteArray := prog_5_method_8_code
def yX3_copyFrom : MethodName := ⟨RX3, "copyFrom", "(LBountyDesk$Report;)V"⟩
def RX4 : String := "BountyDesk"
def TX4 : u_T := fun k => match k with
  | 0 => ("BountyDesk", "books", "LBountyDesk$Books;", true)
  | 1 => ("BountyDesk", "forecast", "LBountyDesk$Books;", true)
  | 2 => ("BountyDesk", "before", "[LBountyDesk$Books;", true)
  | 3 => ("BountyDesk", "standings", "[I", true)
  | 4 => ("BountyDesk", "nextSlot", "I", false)
  | _ => ("BountyDesk", "deeds", "I", false)
def tyX4 : Nat → FieldType := fun k => match k with
  | 0 => .object "BountyDesk$Books"
  | 1 => .object "BountyDesk$Books"
  | 2 => .array (.object "BountyDesk$Books")
  | 3 => .array .int
  | 4 => .int
  | _ => .int
theorem nmX4 : ∀ a, a < 6 → ∀ b, b < 6 → a ≠ b → (TX4 a).2.1 ≠ (TX4 b).2.1 := by decide +kernel
theorem tyX4_ok : ∀ k, k < 6 → parseFieldDescriptor (TX4 k).2.2.1 = some (tyX4 k) := by decide +kernel
abbrev cX4_init : ByteArray := prog_1_method_1_code
def yX4_init : MethodName := ⟨RX4, "<init>", "()V"⟩
abbrev cX4_addAsset : ByteArray := prog_1_method_2_code
def yX4_addAsset : MethodName := ⟨RX4, "addAsset", "(II)I"⟩
abbrev cX4_addHunter : ByteArray := prog_1_method_3_code
def yX4_addHunter : MethodName := ⟨RX4, "addHunter", "()I"⟩
abbrev cX4_fill : ByteArray := prog_1_method_4_code
def yX4_fill : MethodName := ⟨RX4, "fill", "(I)I"⟩
abbrev cX4_setRate : ByteArray := prog_1_method_5_code
def yX4_setRate : MethodName := ⟨RX4, "setRate", "(I)I"⟩
abbrev cX4_setBonus : ByteArray := prog_1_method_6_code
def yX4_setBonus : MethodName := ⟨RX4, "setBonus", "(I)I"⟩
abbrev cX4_report : ByteArray := prog_1_method_7_code
def yX4_report : MethodName := ⟨RX4, "report", "(III)I"⟩
abbrev cX4_fold : ByteArray := prog_1_method_8_code
def yX4_fold : MethodName := ⟨RX4, "fold", "(I)I"⟩
abbrev cX4_grade : ByteArray := prog_1_method_9_code
def yX4_grade : MethodName := ⟨RX4, "grade", "(II)I"⟩
abbrev cX4_refuse : ByteArray := prog_1_method_10_code
def yX4_refuse : MethodName := ⟨RX4, "refuse", "(I)I"⟩
abbrev cX4_appeal : ByteArray := prog_1_method_11_code
def yX4_appeal : MethodName := ⟨RX4, "appeal", "(II)I"⟩
abbrev cX4_decide : ByteArray := prog_1_method_12_code
def yX4_decide : MethodName := ⟨RX4, "decide", "(II)I"⟩
abbrev cX4_pay : ByteArray := prog_1_method_13_code
def yX4_pay : MethodName := ⟨RX4, "pay", "(I)I"⟩
abbrev cX4_retest : ByteArray := prog_1_method_14_code
def yX4_retest : MethodName := ⟨RX4, "retest", "(III)I"⟩
abbrev cX4_pass : ByteArray := prog_1_method_15_code
def yX4_pass : MethodName := ⟨RX4, "pass", "(I)I"⟩
abbrev cX4_undo : ByteArray := prog_1_method_16_code
def yX4_undo : MethodName := ⟨RX4, "undo", "()I"⟩
abbrev cX4_count : ByteArray := prog_1_method_17_code
def yX4_count : MethodName := ⟨RX4, "count", "(I)I"⟩
abbrev cX4_asset : ByteArray := prog_1_method_18_code
def yX4_asset : MethodName := ⟨RX4, "asset", "(II)I"⟩
abbrev cX4_hunter : ByteArray := prog_1_method_19_code
def yX4_hunter : MethodName := ⟨RX4, "hunter", "(II)I"⟩
abbrev cX4_reportOf : ByteArray := prog_1_method_20_code
def yX4_reportOf : MethodName := ⟨RX4, "reportOf", "(II)I"⟩
abbrev cX4_original : ByteArray := prog_1_method_21_code
def yX4_original : MethodName := ⟨RX4, "original", "(I)I"⟩
abbrev cX4_lack : ByteArray := prog_1_method_22_code
def yX4_lack : MethodName := ⟨RX4, "lack", "()I"⟩
abbrev cX4_best : ByteArray := prog_1_method_23_code
def yX4_best : MethodName := ⟨RX4, "best", "(I)I"⟩
abbrev cX4_paidIn : ByteArray := prog_1_method_24_code
def yX4_paidIn : MethodName := ⟨RX4, "paidIn", "(I)I"⟩
abbrev cX4_isOutside : ByteArray := prog_1_method_25_code
def yX4_isOutside : MethodName := ⟨RX4, "isOutside", "(III)Z"⟩
abbrev cX4_remember : ByteArray := prog_1_method_26_code
def yX4_remember : MethodName := ⟨RX4, "remember", "()V"⟩
abbrev cX4_huntersAheadOf : ByteArray := prog_1_method_27_code
def yX4_huntersAheadOf : MethodName := ⟨RX4, "huntersAheadOf", "(I)I"⟩
abbrev cX4_isAhead : ByteArray := prog_1_method_28_code
def yX4_isAhead : MethodName := ⟨RX4, "isAhead", "(II)Z"⟩
def RX5 : String := "BountyDeskModel"
def TX5 : u_T := fun k => match k with
  | _ => ("", "", "", false)
def tyX5 : Nat → FieldType := fun k => match k with
  | _ => .int
theorem nmX5 : ∀ a, a < 0 → ∀ b, b < 0 → a ≠ b → (TX5 a).2.1 ≠ (TX5 b).2.1 := by decide +kernel
theorem tyX5_ok : ∀ k, k < 0 → parseFieldDescriptor (TX5 k).2.2.1 = some (tyX5 k) := by decide +kernel
def RJ6 : String := "java/lang/Integer"
abbrev cJ6_bitCount_0f7a4 : ByteArray := prog_8_method_49_code
def yJ6_bitCount_0f7a4 : MethodName := ⟨RJ6, "bitCount", "(I)I"⟩
def RJ9 : String := "java/lang/Math"
abbrev cJ9_max_7cf53 : ByteArray := prog_9_method_65_code
def yJ9_max_7cf53 : MethodName := ⟨RJ9, "max", "(II)I"⟩
abbrev cJ9_min_7cf53 : ByteArray := prog_9_method_69_code
def yJ9_min_7cf53 : MethodName := ⟨RJ9, "min", "(II)I"⟩
def RL : String := "BountyDeskLaw"
abbrev cL_cell : ByteArray := method_2_code
def yL_cell : MethodName := ⟨RL, "cell", "([II)I"⟩
abbrev cL_low : ByteArray := method_3_code
def yL_low : MethodName := ⟨RL, "low", "(II)I"⟩
abbrev cL_sum : ByteArray := method_4_code
def yL_sum : MethodName := ⟨RL, "sum", "(LBountyDesk;)J"⟩
abbrev cL_refused : ByteArray := method_5_code
def yL_refused : MethodName := ⟨RL, "refused", "(LBountyDesk;)Z"⟩
abbrev cL_money : ByteArray := method_6_code
def yL_money : MethodName := ⟨RL, "money", "(LBountyDesk;)J"⟩
abbrev cL_isReport : ByteArray := method_7_code
def yL_isReport : MethodName := ⟨RL, "isReport", "(LBountyDesk;I)Z"⟩
abbrev cL_fits : ByteArray := method_8_code
def yL_fits : MethodName := ⟨RL, "fits", "(LBountyDesk;)Z"⟩
abbrev cL_comesSo : ByteArray := method_9_code
def yL_comesSo : MethodName := ⟨RL, "comesSo", "(LBountyDesk;I)Z"⟩
abbrev cL_isFilled : ByteArray := method_10_code
def yL_isFilled : MethodName := ⟨RL, "isFilled", "(LBountyDesk;)Z"⟩
abbrev cL_acts : ByteArray := method_11_code
def yL_acts : MethodName := ⟨RL, "acts", "(LBountyDesk;III)Z"⟩
abbrev cL_law : ByteArray := code
def yL_law : MethodName := ⟨RL, "law", "([I)Z"⟩
abbrev vwCl : List vw_C := [(RX0, TX0, 3), (RX1, TX1, 12), (RX2, TX2, 4), (RX3, TX3, 12), (RX4, TX4, 6)]
def tb_R : Nat → String := fun n => match n with
  | 0 => RX0
  | 1 => RX1
  | 2 => RX2
  | 3 => RX3
  | 4 => RX4
  | 5 => RX5
  | 6 => RJ6
  | 7 => RJ9
  | _ => RL
def mX0_init : pm_M := (yX0_init, 0, cX0_init, 1, none, 1, 21, [])
def mX0_copyFrom : pm_M := (yX0_copyFrom, 0, cX0_copyFrom, 2, none, 0, 0, [])
def mX1_init : pm_M := (yX1_init, 1, cX1_init, 2, none, 2, 41, [])
def mX1_copyFrom : pm_M := (yX1_copyFrom, 1, cX1_copyFrom, 3, none, 1, 21, [])
def mX1_hasAsset : pm_M := (yX1_hasAsset, 1, cX1_hasAsset, 2, some .boolean, 0, 0, [])
def mX1_hasHunter : pm_M := (yX1_hasHunter, 1, cX1_hasHunter, 2, some .boolean, 0, 0, [])
def mX1_hasReport : pm_M := (yX1_hasReport, 1, cX1_hasReport, 2, some .boolean, 0, 0, [])
def mX1_openAsset : pm_M := (yX1_openAsset, 1, cX1_openAsset, 4, some .int, 0, 0, [])
def mX1_openHunter : pm_M := (yX1_openHunter, 1, cX1_openHunter, 1, some .int, 1, 20, [])
def mX1_openReport : pm_M := (yX1_openReport, 1, cX1_openReport, 4, some .int, 2, 43, [])
def mX1_foldTarget : pm_M := (yX1_foldTarget, 1, cX1_foldTarget, 6, some .int, 1, 21, [])
def mX1_releaseFolded : pm_M := (yX1_releaseFolded, 1, cX1_releaseFolded, 4, some .int, 1, 20, [])
def mX1_priceWith : pm_M := (yX1_priceWith, 1, cX1_priceWith, 3, some .int, 0, 0, [])
def mX1_priceOf : pm_M := (yX1_priceOf, 1, cX1_priceOf, 2, some .int, 1, 22, [])
def mX1_closeAppeal : pm_M := (yX1_closeAppeal, 1, cX1_closeAppeal, 4, some .int, 0, 0, [])
def mX1_payOrWait : pm_M := (yX1_payOrWait, 1, cX1_payOrWait, 6, some .int, 2, 43, [])
def mX1_shareOut : pm_M := (yX1_shareOut, 1, cX1_shareOut, 7, none, 0, 0, [])
def mX1_beginQuarter : pm_M := (yX1_beginQuarter, 1, cX1_beginQuarter, 5, some .int, 3, 68, [])
def mX1_isReportedBy : pm_M := (yX1_isReportedBy, 1, cX1_isReportedBy, 4, some .boolean, 0, 0, [])
def mX1_takeRetest : pm_M := (yX1_takeRetest, 1, cX1_takeRetest, 6, some .int, 2, 43, [])
def mX1_giveBonuses : pm_M := (yX1_giveBonuses, 1, cX1_giveBonuses, 4, none, 1, 20, [])
def mX1_standingOf : pm_M := (yX1_standingOf, 1, cX1_standingOf, 5, some .int, 1, 20, [])
def mX1_standingFor : pm_M := (yX1_standingFor, 1, cX1_standingFor, 1, some .int, 0, 0, [])
def mX1_reportsInState : pm_M := (yX1_reportsInState, 1, cX1_reportsInState, 4, some .int, 0, 0, [])
def mX1_reportsFor : pm_M := (yX1_reportsFor, 1, cX1_reportsFor, 4, some .int, 0, 0, [])
def mX1_reportsBy : pm_M := (yX1_reportsBy, 1, cX1_reportsBy, 4, some .int, 0, 0, [])
def mX1_foldedReports : pm_M := (yX1_foldedReports, 1, cX1_foldedReports, 4, some .int, 0, 0, [])
def mX1_openAppeals : pm_M := (yX1_openAppeals, 1, cX1_openAppeals, 3, some .int, 0, 0, [])
def mX1_moneyInPools : pm_M := (yX1_moneyInPools, 1, cX1_moneyInPools, 3, some .int, 0, 0, [])
def mX1_payablePrices : pm_M := (yX1_payablePrices, 1, cX1_payablePrices, 4, some .int, 2, 43, [])
def mX2_init : pm_M := (yX2_init, 2, cX2_init, 1, none, 1, 21, [])
def mX2_clear : pm_M := (yX2_clear, 2, cX2_clear, 1, none, 0, 0, [])
def mX2_copyFrom : pm_M := (yX2_copyFrom, 2, cX2_copyFrom, 2, none, 0, 0, [])
def mX3_init : pm_M := (yX3_init, 3, cX3_init, 1, none, 1, 21, [])
def mX3_open : pm_M := (yX3_open, 3, cX3_open, 4, none, 1, 20, [])
def mX3_makeNew : pm_M := (yX3_makeNew, 3, cX3_makeNew, 1, none, 0, 0, [])
def mX3_isPayable : pm_M := (yX3_isPayable, 3, cX3_isPayable, 1, some .boolean, 0, 0, [])
def mX3_hasSeverity : pm_M := (yX3_hasSeverity, 3, cX3_hasSeverity, 1, some .boolean, 1, 20, [])
def mX3_isRetestedBy : pm_M := (yX3_isRetestedBy, 3, cX3_isRetestedBy, 2, some .boolean, 0, 0, [])
def mX3_tellsSameAs : pm_M := (yX3_tellsSameAs, 3, cX3_tellsSameAs, 2, some .boolean, 0, 0, [])
def mX3_copyFrom : pm_M := (yX3_copyFrom, 3, cX3_copyFrom, 2, none, 0, 0, [])
def mX4_init : pm_M := (yX4_init, 4, cX4_init, 2, none, 3, 62, [])
def mX4_addAsset : pm_M := (yX4_addAsset, 4, cX4_addAsset, 3, some .int, 3, 63, [])
def mX4_addHunter : pm_M := (yX4_addHunter, 4, cX4_addHunter, 1, some .int, 3, 63, [])
def mX4_fill : pm_M := (yX4_fill, 4, cX4_fill, 2, some .int, 3, 63, [])
def mX4_setRate : pm_M := (yX4_setRate, 4, cX4_setRate, 3, some .int, 3, 63, [])
def mX4_setBonus : pm_M := (yX4_setBonus, 4, cX4_setBonus, 3, some .int, 3, 63, [])
def mX4_report : pm_M := (yX4_report, 4, cX4_report, 4, some .int, 3, 66, [])
def mX4_fold : pm_M := (yX4_fold, 4, cX4_fold, 4, some .int, 3, 63, [])
def mX4_grade : pm_M := (yX4_grade, 4, cX4_grade, 4, some .int, 3, 63, [])
def mX4_refuse : pm_M := (yX4_refuse, 4, cX4_refuse, 3, some .int, 3, 63, [])
def mX4_appeal : pm_M := (yX4_appeal, 4, cX4_appeal, 4, some .int, 3, 63, [])
def mX4_decide : pm_M := (yX4_decide, 4, cX4_decide, 4, some .int, 3, 63, [])
def mX4_pay : pm_M := (yX4_pay, 4, cX4_pay, 3, some .int, 3, 68, [])
def mX4_retest : pm_M := (yX4_retest, 4, cX4_retest, 5, some .int, 3, 68, [])
def mX4_pass : pm_M := (yX4_pass, 4, cX4_pass, 5, some .int, 4, 92, [])
def mX4_undo : pm_M := (yX4_undo, 4, cX4_undo, 1, some .int, 2, 43, [])
def mX4_count : pm_M := (yX4_count, 4, cX4_count, 2, some .int, 1, 23, [])
def mX4_asset : pm_M := (yX4_asset, 4, cX4_asset, 4, some .int, 3, 66, [])
def mX4_hunter : pm_M := (yX4_hunter, 4, cX4_hunter, 4, some .int, 2, 44, [])
def mX4_reportOf : pm_M := (yX4_reportOf, 4, cX4_reportOf, 4, some .int, 2, 43, [])
def mX4_original : pm_M := (yX4_original, 4, cX4_original, 2, some .int, 2, 46, [])
def mX4_lack : pm_M := (yX4_lack, 4, cX4_lack, 3, some .int, 3, 66, [])
def mX4_best : pm_M := (yX4_best, 4, cX4_best, 3, some .int, 2, 47, [])
def mX4_paidIn : pm_M := (yX4_paidIn, 4, cX4_paidIn, 4, some .int, 4, 92, [])
def mX4_isOutside : pm_M := (yX4_isOutside, 4, cX4_isOutside, 3, some .boolean, 0, 0, [])
def mX4_remember : pm_M := (yX4_remember, 4, cX4_remember, 1, none, 2, 43, [])
def mX4_huntersAheadOf : pm_M := (yX4_huntersAheadOf, 4, cX4_huntersAheadOf, 4, some .int, 1, 24, [])
def mX4_isAhead : pm_M := (yX4_isAhead, 4, cX4_isAhead, 5, some .boolean, 0, 0, [])
def mJ6_bitCount_0f7a4 : pm_M := (yJ6_bitCount_0f7a4, 6, cJ6_bitCount_0f7a4, 1, some .int, 0, 0, [])
def mJ9_max_7cf53 : pm_M := (yJ9_max_7cf53, 7, cJ9_max_7cf53, 2, some .int, 0, 0, [])
def mJ9_min_7cf53 : pm_M := (yJ9_min_7cf53, 7, cJ9_min_7cf53, 2, some .int, 0, 0, [])
def mL_cell : pm_M := (yL_cell, 8, cL_cell, 3, some .int, 0, 0, [])
def mL_low : pm_M := (yL_low, 8, cL_low, 2, some .int, 0, 0, [])
def mL_sum : pm_M := (yL_sum, 8, cL_sum, 4, some .long, 4, 89, [1])
def mL_refused : pm_M := (yL_refused, 8, cL_refused, 8, some .boolean, 5, 116, [1])
def mL_money : pm_M := (yL_money, 8, cL_money, 4, some .long, 3, 67, [1])
def mL_isReport : pm_M := (yL_isReport, 8, cL_isReport, 9, some .boolean, 4, 92, [])
def mL_fits : pm_M := (yL_fits, 8, cL_fits, 15, some .boolean, 5, 120, [9])
def mL_comesSo : pm_M := (yL_comesSo, 8, cL_comesSo, 6, some .boolean, 5, 116, [3])
def mL_isFilled : pm_M := (yL_isFilled, 8, cL_isFilled, 5, some .boolean, 5, 112, [2])
def mL_acts : pm_M := (yL_acts, 8, cL_acts, 19, some .boolean, 5, 116, [7, 16])
def mL_law : pm_M := (yL_law, 8, cL_law, 11, some .boolean, 8, 308, [9])
def tb_f : List (Nat × Nat × Nat × Nat) := [(0, 7, 0, 0), (1, 70, 0, 0), (4, 173, 0, 0), (0, 13, 0, 1), (1, 73, 0, 1), (4, 178, 0, 1), (0, 16, 0, 2), (1, 76, 0, 2), (4, 181, 0, 2), (2, 7, 2, 0), (1, 141, 2, 0), (4, 197, 2, 0), (2, 13, 2, 1), (1, 118, 2, 1), (4, 205, 2, 1), (2, 16, 2, 2), (1, 121, 2, 2), (4, 208, 2, 2), (2, 19, 2, 3), (1, 170, 2, 3), (4, 211, 2, 3), (3, 15, 3, 0), (1, 115, 3, 0), (4, 214, 3, 0), (3, 18, 3, 1), (1, 99, 3, 1), (4, 217, 3, 1), (3, 21, 3, 2), (4, 220, 3, 2), (3, 30, 3, 3), (4, 91, 3, 3), (1, 86, 3, 3), (3, 33, 3, 4), (4, 99, 3, 4), (1, 102, 3, 4), (3, 9, 3, 5), (4, 96, 3, 5), (1, 93, 3, 5), (3, 36, 3, 6), (4, 110, 3, 6), (1, 109, 3, 6), (3, 39, 3, 7), (4, 116, 3, 7), (1, 112, 3, 7), (3, 24, 3, 8), (1, 134, 3, 8), (4, 229, 3, 8), (3, 42, 3, 9), (1, 148, 3, 9), (4, 232, 3, 9), (3, 45, 3, 10), (1, 151, 3, 10), (4, 240, 3, 10), (3, 48, 3, 11), (4, 129, 3, 11), (1, 163, 3, 11), (1, 11, 1, 0), (4, 169, 1, 0), (1, 20, 1, 1), (4, 190, 1, 1), (1, 27, 1, 2), (4, 87, 1, 2), (1, 39, 1, 3), (4, 38, 1, 3), (1, 46, 1, 4), (4, 48, 1, 4), (1, 52, 1, 5), (4, 73, 1, 5), (1, 58, 1, 6), (4, 144, 1, 6), (1, 61, 1, 7), (4, 56, 1, 7), (1, 32, 1, 8), (4, 60, 1, 8), (1, 36, 1, 9), (4, 63, 1, 9), (1, 64, 1, 10), (4, 160, 1, 10), (1, 67, 1, 11), (4, 163, 1, 11), (4, 10, 4, 0), (4, 16, 4, 1), (4, 19, 4, 2), (4, 23, 4, 3), (4, 27, 4, 4), (4, 31, 4, 5)]
def tb_c : List (Nat × Nat × Nat × pm_M × Nat) := [
  (8, 101, 2, mX4_init, 0),
  (4, 1, 3, mL_law, 0),
  (4, 9, 2, mX1_init, 0),
  (1, 3, 3, mL_law, 0),
  (1, 17, 2, mX0_init, 0),
  (0, 1, 3, mL_law, 0),
  (1, 24, 2, mX2_init, 0),
  (2, 1, 3, mL_law, 0),
  (1, 31, 2, mX3_init, 0),
  (3, 3, 3, mL_law, 0),
  (8, 37, 0, mX4_addAsset, 2),
  (4, 34, 1, mX4_isOutside, 3),
  (4, 41, 0, mX4_remember, 0),
  (4, 150, 0, mX1_copyFrom, 1),
  (1, 42, 0, mX0_copyFrom, 1),
  (1, 49, 0, mX2_copyFrom, 1),
  (1, 55, 0, mX3_copyFrom, 1),
  (4, 251, 5, mJ9_min_7cf53, 2),
  (4, 44, 0, mX1_openAsset, 2),
  (8, 113, 0, mX4_addHunter, 0),
  (4, 51, 0, mX1_openHunter, 0),
  (1, 79, 0, mX2_clear, 0),
  (8, 43, 0, mX4_setRate, 1),
  (8, 46, 0, mX4_setBonus, 1),
  (8, 90, 0, mX4_undo, 0),
  (8, 17, 0, mX4_count, 1),
  (4, 154, 0, mX1_reportsInState, 1),
  (4, 157, 0, mX1_moneyInPools, 0),
  (4, 166, 0, mX1_openAppeals, 0),
  (8, 109, 1, mL_cell, 2),
  (8, 95, 1, mL_low, 2),
  (8, 31, 1, mL_sum, 1),
  (8, 9, 0, mX4_lack, 0),
  (4, 187, 0, mX1_payablePrices, 1),
  (1, 176, 0, mX3_isPayable, 0),
  (1, 124, 0, mX1_priceOf, 1),
  (1, 105, 0, mX1_priceWith, 2),
  (4, 243, 4, mJ9_max_7cf53, 2),
  (8, 21, 0, mX4_asset, 2),
  (4, 70, 0, mX1_hasAsset, 1),
  (4, 184, 0, mX1_reportsFor, 1),
  (8, 25, 0, mX4_hunter, 2),
  (4, 66, 0, mX1_hasHunter, 1),
  (4, 194, 0, mX1_reportsBy, 1),
  (4, 202, 0, mX1_standingOf, 1),
  (1, 173, 1, mX1_standingFor, 1),
  (8, 28, 0, mX4_reportOf, 2),
  (4, 80, 0, mX1_hasReport, 1),
  (4, 223, 0, mX3_hasSeverity, 0),
  (3, 52, 0, mX3_isPayable, 0),
  (4, 226, 0, mX1_foldedReports, 1),
  (4, 102, 0, mX1_priceOf, 1),
  (4, 235, 1, mJ6_bitCount_0f7a4, 1),
  (8, 102, 1, mL_refused, 1),
  (8, 40, 0, mX4_fill, 1),
  (8, 49, 0, mX4_report, 3),
  (4, 76, 0, mX1_openReport, 3),
  (1, 82, 0, mX3_open, 3),
  (3, 27, 0, mX3_makeNew, 0),
  (8, 53, 0, mX4_fold, 1),
  (4, 83, 0, mX1_foldTarget, 1),
  (1, 89, 0, mX3_tellsSameAs, 1),
  (8, 56, 0, mX4_grade, 2),
  (8, 59, 0, mX4_refuse, 1),
  (4, 106, 0, mX3_isPayable, 0),
  (4, 113, 0, mX1_releaseFolded, 1),
  (1, 96, 0, mX3_makeNew, 0),
  (8, 62, 0, mX4_appeal, 2),
  (4, 119, 0, mX1_priceWith, 2),
  (8, 65, 0, mX4_decide, 2),
  (4, 123, 0, mX1_closeAppeal, 2),
  (8, 68, 0, mX4_pay, 1),
  (4, 126, 0, mX1_payOrWait, 1),
  (1, 128, 5, mJ9_min_7cf53, 2),
  (1, 137, 0, mX1_shareOut, 2),
  (8, 71, 0, mX4_retest, 3),
  (4, 133, 0, mX3_isRetestedBy, 1),
  (4, 136, 0, mX1_isReportedBy, 2),
  (4, 140, 0, mX1_takeRetest, 3),
  (1, 154, 1, mJ6_bitCount_0f7a4, 1),
  (1, 159, 0, mX1_giveBonuses, 1),
  (1, 167, 0, mX1_releaseFolded, 1),
  (8, 74, 0, mX4_pass, 1),
  (4, 147, 0, mX1_beginQuarter, 0),
  (1, 144, 0, mX1_payOrWait, 1),
  (8, 77, 0, mX4_original, 1),
  (8, 80, 0, mX4_paidIn, 1),
  (8, 83, 0, mX4_best, 1),
  (4, 248, 0, mX4_huntersAheadOf, 1),
  (4, 254, 0, mX4_isAhead, 2),
  (8, 106, 1, mL_fits, 1),
  (8, 86, 1, mL_isReport, 2),
  (8, 120, 1, mL_comesSo, 2),
  (8, 123, 1, mL_isFilled, 1),
  (8, 116, 1, mL_acts, 4),
  (8, 98, 1, mL_money, 1)]
def tb_k : List (Nat × Nat × Int32) := [(8, 7, 916318735), (8, 8, 2147483647), (6, 265, 1431655765), (6, 266, 858993459), (6, 267, 252645135), (4, 55, 100000), (4, 59, 1000000), (8, 93, 100000), (8, 94, 1000000)]
def tb_q : List (Nat × Nat × Int64) := [(8, 15, 31)]
def tb_n : List (Nat × Nat × Nat) := [(4, 7, 1), (1, 9, 0), (1, 18, 2), (1, 25, 3), (8, 10, 4)]
def tb_a : List (Nat × Nat × Nat) := [(4, 7, 1), (1, 9, 0), (1, 18, 2), (1, 25, 3)]
def tb_s : Nat → Nat → Nat := fun c j => match c with
  | 0 => [0, 0, 0].getD j 0
  | 1 => [2, 2, 2, 0, 0, 0, 0, 0, 0, 0, 0, 0].getD j 0
  | 2 => [0, 0, 0, 0].getD j 0
  | 3 => [0, 0, 0, 0, 0, 0, 0, 0, 0, 0, 0, 1].getD j 0
  | 4 => [2, 2, 2, 2, 0, 0].getD j 0
  | _ => 0
def tb_l : Nat → Nat := fun c => [3, 12, 4, 12, 6].getD c 0
def tb_acs : List Nat := [0, 1, 2, 3]
def tb : pm_T := (fun n x => (tb_f.find? (fun e => e.1 == n && e.2.1 == x)).map (fun e => (e.2.2.1, e.2.2.2)), fun n x => (tb_c.find? (fun e => e.1 == n && e.2.1 == x)).map (fun e => (e.2.2.1, e.2.2.2.1, e.2.2.2.2)), fun n x => (tb_k.find? (fun e => e.1 == n && e.2.1 == x)).map (fun e => e.2.2), fun n x => (tb_n.find? (fun e => e.1 == n && e.2.1 == x)).map (fun e => e.2.2), fun n x => (tb_a.find? (fun e => e.1 == n && e.2.1 == x)).map (fun e => e.2.2), tb_s, tb_l, fun n x => (tb_q.find? (fun e => e.1 == n && e.2.1 == x)).map (fun e => e.2.2))
def tb_T : List Jvm.Cond := lw_tbl.filter goodWord
theorem tb_in {w : Jvm.Cond} (i : Nat) (h : lw_tbl[i]? = some w) (hg : goodWord w = true) : w ∈ tb_T := List.mem_filter.mpr ⟨List.mem_of_getElem? h, hg⟩
theorem tb_find {α : Type} {L : List α} {p : α → Bool} {a : α} (h : L.find? p = some a) : a ∈ L ∧ p a = true := ⟨List.mem_of_find?_eq_some h, List.find?_some h⟩
